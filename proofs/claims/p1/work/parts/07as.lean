set_option maxHeartbeats 4000000 in
set_option maxRecDepth 100000 in
theorem kx_X3_count_10 (l : Launch) (dC : Nat → ClassId) (dI : Nat → Nat → Nat) (h0 : Nat) (h1 : Nat) (h2 : Nat) (h3 : Nat) (h4 : Nat) (h5 : Nat) (z0 : Nat) (z1 : Nat) (z2 : Nat) (z3 : Nat) (z4 : Nat) (z5 : Nat) (z6 : Nat) (z7 : Nat) (z8 : Nat) (k0 : ClassId) (sz : Nat) : Met l yX3_count wsX3_count ({ frames := 1, cells := 0, slots := 0, locals := 23 }) (va_Pc [.ref h0, .int 2, .int 2] (fun U => U.heap.size = sz ∧ va_P (dC, dI) vwCl [(h0, .inr (7, [.ref h1, .ref z0, .ref z1, .ref z2, .ref z3, .ref z4, .int 0, .int 0, .int 0])), (h1, .inl (k0, 4, .inr (.inr (.inr (.inr (va_up (va_up (va_up (va_up (fun _ => none) 0 (some h2)) 1 (some h3)) 2 (some h4)) 3 (some h5))))))), (h2, .inr (6, [.ref z5, .int 0])), (h3, .inr (6, [.ref z6, .int 0])), (h4, .inr (6, [.ref z7, .int 0])), (h5, .inr (6, [.ref z8, .int 0]))] U.heap ∧ va_K (dC, dI) vwCl [(k0, .object "Rewriterope$Text")] U ∧ va_D (fun _ => True) [(h0, .inr (7, [.ref h1, .ref z0, .ref z1, .ref z2, .ref z3, .ref z4, .int 0, .int 0, .int 0])), (h1, .inl (k0, 4, .inr (.inr (.inr (.inr (va_up (va_up (va_up (va_up (fun _ => none) 0 (some h2)) 1 (some h3)) 2 (some h4)) 3 (some h5))))))), (h2, .inr (6, [.ref z5, .int 0])), (h3, .inr (6, [.ref z6, .int 0])), (h4, .inr (6, [.ref z7, .int 0])), (h5, .inr (6, [.ref z8, .int 0]))])) (va_Qi (fun (r : Int32) (_ : Unit) => r = 1) (fun (_ : Unit) (t : State) => va_P (dC, dI) vwCl [(h0, .inr (7, [.ref h1, .ref z0, .ref z1, .ref z2, .ref z3, .ref z4, .int 0, .int 0, .int 0])), (h1, .inl (k0, 4, .inr (.inr (.inr (.inr (va_up (va_up (va_up (va_up (fun _ => none) 0 (some h2)) 1 (some h3)) 2 (some h4)) 3 (some h5))))))), (h2, .inr (6, [.ref z5, .int 0])), (h3, .inr (6, [.ref z6, .int 0])), (h4, .inr (6, [.ref z7, .int 0])), (h5, .inr (6, [.ref z8, .int 0]))] t.heap ∧ va_K (dC, dI) vwCl [(k0, .object "Rewriterope$Text")] t ∧ va_D (va_A [(h0, .inr (7, [.ref h1, .ref z0, .ref z1, .ref z2, .ref z3, .ref z4, .int 0, .int 0, .int 0])), (h1, .inl (k0, 4, .inr (.inr (.inr (.inr (va_up (va_up (va_up (va_up (fun _ => none) 0 (some h2)) 1 (some h3)) 2 (some h4)) 3 (some h5))))))), (h2, .inr (6, [.ref z5, .int 0])), (h3, .inr (6, [.ref z6, .int 0])), (h4, .inr (6, [.ref z7, .int 0])), (h5, .inr (6, [.ref z8, .int 0]))] sz) [(h0, .inr (7, [.ref h1, .ref z0, .ref z1, .ref z2, .ref z3, .ref z4, .int 0, .int 0, .int 0])), (h1, .inl (k0, 4, .inr (.inr (.inr (.inr (va_up (va_up (va_up (va_up (fun _ => none) 0 (some h2)) 1 (some h3)) 2 (some h4)) 3 (some h5))))))), (h2, .inr (6, [.ref z5, .int 0])), (h3, .inr (6, [.ref z6, .int 0])), (h4, .inr (6, [.ref z7, .int 0])), (h5, .inr (6, [.ref z8, .int 0]))]) (va_A [(h0, .inr (7, [.ref h1, .ref z0, .ref z1, .ref z2, .ref z3, .ref z4, .int 0, .int 0, .int 0])), (h1, .inl (k0, 4, .inr (.inr (.inr (.inr (va_up (va_up (va_up (va_up (fun _ => none) 0 (some h2)) 1 (some h3)) 2 (some h4)) 3 (some h5))))))), (h2, .inr (6, [.ref z5, .int 0])), (h3, .inr (6, [.ref z6, .int 0])), (h4, .inr (6, [.ref z7, .int 0])), (h5, .inr (6, [.ref z8, .int 0]))] sz)) 0 0 (va_A [(h0, .inr (7, [.ref h1, .ref z0, .ref z1, .ref z2, .ref z3, .ref z4, .int 0, .int 0, .int 0])), (h1, .inl (k0, 4, .inr (.inr (.inr (.inr (va_up (va_up (va_up (va_up (fun _ => none) 0 (some h2)) 1 (some h3)) 2 (some h4)) 3 (some h5))))))), (h2, .inr (6, [.ref z5, .int 0])), (h3, .inr (6, [.ref z6, .int 0])), (h4, .inr (6, [.ref z7, .int 0])), (h5, .inr (6, [.ref z8, .int 0]))] sz) := by
  refine Met.ofW (cc := cX3_count) (maxL := 5) (ret := (some .int)) (by decide) rfl ?_
  intro p e s m args below meth c s₁ B hml hv
  obtain ⟨rfl, hsz, hP, hK, hD0⟩ := hv
  have hx := B.exec
  have hb := B.bytes
  have hr := B.returns
  have hts := atoms_spec (ws := wsX3_count) B.pre
  have hown : s.vm.findClass RX3 = some m.cls := findClass_of_methodNamed B.named
  have hlocks := B.notSynchronized
  subst hsz
  have hD := hD0.self (sz := s.heap.size)
  generalize hAe : va_A [(h0, .inr (7, [.ref h1, .ref z0, .ref z1, .ref z2, .ref z3, .ref z4, .int 0, .int 0, .int 0])), (h1, .inl (k0, 4, .inr (.inr (.inr (.inr (va_up (va_up (va_up (va_up (fun _ => none) 0 (some h2)) 1 (some h3)) 2 (some h4)) 3 (some h5))))))), (h2, .inr (6, [.ref z5, .int 0])), (h3, .inr (6, [.ref z6, .int 0])), (h4, .inr (6, [.ref z7, .int 0])), (h5, .inr (6, [.ref z8, .int 0]))] s.heap.size = A at hD ⊢
  have hA : ∀ q : Nat, s.heap.size ≤ q → A q := fun q h => by rw [← hAe]; exact Or.inr h
  have hS : va_S A s.heap s.heap [] := va_S.rf
  have hP : va_P (dC, dI) vwCl [(h0, .inr (7, [.ref h1, .ref z0, .ref z1, .ref z2, .ref z3, .ref z4, .int 0, .int 0, .int 0])), (h1, .inl (k0, 4, .inr (.inr (.inr (.inr (va_up (va_up (va_up (va_up (fun _ => none) 0 (some h2)) 1 (some h3)) 2 (some h4)) 3 (some h5))))))), (h2, .inr (6, [.ref z5, .int 0])), (h3, .inr (6, [.ref z6, .int 0])), (h4, .inr (6, [.ref z7, .int 0])), (h5, .inr (6, [.ref z8, .int 0]))] s.heap := hP
  have hl := lv_entry ([.ref h0, .int 2, .int 2]) (n := 5) (Nat.le_of_ble_eq_true rfl)
  rw [lg_entry_eq]
  generalize (lg_sl ([.ref h0, .int 2, .int 2]) ++ List.replicate (5 - (lg_sl ([.ref h0, .int 2, .int 2])).length) Slot.unset).toArray = ls at hl ⊢
  have hl : lv_has ls 5 [(0, .ref h0), (1, .int 2), (2, .int 2)] := hl
  refine lv_iload_n hx hb dX3_count_0 rfl (lv_at hl 1 rfl) ?_
  have hPc := hP.sub (ws' := []) [] rfl
  have hDc := hD.sub (ws' := []) [] (by decide) rfl
  have hKc := hK.sub (tys' := []) [] rfl
  have hFc := va_free (wc := []) hD hS hA [] rfl
  refine va_callv (va_runS (As := [.int 2]) (rest := []) ⟨hx, hb, hml, hown, hts⟩ (kx_X3_needRope_2 l dC dI s.heap.size) (cwS 1 hts gX3_count_X3_needRope rfl rfl rfl (by decide +kernel) ⟨Nat.le_of_ble_eq_true rfl, Nat.le_of_ble_eq_true rfl⟩) ⟨fun a U g mk q => by obtain ⟨q0, q1, qP, qK, qD⟩ := q; exact ⟨q0, q1, qP, va_K.moved (u := U) (U := U.calling g mk a) (Vm.Alike.refl U.vm) qK, qD⟩, fun U hU hW => ⟨rfl, by rw [hU], by rw [hU]; exact hPc, va_K.moved hW.alike hKc, hDc.weaken (fun _ _ _ _ => trivial)⟩⟩ rfl rfl hl.1 rfl (lv_room (Nat.le_of_ble_eq_true rfl)) dX3_count_1 ⟨Nat.le_of_ble_eq_true rfl, Nat.le_of_ble_eq_true rfl⟩) hS (fun q _ h => hFc q h) hFc (fun u t H1 locs ht hvm hw hB hz1 hk1 hS => ?_)
  obtain ⟨hP1, hK1, hD1⟩ := hB
  rw [ht] at hP1
  have hK1 := va_K.moved hvm.symm hK1
  obtain ⟨hP, hD⟩ := va_join (wr := [(h0, .inr (7, [.ref h1, .ref z0, .ref z1, .ref z2, .ref z3, .ref z4, .int 0, .int 0, .int 0])), (h1, .inl (k0, 4, .inr (.inr (.inr (.inr (va_up (va_up (va_up (va_up (fun _ => none) 0 (some h2)) 1 (some h3)) 2 (some h4)) 3 (some h5))))))), (h2, .inr (6, [.ref z5, .int 0])), (h3, .inr (6, [.ref z6, .int 0])), (h4, .inr (6, [.ref z7, .int 0])), (h5, .inr (6, [.ref z8, .int 0]))]) (w1 := []) hP hD [] [0, 1, 2, 3, 4, 5] rfl rfl (by decide) (by decide) hk1 hFc hP1 hD1
  generalize H1 = H at hP hS ⊢
  have hP : va_P (dC, dI) vwCl [(h0, .inr (7, [.ref h1, .ref z0, .ref z1, .ref z2, .ref z3, .ref z4, .int 0, .int 0, .int 0])), (h1, .inl (k0, 4, .inr (.inr (.inr (.inr (va_up (va_up (va_up (va_up (fun _ => none) 0 (some h2)) 1 (some h3)) 2 (some h4)) 3 (some h5))))))), (h2, .inr (6, [.ref z5, .int 0])), (h3, .inr (6, [.ref z6, .int 0])), (h4, .inr (6, [.ref z7, .int 0])), (h5, .inr (6, [.ref z8, .int 0]))] H := hP
  have hD : va_D A [(h0, .inr (7, [.ref h1, .ref z0, .ref z1, .ref z2, .ref z3, .ref z4, .int 0, .int 0, .int 0])), (h1, .inl (k0, 4, .inr (.inr (.inr (.inr (va_up (va_up (va_up (va_up (fun _ => none) 0 (some h2)) 1 (some h3)) 2 (some h4)) 3 (some h5))))))), (h2, .inr (6, [.ref z5, .int 0])), (h3, .inr (6, [.ref z6, .int 0])), (h4, .inr (6, [.ref z7, .int 0])), (h5, .inr (6, [.ref z8, .int 0]))] := hD
  refine lv_iload_n hx hb dX3_count_4 rfl (lv_at hl 2 rfl) ?_
  have hPc := hP.sub (ws' := []) [] rfl
  have hDc := hD.sub (ws' := []) [] (by decide) rfl
  have hKc := hK.sub (tys' := []) [] rfl
  have hFc := va_free (wc := []) hD hS hA [] rfl
  refine va_callv (va_runS (As := [.int 2]) (rest := []) ⟨hx, hb, hml, hown, hts⟩ (kx_X3_needRope_2 l dC dI H.size) (cwS 1 hts gX3_count_X3_needRope rfl rfl rfl (by decide +kernel) ⟨Nat.le_of_ble_eq_true rfl, Nat.le_of_ble_eq_true rfl⟩) ⟨fun a U g mk q => by obtain ⟨q0, q1, qP, qK, qD⟩ := q; exact ⟨q0, q1, qP, va_K.moved (u := U) (U := U.calling g mk a) (Vm.Alike.refl U.vm) qK, qD⟩, fun U hU hW => ⟨rfl, by rw [hU], by rw [hU]; exact hPc, va_K.moved hW.alike hKc, hDc.weaken (fun _ _ _ _ => trivial)⟩⟩ rfl rfl hl.1 rfl (lv_room (Nat.le_of_ble_eq_true rfl)) dX3_count_5 ⟨Nat.le_of_ble_eq_true rfl, Nat.le_of_ble_eq_true rfl⟩) hS (fun q _ h => hFc q h) hFc (fun u t H1 locs ht hvm hw hB hz1 hk1 hS => ?_)
  obtain ⟨hP1, hK1, hD1⟩ := hB
  rw [ht] at hP1
  have hK1 := va_K.moved hvm.symm hK1
  obtain ⟨hP, hD⟩ := va_join (wr := [(h0, .inr (7, [.ref h1, .ref z0, .ref z1, .ref z2, .ref z3, .ref z4, .int 0, .int 0, .int 0])), (h1, .inl (k0, 4, .inr (.inr (.inr (.inr (va_up (va_up (va_up (va_up (fun _ => none) 0 (some h2)) 1 (some h3)) 2 (some h4)) 3 (some h5))))))), (h2, .inr (6, [.ref z5, .int 0])), (h3, .inr (6, [.ref z6, .int 0])), (h4, .inr (6, [.ref z7, .int 0])), (h5, .inr (6, [.ref z8, .int 0]))]) (w1 := []) hP hD [] [0, 1, 2, 3, 4, 5] rfl rfl (by decide) (by decide) hk1 hFc hP1 hD1
  generalize H1 = H at hP hS ⊢
  have hP : va_P (dC, dI) vwCl [(h0, .inr (7, [.ref h1, .ref z0, .ref z1, .ref z2, .ref z3, .ref z4, .int 0, .int 0, .int 0])), (h1, .inl (k0, 4, .inr (.inr (.inr (.inr (va_up (va_up (va_up (va_up (fun _ => none) 0 (some h2)) 1 (some h3)) 2 (some h4)) 3 (some h5))))))), (h2, .inr (6, [.ref z5, .int 0])), (h3, .inr (6, [.ref z6, .int 0])), (h4, .inr (6, [.ref z7, .int 0])), (h5, .inr (6, [.ref z8, .int 0]))] H := hP
  have hD : va_D A [(h0, .inr (7, [.ref h1, .ref z0, .ref z1, .ref z2, .ref z3, .ref z4, .int 0, .int 0, .int 0])), (h1, .inl (k0, 4, .inr (.inr (.inr (.inr (va_up (va_up (va_up (va_up (fun _ => none) 0 (some h2)) 1 (some h3)) 2 (some h4)) 3 (some h5))))))), (h2, .inr (6, [.ref z5, .int 0])), (h3, .inr (6, [.ref z6, .int 0])), (h4, .inr (6, [.ref z7, .int 0])), (h5, .inr (6, [.ref z8, .int 0]))] := hD
  refine lv_iconst (v := 0) hx hb dX3_count_8 (by decide) ?_
  refine lv_istore_n (lv' := [(3, .int 0), (0, .ref h0), (1, .int 2), (2, .int 2)]) hx hb dX3_count_9 rfl hl (by decide) rfl (fun ls hl => ?_)
  refine lv_iconst (v := 0) hx hb dX3_count_10 (by decide) ?_
  refine lv_istore (lv' := [(4, .int 0), (3, .int 0), (0, .ref h0), (1, .int 2), (2, .int 2)]) hx hb dX3_count_11 hl (by decide) rfl (fun ls hl => ?_)
  refine lv_iload hx hb dX3_count_13 (lv_at hl 0 rfl) ?_
  refine lv_aload_n hx hb dX3_count_15 rfl (lv_at hl 2 rfl) ?_
  refine va_get (D := (dC, dI)) (ci := 7) (v := .ref h1) (C := RX3) (T := TX3) (N := 9) hx hb hts (by decide +kernel) hown hK hP 0 rfl rfl 0 (by decide) (hts (.fieldLink RX3 11 "Rewriterope" "ropes" "[LRewriterope$Text;") (by decide +kernel)) (fun _ h9 => h9) rfl dX3_count_16 ?_
  refine lv_iload_n hx hb dX3_count_19 rfl (lv_at hl 3 rfl) ?_
  refine va_aldq (D := (dC, dI)) hx hb hK hP 1 0 rfl rfl (by unfold vp_in; decide) dX3_count_20 ?_
  refine W.eq (g2 := F0 m 21 ls [.ref h4, .int 0]) rfl ?_
  refine va_get (D := (dC, dI)) (ci := 6) (v := .int 0) (C := RX2) (T := TX2) (N := 2) hx hb hts (by decide +kernel) hown hK hP 4 rfl rfl 1 (by decide) (hts (.fieldLink RX3 65 "Rewriterope$Text" "length" "I") (by decide +kernel)) (fun _ h9 => h9) rfl dX3_count_21 ?_
  refine lv_icmp_gt (tgt := 56) hx hb dX3_count_24 (by decide) (fun c9 => absurd c9 (by decide)) (fun _ => ?_)
  refine lv_aload_n hx hb dX3_count_27 rfl (lv_at hl 2 rfl) ?_
  refine va_get (D := (dC, dI)) (ci := 7) (v := .ref h1) (C := RX3) (T := TX3) (N := 9) hx hb hts (by decide +kernel) hown hK hP 0 rfl rfl 0 (by decide) (hts (.fieldLink RX3 11 "Rewriterope" "ropes" "[LRewriterope$Text;") (by decide +kernel)) (fun _ h9 => h9) rfl dX3_count_28 ?_
  refine lv_iload_n hx hb dX3_count_31 rfl (lv_at hl 3 rfl) ?_
  refine va_aldq (D := (dC, dI)) hx hb hK hP 1 0 rfl rfl (by unfold vp_in; decide) dX3_count_32 ?_
  refine W.eq (g2 := F0 m 33 ls [.ref h4]) rfl ?_
  refine lv_aload_n hx hb dX3_count_33 rfl (lv_at hl 2 rfl) ?_
  refine va_get (D := (dC, dI)) (ci := 7) (v := .ref h1) (C := RX3) (T := TX3) (N := 9) hx hb hts (by decide +kernel) hown hK hP 0 rfl rfl 0 (by decide) (hts (.fieldLink RX3 11 "Rewriterope" "ropes" "[LRewriterope$Text;") (by decide +kernel)) (fun _ h9 => h9) rfl dX3_count_34 ?_
  refine lv_iload_n hx hb dX3_count_37 rfl (lv_at hl 4 rfl) ?_
  refine va_aldq (D := (dC, dI)) hx hb hK hP 1 0 rfl rfl (by unfold vp_in; decide) dX3_count_38 ?_
  refine W.eq (g2 := F0 m 39 ls [.ref h4, .ref h4]) rfl ?_
  refine lv_iload hx hb dX3_count_39 (lv_at hl 0 rfl) ?_
  have hPc := hP.sub (ws' := [(h4, .inr (6, [.ref z7, .int 0]))]) [4] rfl
  have hDc := hD.sub (ws' := [(h4, .inr (6, [.ref z7, .int 0]))]) [4] (by decide) rfl
  have hKc := hK.sub (tys' := []) [] rfl
  have hFc := va_free (wc := [(h4, .inr (6, [.ref z7, .int 0]))]) hD hS hA [4] rfl
  refine va_calli (va_runV (As := [.ref h4, .int 0]) (rest := []) ⟨hx, hb, hml, hown, hts⟩ (kx_X2_holds_0 l dC dI h4 z7 H.size) (cwV 2 hts gX3_count_X2_holds rfl rfl rfl (by decide +kernel) ⟨Nat.le_of_ble_eq_true rfl, Nat.le_of_ble_eq_true rfl⟩) ⟨fun a U g mk q => by obtain ⟨q0, q1, qP, qK, qD⟩ := q; exact ⟨q0, q1, qP, va_K.moved (u := U) (U := U.calling g mk a) (Vm.Alike.refl U.vm) qK, qD⟩, va_recv hKc hPc (ci := 6) (q0 := 0) rfl rfl, fun U hU hW => ⟨rfl, by rw [hU], by rw [hU]; exact hPc, va_K.moved hW.alike hKc, hDc.weaken (fun _ _ _ _ => trivial)⟩⟩ rfl rfl hl.1 rfl (lv_room (Nat.le_of_ble_eq_true rfl)) dX3_count_41 ⟨Nat.le_of_ble_eq_true rfl, Nat.le_of_ble_eq_true rfl⟩) hS (fun q _ h => hFc q h) hFc (fun r9 u t H1 locs ht hvm hw hB hz1 hk1 hS => ?_)
  obtain rfl := hw
  obtain ⟨hP1, hK1, hD1⟩ := hB
  rw [ht] at hP1
  have hK1 := va_K.moved hvm.symm hK1
  obtain ⟨hP, hD⟩ := va_join (wr := [(h0, .inr (7, [.ref h1, .ref z0, .ref z1, .ref z2, .ref z3, .ref z4, .int 0, .int 0, .int 0])), (h1, .inl (k0, 4, .inr (.inr (.inr (.inr (va_up (va_up (va_up (va_up (fun _ => none) 0 (some h2)) 1 (some h3)) 2 (some h4)) 3 (some h5))))))), (h2, .inr (6, [.ref z5, .int 0])), (h3, .inr (6, [.ref z6, .int 0])), (h5, .inr (6, [.ref z8, .int 0]))]) (w1 := [(h4, .inr (6, [.ref z7, .int 0]))]) hP hD [4] [0, 1, 2, 3, 5] rfl rfl (by decide) (by decide) hk1 hFc hP1 hD1
  generalize H1 = H at hP hS ⊢
  have hP : va_P (dC, dI) vwCl [(h0, .inr (7, [.ref h1, .ref z0, .ref z1, .ref z2, .ref z3, .ref z4, .int 0, .int 0, .int 0])), (h1, .inl (k0, 4, .inr (.inr (.inr (.inr (va_up (va_up (va_up (va_up (fun _ => none) 0 (some h2)) 1 (some h3)) 2 (some h4)) 3 (some h5))))))), (h2, .inr (6, [.ref z5, .int 0])), (h3, .inr (6, [.ref z6, .int 0])), (h5, .inr (6, [.ref z8, .int 0])), (h4, .inr (6, [.ref z7, .int 0]))] H := hP
  have hD : va_D A [(h0, .inr (7, [.ref h1, .ref z0, .ref z1, .ref z2, .ref z3, .ref z4, .int 0, .int 0, .int 0])), (h1, .inl (k0, 4, .inr (.inr (.inr (.inr (va_up (va_up (va_up (va_up (fun _ => none) 0 (some h2)) 1 (some h3)) 2 (some h4)) 3 (some h5))))))), (h2, .inr (6, [.ref z5, .int 0])), (h3, .inr (6, [.ref z6, .int 0])), (h5, .inr (6, [.ref z8, .int 0])), (h4, .inr (6, [.ref z7, .int 0]))] := hD
  refine lv_if_eq (tgt := 50) hx hb dX3_count_44 (by decide) (fun c9 => absurd c9 (by decide)) (fun _ => ?_)
  refine lv_iinc (v := 1) (lv' := [(3, .int 1), (4, .int 0), (0, .ref h0), (1, .int 2), (2, .int 2)]) hx hb dX3_count_47 hl (k := 1) rfl (by decide) (by decide) rfl (fun ls hl => ?_)
  refine lv_iinc (v := 1) (lv' := [(4, .int 1), (3, .int 1), (0, .ref h0), (1, .int 2), (2, .int 2)]) hx hb dX3_count_50 hl (k := 1) rfl (by decide) (by decide) rfl (fun ls hl => ?_)
  refine lv_goto (tgt := 13) hx hb dX3_count_53 (by decide) ?_
  refine lv_iload hx hb dX3_count_13 (lv_at hl 0 rfl) ?_
  refine lv_aload_n hx hb dX3_count_15 rfl (lv_at hl 2 rfl) ?_
  refine va_get (D := (dC, dI)) (ci := 7) (v := .ref h1) (C := RX3) (T := TX3) (N := 9) hx hb hts (by decide +kernel) hown hK hP 0 rfl rfl 0 (by decide) (hts (.fieldLink RX3 11 "Rewriterope" "ropes" "[LRewriterope$Text;") (by decide +kernel)) (fun _ h9 => h9) rfl dX3_count_16 ?_
  refine lv_iload_n hx hb dX3_count_19 rfl (lv_at hl 3 rfl) ?_
  refine va_aldq (D := (dC, dI)) hx hb hK hP 1 0 rfl rfl (by unfold vp_in; decide) dX3_count_20 ?_
  refine W.eq (g2 := F0 m 21 ls [.ref h4, .int 1]) rfl ?_
  refine va_get (D := (dC, dI)) (ci := 6) (v := .int 0) (C := RX2) (T := TX2) (N := 2) hx hb hts (by decide +kernel) hown hK hP 5 rfl rfl 1 (by decide) (hts (.fieldLink RX3 65 "Rewriterope$Text" "length" "I") (by decide +kernel)) (fun _ h9 => h9) rfl dX3_count_21 ?_
  refine lv_icmp_gt (tgt := 56) hx hb dX3_count_24 (by decide) (fun _ => ?_) (fun c9 => absurd (by decide) c9)
  refine lv_iload_n hx hb dX3_count_56 rfl (lv_at hl 1 rfl) ?_
  have hP := hP.sub (ws' := [(h0, .inr (7, [.ref h1, .ref z0, .ref z1, .ref z2, .ref z3, .ref z4, .int 0, .int 0, .int 0])), (h1, .inl (k0, 4, .inr (.inr (.inr (.inr (va_up (va_up (va_up (va_up (fun _ => none) 0 (some h2)) 1 (some h3)) 2 (some h4)) 3 (some h5))))))), (h2, .inr (6, [.ref z5, .int 0])), (h3, .inr (6, [.ref z6, .int 0])), (h4, .inr (6, [.ref z7, .int 0])), (h5, .inr (6, [.ref z8, .int 0]))]) [0, 1, 2, 3, 5, 4] rfl
  have hD := hD.sub (ws' := [(h0, .inr (7, [.ref h1, .ref z0, .ref z1, .ref z2, .ref z3, .ref z4, .int 0, .int 0, .int 0])), (h1, .inl (k0, 4, .inr (.inr (.inr (.inr (va_up (va_up (va_up (va_up (fun _ => none) 0 (some h2)) 1 (some h3)) 2 (some h4)) 3 (some h5))))))), (h2, .inr (6, [.ref z5, .int 0])), (h3, .inr (6, [.ref z6, .int 0])), (h4, .inr (6, [.ref z7, .int 0])), (h5, .inr (6, [.ref z8, .int 0]))]) [0, 1, 2, 3, 5, 4] (by decide) rfl
  exact W.iret (v := 1) hx hb hr (fun t ht hW => ⟨⟨1, (), rfl, rfl, by rw [ht]; exact hP, va_K.moved hW.alike hK, hD⟩, hS.F ht⟩) hS.2.2 dX3_count_57
set_option maxHeartbeats 4000000 in
set_option maxRecDepth 100000 in
theorem kx_X3_count_11 (l : Launch) (dC : Nat → ClassId) (dI : Nat → Nat → Nat) (h0 : Nat) (h1 : Nat) (h2 : Nat) (h3 : Nat) (h4 : Nat) (h5 : Nat) (z0 : Nat) (z1 : Nat) (z2 : Nat) (z3 : Nat) (z4 : Nat) (z5 : Nat) (z6 : Nat) (z7 : Nat) (z8 : Nat) (k0 : ClassId) (sz : Nat) : Met l yX3_count wsX3_count ({ frames := 1, cells := 0, slots := 0, locals := 23 }) (va_Pc [.ref h0, .int 2, .int 3] (fun U => U.heap.size = sz ∧ va_P (dC, dI) vwCl [(h0, .inr (7, [.ref h1, .ref z0, .ref z1, .ref z2, .ref z3, .ref z4, .int 0, .int 0, .int 0])), (h1, .inl (k0, 4, .inr (.inr (.inr (.inr (va_up (va_up (va_up (va_up (fun _ => none) 0 (some h2)) 1 (some h3)) 2 (some h4)) 3 (some h5))))))), (h2, .inr (6, [.ref z5, .int 0])), (h3, .inr (6, [.ref z6, .int 0])), (h4, .inr (6, [.ref z7, .int 0])), (h5, .inr (6, [.ref z8, .int 0]))] U.heap ∧ va_K (dC, dI) vwCl [(k0, .object "Rewriterope$Text")] U ∧ va_D (fun _ => True) [(h0, .inr (7, [.ref h1, .ref z0, .ref z1, .ref z2, .ref z3, .ref z4, .int 0, .int 0, .int 0])), (h1, .inl (k0, 4, .inr (.inr (.inr (.inr (va_up (va_up (va_up (va_up (fun _ => none) 0 (some h2)) 1 (some h3)) 2 (some h4)) 3 (some h5))))))), (h2, .inr (6, [.ref z5, .int 0])), (h3, .inr (6, [.ref z6, .int 0])), (h4, .inr (6, [.ref z7, .int 0])), (h5, .inr (6, [.ref z8, .int 0]))])) (va_Qi (fun (r : Int32) (_ : Unit) => r = 1) (fun (_ : Unit) (t : State) => va_P (dC, dI) vwCl [(h0, .inr (7, [.ref h1, .ref z0, .ref z1, .ref z2, .ref z3, .ref z4, .int 0, .int 0, .int 0])), (h1, .inl (k0, 4, .inr (.inr (.inr (.inr (va_up (va_up (va_up (va_up (fun _ => none) 0 (some h2)) 1 (some h3)) 2 (some h4)) 3 (some h5))))))), (h2, .inr (6, [.ref z5, .int 0])), (h3, .inr (6, [.ref z6, .int 0])), (h4, .inr (6, [.ref z7, .int 0])), (h5, .inr (6, [.ref z8, .int 0]))] t.heap ∧ va_K (dC, dI) vwCl [(k0, .object "Rewriterope$Text")] t ∧ va_D (va_A [(h0, .inr (7, [.ref h1, .ref z0, .ref z1, .ref z2, .ref z3, .ref z4, .int 0, .int 0, .int 0])), (h1, .inl (k0, 4, .inr (.inr (.inr (.inr (va_up (va_up (va_up (va_up (fun _ => none) 0 (some h2)) 1 (some h3)) 2 (some h4)) 3 (some h5))))))), (h2, .inr (6, [.ref z5, .int 0])), (h3, .inr (6, [.ref z6, .int 0])), (h4, .inr (6, [.ref z7, .int 0])), (h5, .inr (6, [.ref z8, .int 0]))] sz) [(h0, .inr (7, [.ref h1, .ref z0, .ref z1, .ref z2, .ref z3, .ref z4, .int 0, .int 0, .int 0])), (h1, .inl (k0, 4, .inr (.inr (.inr (.inr (va_up (va_up (va_up (va_up (fun _ => none) 0 (some h2)) 1 (some h3)) 2 (some h4)) 3 (some h5))))))), (h2, .inr (6, [.ref z5, .int 0])), (h3, .inr (6, [.ref z6, .int 0])), (h4, .inr (6, [.ref z7, .int 0])), (h5, .inr (6, [.ref z8, .int 0]))]) (va_A [(h0, .inr (7, [.ref h1, .ref z0, .ref z1, .ref z2, .ref z3, .ref z4, .int 0, .int 0, .int 0])), (h1, .inl (k0, 4, .inr (.inr (.inr (.inr (va_up (va_up (va_up (va_up (fun _ => none) 0 (some h2)) 1 (some h3)) 2 (some h4)) 3 (some h5))))))), (h2, .inr (6, [.ref z5, .int 0])), (h3, .inr (6, [.ref z6, .int 0])), (h4, .inr (6, [.ref z7, .int 0])), (h5, .inr (6, [.ref z8, .int 0]))] sz)) 0 0 (va_A [(h0, .inr (7, [.ref h1, .ref z0, .ref z1, .ref z2, .ref z3, .ref z4, .int 0, .int 0, .int 0])), (h1, .inl (k0, 4, .inr (.inr (.inr (.inr (va_up (va_up (va_up (va_up (fun _ => none) 0 (some h2)) 1 (some h3)) 2 (some h4)) 3 (some h5))))))), (h2, .inr (6, [.ref z5, .int 0])), (h3, .inr (6, [.ref z6, .int 0])), (h4, .inr (6, [.ref z7, .int 0])), (h5, .inr (6, [.ref z8, .int 0]))] sz) := by
  refine Met.ofW (cc := cX3_count) (maxL := 5) (ret := (some .int)) (by decide) rfl ?_
  intro p e s m args below meth c s₁ B hml hv
  obtain ⟨rfl, hsz, hP, hK, hD0⟩ := hv
  have hx := B.exec
  have hb := B.bytes
  have hr := B.returns
  have hts := atoms_spec (ws := wsX3_count) B.pre
  have hown : s.vm.findClass RX3 = some m.cls := findClass_of_methodNamed B.named
  have hlocks := B.notSynchronized
  subst hsz
  have hD := hD0.self (sz := s.heap.size)
  generalize hAe : va_A [(h0, .inr (7, [.ref h1, .ref z0, .ref z1, .ref z2, .ref z3, .ref z4, .int 0, .int 0, .int 0])), (h1, .inl (k0, 4, .inr (.inr (.inr (.inr (va_up (va_up (va_up (va_up (fun _ => none) 0 (some h2)) 1 (some h3)) 2 (some h4)) 3 (some h5))))))), (h2, .inr (6, [.ref z5, .int 0])), (h3, .inr (6, [.ref z6, .int 0])), (h4, .inr (6, [.ref z7, .int 0])), (h5, .inr (6, [.ref z8, .int 0]))] s.heap.size = A at hD ⊢
  have hA : ∀ q : Nat, s.heap.size ≤ q → A q := fun q h => by rw [← hAe]; exact Or.inr h
  have hS : va_S A s.heap s.heap [] := va_S.rf
  have hP : va_P (dC, dI) vwCl [(h0, .inr (7, [.ref h1, .ref z0, .ref z1, .ref z2, .ref z3, .ref z4, .int 0, .int 0, .int 0])), (h1, .inl (k0, 4, .inr (.inr (.inr (.inr (va_up (va_up (va_up (va_up (fun _ => none) 0 (some h2)) 1 (some h3)) 2 (some h4)) 3 (some h5))))))), (h2, .inr (6, [.ref z5, .int 0])), (h3, .inr (6, [.ref z6, .int 0])), (h4, .inr (6, [.ref z7, .int 0])), (h5, .inr (6, [.ref z8, .int 0]))] s.heap := hP
  have hl := lv_entry ([.ref h0, .int 2, .int 3]) (n := 5) (Nat.le_of_ble_eq_true rfl)
  rw [lg_entry_eq]
  generalize (lg_sl ([.ref h0, .int 2, .int 3]) ++ List.replicate (5 - (lg_sl ([.ref h0, .int 2, .int 3])).length) Slot.unset).toArray = ls at hl ⊢
  have hl : lv_has ls 5 [(0, .ref h0), (1, .int 2), (2, .int 3)] := hl
  refine lv_iload_n hx hb dX3_count_0 rfl (lv_at hl 1 rfl) ?_
  have hPc := hP.sub (ws' := []) [] rfl
  have hDc := hD.sub (ws' := []) [] (by decide) rfl
  have hKc := hK.sub (tys' := []) [] rfl
  have hFc := va_free (wc := []) hD hS hA [] rfl
  refine va_callv (va_runS (As := [.int 2]) (rest := []) ⟨hx, hb, hml, hown, hts⟩ (kx_X3_needRope_2 l dC dI s.heap.size) (cwS 1 hts gX3_count_X3_needRope rfl rfl rfl (by decide +kernel) ⟨Nat.le_of_ble_eq_true rfl, Nat.le_of_ble_eq_true rfl⟩) ⟨fun a U g mk q => by obtain ⟨q0, q1, qP, qK, qD⟩ := q; exact ⟨q0, q1, qP, va_K.moved (u := U) (U := U.calling g mk a) (Vm.Alike.refl U.vm) qK, qD⟩, fun U hU hW => ⟨rfl, by rw [hU], by rw [hU]; exact hPc, va_K.moved hW.alike hKc, hDc.weaken (fun _ _ _ _ => trivial)⟩⟩ rfl rfl hl.1 rfl (lv_room (Nat.le_of_ble_eq_true rfl)) dX3_count_1 ⟨Nat.le_of_ble_eq_true rfl, Nat.le_of_ble_eq_true rfl⟩) hS (fun q _ h => hFc q h) hFc (fun u t H1 locs ht hvm hw hB hz1 hk1 hS => ?_)
  obtain ⟨hP1, hK1, hD1⟩ := hB
  rw [ht] at hP1
  have hK1 := va_K.moved hvm.symm hK1
  obtain ⟨hP, hD⟩ := va_join (wr := [(h0, .inr (7, [.ref h1, .ref z0, .ref z1, .ref z2, .ref z3, .ref z4, .int 0, .int 0, .int 0])), (h1, .inl (k0, 4, .inr (.inr (.inr (.inr (va_up (va_up (va_up (va_up (fun _ => none) 0 (some h2)) 1 (some h3)) 2 (some h4)) 3 (some h5))))))), (h2, .inr (6, [.ref z5, .int 0])), (h3, .inr (6, [.ref z6, .int 0])), (h4, .inr (6, [.ref z7, .int 0])), (h5, .inr (6, [.ref z8, .int 0]))]) (w1 := []) hP hD [] [0, 1, 2, 3, 4, 5] rfl rfl (by decide) (by decide) hk1 hFc hP1 hD1
  generalize H1 = H at hP hS ⊢
  have hP : va_P (dC, dI) vwCl [(h0, .inr (7, [.ref h1, .ref z0, .ref z1, .ref z2, .ref z3, .ref z4, .int 0, .int 0, .int 0])), (h1, .inl (k0, 4, .inr (.inr (.inr (.inr (va_up (va_up (va_up (va_up (fun _ => none) 0 (some h2)) 1 (some h3)) 2 (some h4)) 3 (some h5))))))), (h2, .inr (6, [.ref z5, .int 0])), (h3, .inr (6, [.ref z6, .int 0])), (h4, .inr (6, [.ref z7, .int 0])), (h5, .inr (6, [.ref z8, .int 0]))] H := hP
  have hD : va_D A [(h0, .inr (7, [.ref h1, .ref z0, .ref z1, .ref z2, .ref z3, .ref z4, .int 0, .int 0, .int 0])), (h1, .inl (k0, 4, .inr (.inr (.inr (.inr (va_up (va_up (va_up (va_up (fun _ => none) 0 (some h2)) 1 (some h3)) 2 (some h4)) 3 (some h5))))))), (h2, .inr (6, [.ref z5, .int 0])), (h3, .inr (6, [.ref z6, .int 0])), (h4, .inr (6, [.ref z7, .int 0])), (h5, .inr (6, [.ref z8, .int 0]))] := hD
  refine lv_iload_n hx hb dX3_count_4 rfl (lv_at hl 2 rfl) ?_
  have hPc := hP.sub (ws' := []) [] rfl
  have hDc := hD.sub (ws' := []) [] (by decide) rfl
  have hKc := hK.sub (tys' := []) [] rfl
  have hFc := va_free (wc := []) hD hS hA [] rfl
  refine va_callv (va_runS (As := [.int 3]) (rest := []) ⟨hx, hb, hml, hown, hts⟩ (kx_X3_needRope_3 l dC dI H.size) (cwS 1 hts gX3_count_X3_needRope rfl rfl rfl (by decide +kernel) ⟨Nat.le_of_ble_eq_true rfl, Nat.le_of_ble_eq_true rfl⟩) ⟨fun a U g mk q => by obtain ⟨q0, q1, qP, qK, qD⟩ := q; exact ⟨q0, q1, qP, va_K.moved (u := U) (U := U.calling g mk a) (Vm.Alike.refl U.vm) qK, qD⟩, fun U hU hW => ⟨rfl, by rw [hU], by rw [hU]; exact hPc, va_K.moved hW.alike hKc, hDc.weaken (fun _ _ _ _ => trivial)⟩⟩ rfl rfl hl.1 rfl (lv_room (Nat.le_of_ble_eq_true rfl)) dX3_count_5 ⟨Nat.le_of_ble_eq_true rfl, Nat.le_of_ble_eq_true rfl⟩) hS (fun q _ h => hFc q h) hFc (fun u t H1 locs ht hvm hw hB hz1 hk1 hS => ?_)
  obtain ⟨hP1, hK1, hD1⟩ := hB
  rw [ht] at hP1
  have hK1 := va_K.moved hvm.symm hK1
  obtain ⟨hP, hD⟩ := va_join (wr := [(h0, .inr (7, [.ref h1, .ref z0, .ref z1, .ref z2, .ref z3, .ref z4, .int 0, .int 0, .int 0])), (h1, .inl (k0, 4, .inr (.inr (.inr (.inr (va_up (va_up (va_up (va_up (fun _ => none) 0 (some h2)) 1 (some h3)) 2 (some h4)) 3 (some h5))))))), (h2, .inr (6, [.ref z5, .int 0])), (h3, .inr (6, [.ref z6, .int 0])), (h4, .inr (6, [.ref z7, .int 0])), (h5, .inr (6, [.ref z8, .int 0]))]) (w1 := []) hP hD [] [0, 1, 2, 3, 4, 5] rfl rfl (by decide) (by decide) hk1 hFc hP1 hD1
  generalize H1 = H at hP hS ⊢
  have hP : va_P (dC, dI) vwCl [(h0, .inr (7, [.ref h1, .ref z0, .ref z1, .ref z2, .ref z3, .ref z4, .int 0, .int 0, .int 0])), (h1, .inl (k0, 4, .inr (.inr (.inr (.inr (va_up (va_up (va_up (va_up (fun _ => none) 0 (some h2)) 1 (some h3)) 2 (some h4)) 3 (some h5))))))), (h2, .inr (6, [.ref z5, .int 0])), (h3, .inr (6, [.ref z6, .int 0])), (h4, .inr (6, [.ref z7, .int 0])), (h5, .inr (6, [.ref z8, .int 0]))] H := hP
  have hD : va_D A [(h0, .inr (7, [.ref h1, .ref z0, .ref z1, .ref z2, .ref z3, .ref z4, .int 0, .int 0, .int 0])), (h1, .inl (k0, 4, .inr (.inr (.inr (.inr (va_up (va_up (va_up (va_up (fun _ => none) 0 (some h2)) 1 (some h3)) 2 (some h4)) 3 (some h5))))))), (h2, .inr (6, [.ref z5, .int 0])), (h3, .inr (6, [.ref z6, .int 0])), (h4, .inr (6, [.ref z7, .int 0])), (h5, .inr (6, [.ref z8, .int 0]))] := hD
  refine lv_iconst (v := 0) hx hb dX3_count_8 (by decide) ?_
  refine lv_istore_n (lv' := [(3, .int 0), (0, .ref h0), (1, .int 2), (2, .int 3)]) hx hb dX3_count_9 rfl hl (by decide) rfl (fun ls hl => ?_)
  refine lv_iconst (v := 0) hx hb dX3_count_10 (by decide) ?_
  refine lv_istore (lv' := [(4, .int 0), (3, .int 0), (0, .ref h0), (1, .int 2), (2, .int 3)]) hx hb dX3_count_11 hl (by decide) rfl (fun ls hl => ?_)
  refine lv_iload hx hb dX3_count_13 (lv_at hl 0 rfl) ?_
  refine lv_aload_n hx hb dX3_count_15 rfl (lv_at hl 2 rfl) ?_
  refine va_get (D := (dC, dI)) (ci := 7) (v := .ref h1) (C := RX3) (T := TX3) (N := 9) hx hb hts (by decide +kernel) hown hK hP 0 rfl rfl 0 (by decide) (hts (.fieldLink RX3 11 "Rewriterope" "ropes" "[LRewriterope$Text;") (by decide +kernel)) (fun _ h9 => h9) rfl dX3_count_16 ?_
  refine lv_iload_n hx hb dX3_count_19 rfl (lv_at hl 3 rfl) ?_
  refine va_aldq (D := (dC, dI)) hx hb hK hP 1 0 rfl rfl (by unfold vp_in; decide) dX3_count_20 ?_
  refine W.eq (g2 := F0 m 21 ls [.ref h4, .int 0]) rfl ?_
  refine va_get (D := (dC, dI)) (ci := 6) (v := .int 0) (C := RX2) (T := TX2) (N := 2) hx hb hts (by decide +kernel) hown hK hP 4 rfl rfl 1 (by decide) (hts (.fieldLink RX3 65 "Rewriterope$Text" "length" "I") (by decide +kernel)) (fun _ h9 => h9) rfl dX3_count_21 ?_
  refine lv_icmp_gt (tgt := 56) hx hb dX3_count_24 (by decide) (fun c9 => absurd c9 (by decide)) (fun _ => ?_)
  refine lv_aload_n hx hb dX3_count_27 rfl (lv_at hl 2 rfl) ?_
  refine va_get (D := (dC, dI)) (ci := 7) (v := .ref h1) (C := RX3) (T := TX3) (N := 9) hx hb hts (by decide +kernel) hown hK hP 0 rfl rfl 0 (by decide) (hts (.fieldLink RX3 11 "Rewriterope" "ropes" "[LRewriterope$Text;") (by decide +kernel)) (fun _ h9 => h9) rfl dX3_count_28 ?_
  refine lv_iload_n hx hb dX3_count_31 rfl (lv_at hl 3 rfl) ?_
  refine va_aldq (D := (dC, dI)) hx hb hK hP 1 0 rfl rfl (by unfold vp_in; decide) dX3_count_32 ?_
  refine W.eq (g2 := F0 m 33 ls [.ref h4]) rfl ?_
  refine lv_aload_n hx hb dX3_count_33 rfl (lv_at hl 2 rfl) ?_
  refine va_get (D := (dC, dI)) (ci := 7) (v := .ref h1) (C := RX3) (T := TX3) (N := 9) hx hb hts (by decide +kernel) hown hK hP 0 rfl rfl 0 (by decide) (hts (.fieldLink RX3 11 "Rewriterope" "ropes" "[LRewriterope$Text;") (by decide +kernel)) (fun _ h9 => h9) rfl dX3_count_34 ?_
  refine lv_iload_n hx hb dX3_count_37 rfl (lv_at hl 4 rfl) ?_
  refine va_aldq (D := (dC, dI)) hx hb hK hP 1 0 rfl rfl (by unfold vp_in; decide) dX3_count_38 ?_
  refine W.eq (g2 := F0 m 39 ls [.ref h5, .ref h4]) rfl ?_
  refine lv_iload hx hb dX3_count_39 (lv_at hl 0 rfl) ?_
  have hPc := hP.sub (ws' := [(h4, .inr (6, [.ref z7, .int 0])), (h5, .inr (6, [.ref z8, .int 0]))]) [4, 5] rfl
  have hDc := hD.sub (ws' := [(h4, .inr (6, [.ref z7, .int 0])), (h5, .inr (6, [.ref z8, .int 0]))]) [4, 5] (by decide) rfl
  have hKc := hK.sub (tys' := []) [] rfl
  have hFc := va_free (wc := [(h4, .inr (6, [.ref z7, .int 0])), (h5, .inr (6, [.ref z8, .int 0]))]) hD hS hA [4, 5] rfl
  refine va_calli (va_runV (As := [.ref h5, .int 0]) (rest := []) ⟨hx, hb, hml, hown, hts⟩ (kx_X2_holds_1 l dC dI h4 h5 z7 z8 H.size) (cwV 2 hts gX3_count_X2_holds rfl rfl rfl (by decide +kernel) ⟨Nat.le_of_ble_eq_true rfl, Nat.le_of_ble_eq_true rfl⟩) ⟨fun a U g mk q => by obtain ⟨q0, q1, qP, qK, qD⟩ := q; exact ⟨q0, q1, qP, va_K.moved (u := U) (U := U.calling g mk a) (Vm.Alike.refl U.vm) qK, qD⟩, va_recv hKc hPc (ci := 6) (q0 := 0) rfl rfl, fun U hU hW => ⟨rfl, by rw [hU], by rw [hU]; exact hPc, va_K.moved hW.alike hKc, hDc.weaken (fun _ _ _ _ => trivial)⟩⟩ rfl rfl hl.1 rfl (lv_room (Nat.le_of_ble_eq_true rfl)) dX3_count_41 ⟨Nat.le_of_ble_eq_true rfl, Nat.le_of_ble_eq_true rfl⟩) hS (fun q _ h => hFc q h) hFc (fun r9 u t H1 locs ht hvm hw hB hz1 hk1 hS => ?_)
  obtain rfl := hw
  obtain ⟨hP1, hK1, hD1⟩ := hB
  rw [ht] at hP1
  have hK1 := va_K.moved hvm.symm hK1
  obtain ⟨hP, hD⟩ := va_join (wr := [(h0, .inr (7, [.ref h1, .ref z0, .ref z1, .ref z2, .ref z3, .ref z4, .int 0, .int 0, .int 0])), (h1, .inl (k0, 4, .inr (.inr (.inr (.inr (va_up (va_up (va_up (va_up (fun _ => none) 0 (some h2)) 1 (some h3)) 2 (some h4)) 3 (some h5))))))), (h2, .inr (6, [.ref z5, .int 0])), (h3, .inr (6, [.ref z6, .int 0]))]) (w1 := [(h4, .inr (6, [.ref z7, .int 0])), (h5, .inr (6, [.ref z8, .int 0]))]) hP hD [4, 5] [0, 1, 2, 3] rfl rfl (by decide) (by decide) hk1 hFc hP1 hD1
  generalize H1 = H at hP hS ⊢
  have hP : va_P (dC, dI) vwCl [(h0, .inr (7, [.ref h1, .ref z0, .ref z1, .ref z2, .ref z3, .ref z4, .int 0, .int 0, .int 0])), (h1, .inl (k0, 4, .inr (.inr (.inr (.inr (va_up (va_up (va_up (va_up (fun _ => none) 0 (some h2)) 1 (some h3)) 2 (some h4)) 3 (some h5))))))), (h2, .inr (6, [.ref z5, .int 0])), (h3, .inr (6, [.ref z6, .int 0])), (h4, .inr (6, [.ref z7, .int 0])), (h5, .inr (6, [.ref z8, .int 0]))] H := hP
  have hD : va_D A [(h0, .inr (7, [.ref h1, .ref z0, .ref z1, .ref z2, .ref z3, .ref z4, .int 0, .int 0, .int 0])), (h1, .inl (k0, 4, .inr (.inr (.inr (.inr (va_up (va_up (va_up (va_up (fun _ => none) 0 (some h2)) 1 (some h3)) 2 (some h4)) 3 (some h5))))))), (h2, .inr (6, [.ref z5, .int 0])), (h3, .inr (6, [.ref z6, .int 0])), (h4, .inr (6, [.ref z7, .int 0])), (h5, .inr (6, [.ref z8, .int 0]))] := hD
  refine lv_if_eq (tgt := 50) hx hb dX3_count_44 (by decide) (fun c9 => absurd c9 (by decide)) (fun _ => ?_)
  refine lv_iinc (v := 1) (lv' := [(3, .int 1), (4, .int 0), (0, .ref h0), (1, .int 2), (2, .int 3)]) hx hb dX3_count_47 hl (k := 1) rfl (by decide) (by decide) rfl (fun ls hl => ?_)
  refine lv_iinc (v := 1) (lv' := [(4, .int 1), (3, .int 1), (0, .ref h0), (1, .int 2), (2, .int 3)]) hx hb dX3_count_50 hl (k := 1) rfl (by decide) (by decide) rfl (fun ls hl => ?_)
  refine lv_goto (tgt := 13) hx hb dX3_count_53 (by decide) ?_
  refine lv_iload hx hb dX3_count_13 (lv_at hl 0 rfl) ?_
  refine lv_aload_n hx hb dX3_count_15 rfl (lv_at hl 2 rfl) ?_
  refine va_get (D := (dC, dI)) (ci := 7) (v := .ref h1) (C := RX3) (T := TX3) (N := 9) hx hb hts (by decide +kernel) hown hK hP 0 rfl rfl 0 (by decide) (hts (.fieldLink RX3 11 "Rewriterope" "ropes" "[LRewriterope$Text;") (by decide +kernel)) (fun _ h9 => h9) rfl dX3_count_16 ?_
  refine lv_iload_n hx hb dX3_count_19 rfl (lv_at hl 3 rfl) ?_
  refine va_aldq (D := (dC, dI)) hx hb hK hP 1 0 rfl rfl (by unfold vp_in; decide) dX3_count_20 ?_
  refine W.eq (g2 := F0 m 21 ls [.ref h4, .int 1]) rfl ?_
  refine va_get (D := (dC, dI)) (ci := 6) (v := .int 0) (C := RX2) (T := TX2) (N := 2) hx hb hts (by decide +kernel) hown hK hP 4 rfl rfl 1 (by decide) (hts (.fieldLink RX3 65 "Rewriterope$Text" "length" "I") (by decide +kernel)) (fun _ h9 => h9) rfl dX3_count_21 ?_
  refine lv_icmp_gt (tgt := 56) hx hb dX3_count_24 (by decide) (fun _ => ?_) (fun c9 => absurd (by decide) c9)
  refine lv_iload_n hx hb dX3_count_56 rfl (lv_at hl 1 rfl) ?_
  exact W.iret (v := 1) hx hb hr (fun t ht hW => ⟨⟨1, (), rfl, rfl, by rw [ht]; exact hP, va_K.moved hW.alike hK, hD⟩, hS.F ht⟩) hS.2.2 dX3_count_57
set_option maxHeartbeats 4000000 in
set_option maxRecDepth 100000 in
theorem kx_X3_count_s2 (l : Launch) (dC : Nat → ClassId) (dI : Nat → Nat → Nat) (h0 : Nat) (h1 : Nat) (h2 : Nat) (h3 : Nat) (h4 : Nat) (h5 : Nat) (z0 : Nat) (z1 : Nat) (z2 : Nat) (z3 : Nat) (z4 : Nat) (z5 : Nat) (z6 : Nat) (z7 : Nat) (z8 : Nat) (k0 : ClassId) (sz : Nat) (j0 : Int32) (j0_l : (0 : Int) ≤ j0.toInt) (j0_u : j0.toInt ≤ (3 : Int)) : Met l yX3_count wsX3_count ({ frames := 1, cells := 0, slots := 0, locals := 23 }) (va_Pc [.ref h0, .int 2, .int j0] (fun U => U.heap.size = sz ∧ va_P (dC, dI) vwCl [(h0, .inr (7, [.ref h1, .ref z0, .ref z1, .ref z2, .ref z3, .ref z4, .int 0, .int 0, .int 0])), (h1, .inl (k0, 4, .inr (.inr (.inr (.inr (va_up (va_up (va_up (va_up (fun _ => none) 0 (some h2)) 1 (some h3)) 2 (some h4)) 3 (some h5))))))), (h2, .inr (6, [.ref z5, .int 0])), (h3, .inr (6, [.ref z6, .int 0])), (h4, .inr (6, [.ref z7, .int 0])), (h5, .inr (6, [.ref z8, .int 0]))] U.heap ∧ va_K (dC, dI) vwCl [(k0, .object "Rewriterope$Text")] U ∧ va_D (fun _ => True) [(h0, .inr (7, [.ref h1, .ref z0, .ref z1, .ref z2, .ref z3, .ref z4, .int 0, .int 0, .int 0])), (h1, .inl (k0, 4, .inr (.inr (.inr (.inr (va_up (va_up (va_up (va_up (fun _ => none) 0 (some h2)) 1 (some h3)) 2 (some h4)) 3 (some h5))))))), (h2, .inr (6, [.ref z5, .int 0])), (h3, .inr (6, [.ref z6, .int 0])), (h4, .inr (6, [.ref z7, .int 0])), (h5, .inr (6, [.ref z8, .int 0]))])) (va_Qi (fun (r : Int32) (_ : Unit) => r = 1) (fun (_ : Unit) (t : State) => va_P (dC, dI) vwCl [(h0, .inr (7, [.ref h1, .ref z0, .ref z1, .ref z2, .ref z3, .ref z4, .int 0, .int 0, .int 0])), (h1, .inl (k0, 4, .inr (.inr (.inr (.inr (va_up (va_up (va_up (va_up (fun _ => none) 0 (some h2)) 1 (some h3)) 2 (some h4)) 3 (some h5))))))), (h2, .inr (6, [.ref z5, .int 0])), (h3, .inr (6, [.ref z6, .int 0])), (h4, .inr (6, [.ref z7, .int 0])), (h5, .inr (6, [.ref z8, .int 0]))] t.heap ∧ va_K (dC, dI) vwCl [(k0, .object "Rewriterope$Text")] t ∧ va_D (va_A [(h0, .inr (7, [.ref h1, .ref z0, .ref z1, .ref z2, .ref z3, .ref z4, .int 0, .int 0, .int 0])), (h1, .inl (k0, 4, .inr (.inr (.inr (.inr (va_up (va_up (va_up (va_up (fun _ => none) 0 (some h2)) 1 (some h3)) 2 (some h4)) 3 (some h5))))))), (h2, .inr (6, [.ref z5, .int 0])), (h3, .inr (6, [.ref z6, .int 0])), (h4, .inr (6, [.ref z7, .int 0])), (h5, .inr (6, [.ref z8, .int 0]))] sz) [(h0, .inr (7, [.ref h1, .ref z0, .ref z1, .ref z2, .ref z3, .ref z4, .int 0, .int 0, .int 0])), (h1, .inl (k0, 4, .inr (.inr (.inr (.inr (va_up (va_up (va_up (va_up (fun _ => none) 0 (some h2)) 1 (some h3)) 2 (some h4)) 3 (some h5))))))), (h2, .inr (6, [.ref z5, .int 0])), (h3, .inr (6, [.ref z6, .int 0])), (h4, .inr (6, [.ref z7, .int 0])), (h5, .inr (6, [.ref z8, .int 0]))]) (va_A [(h0, .inr (7, [.ref h1, .ref z0, .ref z1, .ref z2, .ref z3, .ref z4, .int 0, .int 0, .int 0])), (h1, .inl (k0, 4, .inr (.inr (.inr (.inr (va_up (va_up (va_up (va_up (fun _ => none) 0 (some h2)) 1 (some h3)) 2 (some h4)) 3 (some h5))))))), (h2, .inr (6, [.ref z5, .int 0])), (h3, .inr (6, [.ref z6, .int 0])), (h4, .inr (6, [.ref z7, .int 0])), (h5, .inr (6, [.ref z8, .int 0]))] sz)) 0 0 (va_A [(h0, .inr (7, [.ref h1, .ref z0, .ref z1, .ref z2, .ref z3, .ref z4, .int 0, .int 0, .int 0])), (h1, .inl (k0, 4, .inr (.inr (.inr (.inr (va_up (va_up (va_up (va_up (fun _ => none) 0 (some h2)) 1 (some h3)) 2 (some h4)) 3 (some h5))))))), (h2, .inr (6, [.ref z5, .int 0])), (h3, .inr (6, [.ref z6, .int 0])), (h4, .inr (6, [.ref z7, .int 0])), (h5, .inr (6, [.ref z8, .int 0]))] sz) := by
  have e9 : j0 = 0 ∨ j0 = 1 ∨ j0 = 2 ∨ j0 = 3 := by
    have h9 : j0.toInt = 0 ∨ j0.toInt = 1 ∨ j0.toInt = 2 ∨ j0.toInt = 3 := by omega
    rcases h9 with h9 | h9 | h9 | h9
    · exact Or.inl (Int32.toInt_inj.mp (h9.trans (by decide)))
    · exact Or.inr (Or.inl (Int32.toInt_inj.mp (h9.trans (by decide))))
    · exact Or.inr (Or.inr (Or.inl (Int32.toInt_inj.mp (h9.trans (by decide)))))
    · exact Or.inr (Or.inr (Or.inr (Int32.toInt_inj.mp (h9.trans (by decide)))))
  rcases e9 with rfl | rfl | rfl | rfl
  · exact kx_X3_count_8 l dC dI h0 h1 h2 h3 h4 h5 z0 z1 z2 z3 z4 z5 z6 z7 z8 k0 sz
  · exact kx_X3_count_9 l dC dI h0 h1 h2 h3 h4 h5 z0 z1 z2 z3 z4 z5 z6 z7 z8 k0 sz
  · exact kx_X3_count_10 l dC dI h0 h1 h2 h3 h4 h5 z0 z1 z2 z3 z4 z5 z6 z7 z8 k0 sz
  · exact kx_X3_count_11 l dC dI h0 h1 h2 h3 h4 h5 z0 z1 z2 z3 z4 z5 z6 z7 z8 k0 sz
set_option maxHeartbeats 4000000 in
set_option maxRecDepth 100000 in
theorem kx_X3_count_12 (l : Launch) (dC : Nat → ClassId) (dI : Nat → Nat → Nat) (h0 : Nat) (h1 : Nat) (h2 : Nat) (h3 : Nat) (h4 : Nat) (h5 : Nat) (z0 : Nat) (z1 : Nat) (z2 : Nat) (z3 : Nat) (z4 : Nat) (z5 : Nat) (z6 : Nat) (z7 : Nat) (z8 : Nat) (k0 : ClassId) (sz : Nat) : Met l yX3_count wsX3_count ({ frames := 1, cells := 0, slots := 0, locals := 23 }) (va_Pc [.ref h0, .int 3, .int 0] (fun U => U.heap.size = sz ∧ va_P (dC, dI) vwCl [(h0, .inr (7, [.ref h1, .ref z0, .ref z1, .ref z2, .ref z3, .ref z4, .int 0, .int 0, .int 0])), (h1, .inl (k0, 4, .inr (.inr (.inr (.inr (va_up (va_up (va_up (va_up (fun _ => none) 0 (some h2)) 1 (some h3)) 2 (some h4)) 3 (some h5))))))), (h2, .inr (6, [.ref z5, .int 0])), (h3, .inr (6, [.ref z6, .int 0])), (h4, .inr (6, [.ref z7, .int 0])), (h5, .inr (6, [.ref z8, .int 0]))] U.heap ∧ va_K (dC, dI) vwCl [(k0, .object "Rewriterope$Text")] U ∧ va_D (fun _ => True) [(h0, .inr (7, [.ref h1, .ref z0, .ref z1, .ref z2, .ref z3, .ref z4, .int 0, .int 0, .int 0])), (h1, .inl (k0, 4, .inr (.inr (.inr (.inr (va_up (va_up (va_up (va_up (fun _ => none) 0 (some h2)) 1 (some h3)) 2 (some h4)) 3 (some h5))))))), (h2, .inr (6, [.ref z5, .int 0])), (h3, .inr (6, [.ref z6, .int 0])), (h4, .inr (6, [.ref z7, .int 0])), (h5, .inr (6, [.ref z8, .int 0]))])) (va_Qi (fun (r : Int32) (_ : Unit) => r = 1) (fun (_ : Unit) (t : State) => va_P (dC, dI) vwCl [(h0, .inr (7, [.ref h1, .ref z0, .ref z1, .ref z2, .ref z3, .ref z4, .int 0, .int 0, .int 0])), (h1, .inl (k0, 4, .inr (.inr (.inr (.inr (va_up (va_up (va_up (va_up (fun _ => none) 0 (some h2)) 1 (some h3)) 2 (some h4)) 3 (some h5))))))), (h2, .inr (6, [.ref z5, .int 0])), (h3, .inr (6, [.ref z6, .int 0])), (h4, .inr (6, [.ref z7, .int 0])), (h5, .inr (6, [.ref z8, .int 0]))] t.heap ∧ va_K (dC, dI) vwCl [(k0, .object "Rewriterope$Text")] t ∧ va_D (va_A [(h0, .inr (7, [.ref h1, .ref z0, .ref z1, .ref z2, .ref z3, .ref z4, .int 0, .int 0, .int 0])), (h1, .inl (k0, 4, .inr (.inr (.inr (.inr (va_up (va_up (va_up (va_up (fun _ => none) 0 (some h2)) 1 (some h3)) 2 (some h4)) 3 (some h5))))))), (h2, .inr (6, [.ref z5, .int 0])), (h3, .inr (6, [.ref z6, .int 0])), (h4, .inr (6, [.ref z7, .int 0])), (h5, .inr (6, [.ref z8, .int 0]))] sz) [(h0, .inr (7, [.ref h1, .ref z0, .ref z1, .ref z2, .ref z3, .ref z4, .int 0, .int 0, .int 0])), (h1, .inl (k0, 4, .inr (.inr (.inr (.inr (va_up (va_up (va_up (va_up (fun _ => none) 0 (some h2)) 1 (some h3)) 2 (some h4)) 3 (some h5))))))), (h2, .inr (6, [.ref z5, .int 0])), (h3, .inr (6, [.ref z6, .int 0])), (h4, .inr (6, [.ref z7, .int 0])), (h5, .inr (6, [.ref z8, .int 0]))]) (va_A [(h0, .inr (7, [.ref h1, .ref z0, .ref z1, .ref z2, .ref z3, .ref z4, .int 0, .int 0, .int 0])), (h1, .inl (k0, 4, .inr (.inr (.inr (.inr (va_up (va_up (va_up (va_up (fun _ => none) 0 (some h2)) 1 (some h3)) 2 (some h4)) 3 (some h5))))))), (h2, .inr (6, [.ref z5, .int 0])), (h3, .inr (6, [.ref z6, .int 0])), (h4, .inr (6, [.ref z7, .int 0])), (h5, .inr (6, [.ref z8, .int 0]))] sz)) 0 0 (va_A [(h0, .inr (7, [.ref h1, .ref z0, .ref z1, .ref z2, .ref z3, .ref z4, .int 0, .int 0, .int 0])), (h1, .inl (k0, 4, .inr (.inr (.inr (.inr (va_up (va_up (va_up (va_up (fun _ => none) 0 (some h2)) 1 (some h3)) 2 (some h4)) 3 (some h5))))))), (h2, .inr (6, [.ref z5, .int 0])), (h3, .inr (6, [.ref z6, .int 0])), (h4, .inr (6, [.ref z7, .int 0])), (h5, .inr (6, [.ref z8, .int 0]))] sz) := by
  refine Met.ofW (cc := cX3_count) (maxL := 5) (ret := (some .int)) (by decide) rfl ?_
  intro p e s m args below meth c s₁ B hml hv
  obtain ⟨rfl, hsz, hP, hK, hD0⟩ := hv
  have hx := B.exec
  have hb := B.bytes
  have hr := B.returns
  have hts := atoms_spec (ws := wsX3_count) B.pre
  have hown : s.vm.findClass RX3 = some m.cls := findClass_of_methodNamed B.named
  have hlocks := B.notSynchronized
  subst hsz
  have hD := hD0.self (sz := s.heap.size)
  generalize hAe : va_A [(h0, .inr (7, [.ref h1, .ref z0, .ref z1, .ref z2, .ref z3, .ref z4, .int 0, .int 0, .int 0])), (h1, .inl (k0, 4, .inr (.inr (.inr (.inr (va_up (va_up (va_up (va_up (fun _ => none) 0 (some h2)) 1 (some h3)) 2 (some h4)) 3 (some h5))))))), (h2, .inr (6, [.ref z5, .int 0])), (h3, .inr (6, [.ref z6, .int 0])), (h4, .inr (6, [.ref z7, .int 0])), (h5, .inr (6, [.ref z8, .int 0]))] s.heap.size = A at hD ⊢
  have hA : ∀ q : Nat, s.heap.size ≤ q → A q := fun q h => by rw [← hAe]; exact Or.inr h
  have hS : va_S A s.heap s.heap [] := va_S.rf
  have hP : va_P (dC, dI) vwCl [(h0, .inr (7, [.ref h1, .ref z0, .ref z1, .ref z2, .ref z3, .ref z4, .int 0, .int 0, .int 0])), (h1, .inl (k0, 4, .inr (.inr (.inr (.inr (va_up (va_up (va_up (va_up (fun _ => none) 0 (some h2)) 1 (some h3)) 2 (some h4)) 3 (some h5))))))), (h2, .inr (6, [.ref z5, .int 0])), (h3, .inr (6, [.ref z6, .int 0])), (h4, .inr (6, [.ref z7, .int 0])), (h5, .inr (6, [.ref z8, .int 0]))] s.heap := hP
  have hl := lv_entry ([.ref h0, .int 3, .int 0]) (n := 5) (Nat.le_of_ble_eq_true rfl)
  rw [lg_entry_eq]
  generalize (lg_sl ([.ref h0, .int 3, .int 0]) ++ List.replicate (5 - (lg_sl ([.ref h0, .int 3, .int 0])).length) Slot.unset).toArray = ls at hl ⊢
  have hl : lv_has ls 5 [(0, .ref h0), (1, .int 3), (2, .int 0)] := hl
  refine lv_iload_n hx hb dX3_count_0 rfl (lv_at hl 1 rfl) ?_
  have hPc := hP.sub (ws' := []) [] rfl
  have hDc := hD.sub (ws' := []) [] (by decide) rfl
  have hKc := hK.sub (tys' := []) [] rfl
  have hFc := va_free (wc := []) hD hS hA [] rfl
  refine va_callv (va_runS (As := [.int 3]) (rest := []) ⟨hx, hb, hml, hown, hts⟩ (kx_X3_needRope_3 l dC dI s.heap.size) (cwS 1 hts gX3_count_X3_needRope rfl rfl rfl (by decide +kernel) ⟨Nat.le_of_ble_eq_true rfl, Nat.le_of_ble_eq_true rfl⟩) ⟨fun a U g mk q => by obtain ⟨q0, q1, qP, qK, qD⟩ := q; exact ⟨q0, q1, qP, va_K.moved (u := U) (U := U.calling g mk a) (Vm.Alike.refl U.vm) qK, qD⟩, fun U hU hW => ⟨rfl, by rw [hU], by rw [hU]; exact hPc, va_K.moved hW.alike hKc, hDc.weaken (fun _ _ _ _ => trivial)⟩⟩ rfl rfl hl.1 rfl (lv_room (Nat.le_of_ble_eq_true rfl)) dX3_count_1 ⟨Nat.le_of_ble_eq_true rfl, Nat.le_of_ble_eq_true rfl⟩) hS (fun q _ h => hFc q h) hFc (fun u t H1 locs ht hvm hw hB hz1 hk1 hS => ?_)
  obtain ⟨hP1, hK1, hD1⟩ := hB
  rw [ht] at hP1
  have hK1 := va_K.moved hvm.symm hK1
  obtain ⟨hP, hD⟩ := va_join (wr := [(h0, .inr (7, [.ref h1, .ref z0, .ref z1, .ref z2, .ref z3, .ref z4, .int 0, .int 0, .int 0])), (h1, .inl (k0, 4, .inr (.inr (.inr (.inr (va_up (va_up (va_up (va_up (fun _ => none) 0 (some h2)) 1 (some h3)) 2 (some h4)) 3 (some h5))))))), (h2, .inr (6, [.ref z5, .int 0])), (h3, .inr (6, [.ref z6, .int 0])), (h4, .inr (6, [.ref z7, .int 0])), (h5, .inr (6, [.ref z8, .int 0]))]) (w1 := []) hP hD [] [0, 1, 2, 3, 4, 5] rfl rfl (by decide) (by decide) hk1 hFc hP1 hD1
  generalize H1 = H at hP hS ⊢
  have hP : va_P (dC, dI) vwCl [(h0, .inr (7, [.ref h1, .ref z0, .ref z1, .ref z2, .ref z3, .ref z4, .int 0, .int 0, .int 0])), (h1, .inl (k0, 4, .inr (.inr (.inr (.inr (va_up (va_up (va_up (va_up (fun _ => none) 0 (some h2)) 1 (some h3)) 2 (some h4)) 3 (some h5))))))), (h2, .inr (6, [.ref z5, .int 0])), (h3, .inr (6, [.ref z6, .int 0])), (h4, .inr (6, [.ref z7, .int 0])), (h5, .inr (6, [.ref z8, .int 0]))] H := hP
  have hD : va_D A [(h0, .inr (7, [.ref h1, .ref z0, .ref z1, .ref z2, .ref z3, .ref z4, .int 0, .int 0, .int 0])), (h1, .inl (k0, 4, .inr (.inr (.inr (.inr (va_up (va_up (va_up (va_up (fun _ => none) 0 (some h2)) 1 (some h3)) 2 (some h4)) 3 (some h5))))))), (h2, .inr (6, [.ref z5, .int 0])), (h3, .inr (6, [.ref z6, .int 0])), (h4, .inr (6, [.ref z7, .int 0])), (h5, .inr (6, [.ref z8, .int 0]))] := hD
  refine lv_iload_n hx hb dX3_count_4 rfl (lv_at hl 2 rfl) ?_
  have hPc := hP.sub (ws' := []) [] rfl
  have hDc := hD.sub (ws' := []) [] (by decide) rfl
  have hKc := hK.sub (tys' := []) [] rfl
  have hFc := va_free (wc := []) hD hS hA [] rfl
  refine va_callv (va_runS (As := [.int 0]) (rest := []) ⟨hx, hb, hml, hown, hts⟩ (kx_X3_needRope_0 l dC dI H.size) (cwS 1 hts gX3_count_X3_needRope rfl rfl rfl (by decide +kernel) ⟨Nat.le_of_ble_eq_true rfl, Nat.le_of_ble_eq_true rfl⟩) ⟨fun a U g mk q => by obtain ⟨q0, q1, qP, qK, qD⟩ := q; exact ⟨q0, q1, qP, va_K.moved (u := U) (U := U.calling g mk a) (Vm.Alike.refl U.vm) qK, qD⟩, fun U hU hW => ⟨rfl, by rw [hU], by rw [hU]; exact hPc, va_K.moved hW.alike hKc, hDc.weaken (fun _ _ _ _ => trivial)⟩⟩ rfl rfl hl.1 rfl (lv_room (Nat.le_of_ble_eq_true rfl)) dX3_count_5 ⟨Nat.le_of_ble_eq_true rfl, Nat.le_of_ble_eq_true rfl⟩) hS (fun q _ h => hFc q h) hFc (fun u t H1 locs ht hvm hw hB hz1 hk1 hS => ?_)
  obtain ⟨hP1, hK1, hD1⟩ := hB
  rw [ht] at hP1
  have hK1 := va_K.moved hvm.symm hK1
  obtain ⟨hP, hD⟩ := va_join (wr := [(h0, .inr (7, [.ref h1, .ref z0, .ref z1, .ref z2, .ref z3, .ref z4, .int 0, .int 0, .int 0])), (h1, .inl (k0, 4, .inr (.inr (.inr (.inr (va_up (va_up (va_up (va_up (fun _ => none) 0 (some h2)) 1 (some h3)) 2 (some h4)) 3 (some h5))))))), (h2, .inr (6, [.ref z5, .int 0])), (h3, .inr (6, [.ref z6, .int 0])), (h4, .inr (6, [.ref z7, .int 0])), (h5, .inr (6, [.ref z8, .int 0]))]) (w1 := []) hP hD [] [0, 1, 2, 3, 4, 5] rfl rfl (by decide) (by decide) hk1 hFc hP1 hD1
  generalize H1 = H at hP hS ⊢
  have hP : va_P (dC, dI) vwCl [(h0, .inr (7, [.ref h1, .ref z0, .ref z1, .ref z2, .ref z3, .ref z4, .int 0, .int 0, .int 0])), (h1, .inl (k0, 4, .inr (.inr (.inr (.inr (va_up (va_up (va_up (va_up (fun _ => none) 0 (some h2)) 1 (some h3)) 2 (some h4)) 3 (some h5))))))), (h2, .inr (6, [.ref z5, .int 0])), (h3, .inr (6, [.ref z6, .int 0])), (h4, .inr (6, [.ref z7, .int 0])), (h5, .inr (6, [.ref z8, .int 0]))] H := hP
  have hD : va_D A [(h0, .inr (7, [.ref h1, .ref z0, .ref z1, .ref z2, .ref z3, .ref z4, .int 0, .int 0, .int 0])), (h1, .inl (k0, 4, .inr (.inr (.inr (.inr (va_up (va_up (va_up (va_up (fun _ => none) 0 (some h2)) 1 (some h3)) 2 (some h4)) 3 (some h5))))))), (h2, .inr (6, [.ref z5, .int 0])), (h3, .inr (6, [.ref z6, .int 0])), (h4, .inr (6, [.ref z7, .int 0])), (h5, .inr (6, [.ref z8, .int 0]))] := hD
  refine lv_iconst (v := 0) hx hb dX3_count_8 (by decide) ?_
  refine lv_istore_n (lv' := [(3, .int 0), (0, .ref h0), (1, .int 3), (2, .int 0)]) hx hb dX3_count_9 rfl hl (by decide) rfl (fun ls hl => ?_)
  refine lv_iconst (v := 0) hx hb dX3_count_10 (by decide) ?_
  refine lv_istore (lv' := [(4, .int 0), (3, .int 0), (0, .ref h0), (1, .int 3), (2, .int 0)]) hx hb dX3_count_11 hl (by decide) rfl (fun ls hl => ?_)
  refine lv_iload hx hb dX3_count_13 (lv_at hl 0 rfl) ?_
  refine lv_aload_n hx hb dX3_count_15 rfl (lv_at hl 2 rfl) ?_
  refine va_get (D := (dC, dI)) (ci := 7) (v := .ref h1) (C := RX3) (T := TX3) (N := 9) hx hb hts (by decide +kernel) hown hK hP 0 rfl rfl 0 (by decide) (hts (.fieldLink RX3 11 "Rewriterope" "ropes" "[LRewriterope$Text;") (by decide +kernel)) (fun _ h9 => h9) rfl dX3_count_16 ?_
  refine lv_iload_n hx hb dX3_count_19 rfl (lv_at hl 3 rfl) ?_
  refine va_aldq (D := (dC, dI)) hx hb hK hP 1 0 rfl rfl (by unfold vp_in; decide) dX3_count_20 ?_
  refine W.eq (g2 := F0 m 21 ls [.ref h5, .int 0]) rfl ?_
  refine va_get (D := (dC, dI)) (ci := 6) (v := .int 0) (C := RX2) (T := TX2) (N := 2) hx hb hts (by decide +kernel) hown hK hP 5 rfl rfl 1 (by decide) (hts (.fieldLink RX3 65 "Rewriterope$Text" "length" "I") (by decide +kernel)) (fun _ h9 => h9) rfl dX3_count_21 ?_
  refine lv_icmp_gt (tgt := 56) hx hb dX3_count_24 (by decide) (fun c9 => absurd c9 (by decide)) (fun _ => ?_)
  refine lv_aload_n hx hb dX3_count_27 rfl (lv_at hl 2 rfl) ?_
  refine va_get (D := (dC, dI)) (ci := 7) (v := .ref h1) (C := RX3) (T := TX3) (N := 9) hx hb hts (by decide +kernel) hown hK hP 0 rfl rfl 0 (by decide) (hts (.fieldLink RX3 11 "Rewriterope" "ropes" "[LRewriterope$Text;") (by decide +kernel)) (fun _ h9 => h9) rfl dX3_count_28 ?_
  refine lv_iload_n hx hb dX3_count_31 rfl (lv_at hl 3 rfl) ?_
  refine va_aldq (D := (dC, dI)) hx hb hK hP 1 0 rfl rfl (by unfold vp_in; decide) dX3_count_32 ?_
  refine W.eq (g2 := F0 m 33 ls [.ref h5]) rfl ?_
  refine lv_aload_n hx hb dX3_count_33 rfl (lv_at hl 2 rfl) ?_
  refine va_get (D := (dC, dI)) (ci := 7) (v := .ref h1) (C := RX3) (T := TX3) (N := 9) hx hb hts (by decide +kernel) hown hK hP 0 rfl rfl 0 (by decide) (hts (.fieldLink RX3 11 "Rewriterope" "ropes" "[LRewriterope$Text;") (by decide +kernel)) (fun _ h9 => h9) rfl dX3_count_34 ?_
  refine lv_iload_n hx hb dX3_count_37 rfl (lv_at hl 4 rfl) ?_
  refine va_aldq (D := (dC, dI)) hx hb hK hP 1 0 rfl rfl (by unfold vp_in; decide) dX3_count_38 ?_
  refine W.eq (g2 := F0 m 39 ls [.ref h2, .ref h5]) rfl ?_
  refine lv_iload hx hb dX3_count_39 (lv_at hl 0 rfl) ?_
  have hPc := hP.sub (ws' := [(h2, .inr (6, [.ref z5, .int 0])), (h5, .inr (6, [.ref z8, .int 0]))]) [2, 5] rfl
  have hDc := hD.sub (ws' := [(h2, .inr (6, [.ref z5, .int 0])), (h5, .inr (6, [.ref z8, .int 0]))]) [2, 5] (by decide) rfl
  have hKc := hK.sub (tys' := []) [] rfl
  have hFc := va_free (wc := [(h2, .inr (6, [.ref z5, .int 0])), (h5, .inr (6, [.ref z8, .int 0]))]) hD hS hA [2, 5] rfl
  refine va_calli (va_runV (As := [.ref h2, .int 0]) (rest := []) ⟨hx, hb, hml, hown, hts⟩ (kx_X2_holds_2 l dC dI h2 h5 z5 z8 H.size) (cwV 2 hts gX3_count_X2_holds rfl rfl rfl (by decide +kernel) ⟨Nat.le_of_ble_eq_true rfl, Nat.le_of_ble_eq_true rfl⟩) ⟨fun a U g mk q => by obtain ⟨q0, q1, qP, qK, qD⟩ := q; exact ⟨q0, q1, qP, va_K.moved (u := U) (U := U.calling g mk a) (Vm.Alike.refl U.vm) qK, qD⟩, va_recv hKc hPc (ci := 6) (q0 := 1) rfl rfl, fun U hU hW => ⟨rfl, by rw [hU], by rw [hU]; exact hPc, va_K.moved hW.alike hKc, hDc.weaken (fun _ _ _ _ => trivial)⟩⟩ rfl rfl hl.1 rfl (lv_room (Nat.le_of_ble_eq_true rfl)) dX3_count_41 ⟨Nat.le_of_ble_eq_true rfl, Nat.le_of_ble_eq_true rfl⟩) hS (fun q _ h => hFc q h) hFc (fun r9 u t H1 locs ht hvm hw hB hz1 hk1 hS => ?_)
  obtain rfl := hw
  obtain ⟨hP1, hK1, hD1⟩ := hB
  rw [ht] at hP1
  have hK1 := va_K.moved hvm.symm hK1
  obtain ⟨hP, hD⟩ := va_join (wr := [(h0, .inr (7, [.ref h1, .ref z0, .ref z1, .ref z2, .ref z3, .ref z4, .int 0, .int 0, .int 0])), (h1, .inl (k0, 4, .inr (.inr (.inr (.inr (va_up (va_up (va_up (va_up (fun _ => none) 0 (some h2)) 1 (some h3)) 2 (some h4)) 3 (some h5))))))), (h3, .inr (6, [.ref z6, .int 0])), (h4, .inr (6, [.ref z7, .int 0]))]) (w1 := [(h2, .inr (6, [.ref z5, .int 0])), (h5, .inr (6, [.ref z8, .int 0]))]) hP hD [2, 5] [0, 1, 3, 4] rfl rfl (by decide) (by decide) hk1 hFc hP1 hD1
  generalize H1 = H at hP hS ⊢
  have hP : va_P (dC, dI) vwCl [(h0, .inr (7, [.ref h1, .ref z0, .ref z1, .ref z2, .ref z3, .ref z4, .int 0, .int 0, .int 0])), (h1, .inl (k0, 4, .inr (.inr (.inr (.inr (va_up (va_up (va_up (va_up (fun _ => none) 0 (some h2)) 1 (some h3)) 2 (some h4)) 3 (some h5))))))), (h3, .inr (6, [.ref z6, .int 0])), (h4, .inr (6, [.ref z7, .int 0])), (h2, .inr (6, [.ref z5, .int 0])), (h5, .inr (6, [.ref z8, .int 0]))] H := hP
  have hD : va_D A [(h0, .inr (7, [.ref h1, .ref z0, .ref z1, .ref z2, .ref z3, .ref z4, .int 0, .int 0, .int 0])), (h1, .inl (k0, 4, .inr (.inr (.inr (.inr (va_up (va_up (va_up (va_up (fun _ => none) 0 (some h2)) 1 (some h3)) 2 (some h4)) 3 (some h5))))))), (h3, .inr (6, [.ref z6, .int 0])), (h4, .inr (6, [.ref z7, .int 0])), (h2, .inr (6, [.ref z5, .int 0])), (h5, .inr (6, [.ref z8, .int 0]))] := hD
  refine lv_if_eq (tgt := 50) hx hb dX3_count_44 (by decide) (fun c9 => absurd c9 (by decide)) (fun _ => ?_)
  refine lv_iinc (v := 1) (lv' := [(3, .int 1), (4, .int 0), (0, .ref h0), (1, .int 3), (2, .int 0)]) hx hb dX3_count_47 hl (k := 1) rfl (by decide) (by decide) rfl (fun ls hl => ?_)
  refine lv_iinc (v := 1) (lv' := [(4, .int 1), (3, .int 1), (0, .ref h0), (1, .int 3), (2, .int 0)]) hx hb dX3_count_50 hl (k := 1) rfl (by decide) (by decide) rfl (fun ls hl => ?_)
  refine lv_goto (tgt := 13) hx hb dX3_count_53 (by decide) ?_
  refine lv_iload hx hb dX3_count_13 (lv_at hl 0 rfl) ?_
  refine lv_aload_n hx hb dX3_count_15 rfl (lv_at hl 2 rfl) ?_
  refine va_get (D := (dC, dI)) (ci := 7) (v := .ref h1) (C := RX3) (T := TX3) (N := 9) hx hb hts (by decide +kernel) hown hK hP 0 rfl rfl 0 (by decide) (hts (.fieldLink RX3 11 "Rewriterope" "ropes" "[LRewriterope$Text;") (by decide +kernel)) (fun _ h9 => h9) rfl dX3_count_16 ?_
  refine lv_iload_n hx hb dX3_count_19 rfl (lv_at hl 3 rfl) ?_
  refine va_aldq (D := (dC, dI)) hx hb hK hP 1 0 rfl rfl (by unfold vp_in; decide) dX3_count_20 ?_
  refine W.eq (g2 := F0 m 21 ls [.ref h5, .int 1]) rfl ?_
  refine va_get (D := (dC, dI)) (ci := 6) (v := .int 0) (C := RX2) (T := TX2) (N := 2) hx hb hts (by decide +kernel) hown hK hP 5 rfl rfl 1 (by decide) (hts (.fieldLink RX3 65 "Rewriterope$Text" "length" "I") (by decide +kernel)) (fun _ h9 => h9) rfl dX3_count_21 ?_
  refine lv_icmp_gt (tgt := 56) hx hb dX3_count_24 (by decide) (fun _ => ?_) (fun c9 => absurd (by decide) c9)
  refine lv_iload_n hx hb dX3_count_56 rfl (lv_at hl 1 rfl) ?_
  have hP := hP.sub (ws' := [(h0, .inr (7, [.ref h1, .ref z0, .ref z1, .ref z2, .ref z3, .ref z4, .int 0, .int 0, .int 0])), (h1, .inl (k0, 4, .inr (.inr (.inr (.inr (va_up (va_up (va_up (va_up (fun _ => none) 0 (some h2)) 1 (some h3)) 2 (some h4)) 3 (some h5))))))), (h2, .inr (6, [.ref z5, .int 0])), (h3, .inr (6, [.ref z6, .int 0])), (h4, .inr (6, [.ref z7, .int 0])), (h5, .inr (6, [.ref z8, .int 0]))]) [0, 1, 4, 2, 3, 5] rfl
  have hD := hD.sub (ws' := [(h0, .inr (7, [.ref h1, .ref z0, .ref z1, .ref z2, .ref z3, .ref z4, .int 0, .int 0, .int 0])), (h1, .inl (k0, 4, .inr (.inr (.inr (.inr (va_up (va_up (va_up (va_up (fun _ => none) 0 (some h2)) 1 (some h3)) 2 (some h4)) 3 (some h5))))))), (h2, .inr (6, [.ref z5, .int 0])), (h3, .inr (6, [.ref z6, .int 0])), (h4, .inr (6, [.ref z7, .int 0])), (h5, .inr (6, [.ref z8, .int 0]))]) [0, 1, 4, 2, 3, 5] (by decide) rfl
  exact W.iret (v := 1) hx hb hr (fun t ht hW => ⟨⟨1, (), rfl, rfl, by rw [ht]; exact hP, va_K.moved hW.alike hK, hD⟩, hS.F ht⟩) hS.2.2 dX3_count_57
set_option maxHeartbeats 4000000 in
set_option maxRecDepth 100000 in
theorem kx_X3_count_13 (l : Launch) (dC : Nat → ClassId) (dI : Nat → Nat → Nat) (h0 : Nat) (h1 : Nat) (h2 : Nat) (h3 : Nat) (h4 : Nat) (h5 : Nat) (z0 : Nat) (z1 : Nat) (z2 : Nat) (z3 : Nat) (z4 : Nat) (z5 : Nat) (z6 : Nat) (z7 : Nat) (z8 : Nat) (k0 : ClassId) (sz : Nat) : Met l yX3_count wsX3_count ({ frames := 1, cells := 0, slots := 0, locals := 23 }) (va_Pc [.ref h0, .int 3, .int 1] (fun U => U.heap.size = sz ∧ va_P (dC, dI) vwCl [(h0, .inr (7, [.ref h1, .ref z0, .ref z1, .ref z2, .ref z3, .ref z4, .int 0, .int 0, .int 0])), (h1, .inl (k0, 4, .inr (.inr (.inr (.inr (va_up (va_up (va_up (va_up (fun _ => none) 0 (some h2)) 1 (some h3)) 2 (some h4)) 3 (some h5))))))), (h2, .inr (6, [.ref z5, .int 0])), (h3, .inr (6, [.ref z6, .int 0])), (h4, .inr (6, [.ref z7, .int 0])), (h5, .inr (6, [.ref z8, .int 0]))] U.heap ∧ va_K (dC, dI) vwCl [(k0, .object "Rewriterope$Text")] U ∧ va_D (fun _ => True) [(h0, .inr (7, [.ref h1, .ref z0, .ref z1, .ref z2, .ref z3, .ref z4, .int 0, .int 0, .int 0])), (h1, .inl (k0, 4, .inr (.inr (.inr (.inr (va_up (va_up (va_up (va_up (fun _ => none) 0 (some h2)) 1 (some h3)) 2 (some h4)) 3 (some h5))))))), (h2, .inr (6, [.ref z5, .int 0])), (h3, .inr (6, [.ref z6, .int 0])), (h4, .inr (6, [.ref z7, .int 0])), (h5, .inr (6, [.ref z8, .int 0]))])) (va_Qi (fun (r : Int32) (_ : Unit) => r = 1) (fun (_ : Unit) (t : State) => va_P (dC, dI) vwCl [(h0, .inr (7, [.ref h1, .ref z0, .ref z1, .ref z2, .ref z3, .ref z4, .int 0, .int 0, .int 0])), (h1, .inl (k0, 4, .inr (.inr (.inr (.inr (va_up (va_up (va_up (va_up (fun _ => none) 0 (some h2)) 1 (some h3)) 2 (some h4)) 3 (some h5))))))), (h2, .inr (6, [.ref z5, .int 0])), (h3, .inr (6, [.ref z6, .int 0])), (h4, .inr (6, [.ref z7, .int 0])), (h5, .inr (6, [.ref z8, .int 0]))] t.heap ∧ va_K (dC, dI) vwCl [(k0, .object "Rewriterope$Text")] t ∧ va_D (va_A [(h0, .inr (7, [.ref h1, .ref z0, .ref z1, .ref z2, .ref z3, .ref z4, .int 0, .int 0, .int 0])), (h1, .inl (k0, 4, .inr (.inr (.inr (.inr (va_up (va_up (va_up (va_up (fun _ => none) 0 (some h2)) 1 (some h3)) 2 (some h4)) 3 (some h5))))))), (h2, .inr (6, [.ref z5, .int 0])), (h3, .inr (6, [.ref z6, .int 0])), (h4, .inr (6, [.ref z7, .int 0])), (h5, .inr (6, [.ref z8, .int 0]))] sz) [(h0, .inr (7, [.ref h1, .ref z0, .ref z1, .ref z2, .ref z3, .ref z4, .int 0, .int 0, .int 0])), (h1, .inl (k0, 4, .inr (.inr (.inr (.inr (va_up (va_up (va_up (va_up (fun _ => none) 0 (some h2)) 1 (some h3)) 2 (some h4)) 3 (some h5))))))), (h2, .inr (6, [.ref z5, .int 0])), (h3, .inr (6, [.ref z6, .int 0])), (h4, .inr (6, [.ref z7, .int 0])), (h5, .inr (6, [.ref z8, .int 0]))]) (va_A [(h0, .inr (7, [.ref h1, .ref z0, .ref z1, .ref z2, .ref z3, .ref z4, .int 0, .int 0, .int 0])), (h1, .inl (k0, 4, .inr (.inr (.inr (.inr (va_up (va_up (va_up (va_up (fun _ => none) 0 (some h2)) 1 (some h3)) 2 (some h4)) 3 (some h5))))))), (h2, .inr (6, [.ref z5, .int 0])), (h3, .inr (6, [.ref z6, .int 0])), (h4, .inr (6, [.ref z7, .int 0])), (h5, .inr (6, [.ref z8, .int 0]))] sz)) 0 0 (va_A [(h0, .inr (7, [.ref h1, .ref z0, .ref z1, .ref z2, .ref z3, .ref z4, .int 0, .int 0, .int 0])), (h1, .inl (k0, 4, .inr (.inr (.inr (.inr (va_up (va_up (va_up (va_up (fun _ => none) 0 (some h2)) 1 (some h3)) 2 (some h4)) 3 (some h5))))))), (h2, .inr (6, [.ref z5, .int 0])), (h3, .inr (6, [.ref z6, .int 0])), (h4, .inr (6, [.ref z7, .int 0])), (h5, .inr (6, [.ref z8, .int 0]))] sz) := by
  refine Met.ofW (cc := cX3_count) (maxL := 5) (ret := (some .int)) (by decide) rfl ?_
  intro p e s m args below meth c s₁ B hml hv
  obtain ⟨rfl, hsz, hP, hK, hD0⟩ := hv
  have hx := B.exec
  have hb := B.bytes
  have hr := B.returns
  have hts := atoms_spec (ws := wsX3_count) B.pre
  have hown : s.vm.findClass RX3 = some m.cls := findClass_of_methodNamed B.named
  have hlocks := B.notSynchronized
  subst hsz
  have hD := hD0.self (sz := s.heap.size)
  generalize hAe : va_A [(h0, .inr (7, [.ref h1, .ref z0, .ref z1, .ref z2, .ref z3, .ref z4, .int 0, .int 0, .int 0])), (h1, .inl (k0, 4, .inr (.inr (.inr (.inr (va_up (va_up (va_up (va_up (fun _ => none) 0 (some h2)) 1 (some h3)) 2 (some h4)) 3 (some h5))))))), (h2, .inr (6, [.ref z5, .int 0])), (h3, .inr (6, [.ref z6, .int 0])), (h4, .inr (6, [.ref z7, .int 0])), (h5, .inr (6, [.ref z8, .int 0]))] s.heap.size = A at hD ⊢
  have hA : ∀ q : Nat, s.heap.size ≤ q → A q := fun q h => by rw [← hAe]; exact Or.inr h
  have hS : va_S A s.heap s.heap [] := va_S.rf
  have hP : va_P (dC, dI) vwCl [(h0, .inr (7, [.ref h1, .ref z0, .ref z1, .ref z2, .ref z3, .ref z4, .int 0, .int 0, .int 0])), (h1, .inl (k0, 4, .inr (.inr (.inr (.inr (va_up (va_up (va_up (va_up (fun _ => none) 0 (some h2)) 1 (some h3)) 2 (some h4)) 3 (some h5))))))), (h2, .inr (6, [.ref z5, .int 0])), (h3, .inr (6, [.ref z6, .int 0])), (h4, .inr (6, [.ref z7, .int 0])), (h5, .inr (6, [.ref z8, .int 0]))] s.heap := hP
  have hl := lv_entry ([.ref h0, .int 3, .int 1]) (n := 5) (Nat.le_of_ble_eq_true rfl)
  rw [lg_entry_eq]
  generalize (lg_sl ([.ref h0, .int 3, .int 1]) ++ List.replicate (5 - (lg_sl ([.ref h0, .int 3, .int 1])).length) Slot.unset).toArray = ls at hl ⊢
  have hl : lv_has ls 5 [(0, .ref h0), (1, .int 3), (2, .int 1)] := hl
  refine lv_iload_n hx hb dX3_count_0 rfl (lv_at hl 1 rfl) ?_
  have hPc := hP.sub (ws' := []) [] rfl
  have hDc := hD.sub (ws' := []) [] (by decide) rfl
  have hKc := hK.sub (tys' := []) [] rfl
  have hFc := va_free (wc := []) hD hS hA [] rfl
  refine va_callv (va_runS (As := [.int 3]) (rest := []) ⟨hx, hb, hml, hown, hts⟩ (kx_X3_needRope_3 l dC dI s.heap.size) (cwS 1 hts gX3_count_X3_needRope rfl rfl rfl (by decide +kernel) ⟨Nat.le_of_ble_eq_true rfl, Nat.le_of_ble_eq_true rfl⟩) ⟨fun a U g mk q => by obtain ⟨q0, q1, qP, qK, qD⟩ := q; exact ⟨q0, q1, qP, va_K.moved (u := U) (U := U.calling g mk a) (Vm.Alike.refl U.vm) qK, qD⟩, fun U hU hW => ⟨rfl, by rw [hU], by rw [hU]; exact hPc, va_K.moved hW.alike hKc, hDc.weaken (fun _ _ _ _ => trivial)⟩⟩ rfl rfl hl.1 rfl (lv_room (Nat.le_of_ble_eq_true rfl)) dX3_count_1 ⟨Nat.le_of_ble_eq_true rfl, Nat.le_of_ble_eq_true rfl⟩) hS (fun q _ h => hFc q h) hFc (fun u t H1 locs ht hvm hw hB hz1 hk1 hS => ?_)
  obtain ⟨hP1, hK1, hD1⟩ := hB
  rw [ht] at hP1
  have hK1 := va_K.moved hvm.symm hK1
  obtain ⟨hP, hD⟩ := va_join (wr := [(h0, .inr (7, [.ref h1, .ref z0, .ref z1, .ref z2, .ref z3, .ref z4, .int 0, .int 0, .int 0])), (h1, .inl (k0, 4, .inr (.inr (.inr (.inr (va_up (va_up (va_up (va_up (fun _ => none) 0 (some h2)) 1 (some h3)) 2 (some h4)) 3 (some h5))))))), (h2, .inr (6, [.ref z5, .int 0])), (h3, .inr (6, [.ref z6, .int 0])), (h4, .inr (6, [.ref z7, .int 0])), (h5, .inr (6, [.ref z8, .int 0]))]) (w1 := []) hP hD [] [0, 1, 2, 3, 4, 5] rfl rfl (by decide) (by decide) hk1 hFc hP1 hD1
  generalize H1 = H at hP hS ⊢
  have hP : va_P (dC, dI) vwCl [(h0, .inr (7, [.ref h1, .ref z0, .ref z1, .ref z2, .ref z3, .ref z4, .int 0, .int 0, .int 0])), (h1, .inl (k0, 4, .inr (.inr (.inr (.inr (va_up (va_up (va_up (va_up (fun _ => none) 0 (some h2)) 1 (some h3)) 2 (some h4)) 3 (some h5))))))), (h2, .inr (6, [.ref z5, .int 0])), (h3, .inr (6, [.ref z6, .int 0])), (h4, .inr (6, [.ref z7, .int 0])), (h5, .inr (6, [.ref z8, .int 0]))] H := hP
  have hD : va_D A [(h0, .inr (7, [.ref h1, .ref z0, .ref z1, .ref z2, .ref z3, .ref z4, .int 0, .int 0, .int 0])), (h1, .inl (k0, 4, .inr (.inr (.inr (.inr (va_up (va_up (va_up (va_up (fun _ => none) 0 (some h2)) 1 (some h3)) 2 (some h4)) 3 (some h5))))))), (h2, .inr (6, [.ref z5, .int 0])), (h3, .inr (6, [.ref z6, .int 0])), (h4, .inr (6, [.ref z7, .int 0])), (h5, .inr (6, [.ref z8, .int 0]))] := hD
  refine lv_iload_n hx hb dX3_count_4 rfl (lv_at hl 2 rfl) ?_
  have hPc := hP.sub (ws' := []) [] rfl
  have hDc := hD.sub (ws' := []) [] (by decide) rfl
  have hKc := hK.sub (tys' := []) [] rfl
  have hFc := va_free (wc := []) hD hS hA [] rfl
  refine va_callv (va_runS (As := [.int 1]) (rest := []) ⟨hx, hb, hml, hown, hts⟩ (kx_X3_needRope_1 l dC dI H.size) (cwS 1 hts gX3_count_X3_needRope rfl rfl rfl (by decide +kernel) ⟨Nat.le_of_ble_eq_true rfl, Nat.le_of_ble_eq_true rfl⟩) ⟨fun a U g mk q => by obtain ⟨q0, q1, qP, qK, qD⟩ := q; exact ⟨q0, q1, qP, va_K.moved (u := U) (U := U.calling g mk a) (Vm.Alike.refl U.vm) qK, qD⟩, fun U hU hW => ⟨rfl, by rw [hU], by rw [hU]; exact hPc, va_K.moved hW.alike hKc, hDc.weaken (fun _ _ _ _ => trivial)⟩⟩ rfl rfl hl.1 rfl (lv_room (Nat.le_of_ble_eq_true rfl)) dX3_count_5 ⟨Nat.le_of_ble_eq_true rfl, Nat.le_of_ble_eq_true rfl⟩) hS (fun q _ h => hFc q h) hFc (fun u t H1 locs ht hvm hw hB hz1 hk1 hS => ?_)
  obtain ⟨hP1, hK1, hD1⟩ := hB
  rw [ht] at hP1
  have hK1 := va_K.moved hvm.symm hK1
  obtain ⟨hP, hD⟩ := va_join (wr := [(h0, .inr (7, [.ref h1, .ref z0, .ref z1, .ref z2, .ref z3, .ref z4, .int 0, .int 0, .int 0])), (h1, .inl (k0, 4, .inr (.inr (.inr (.inr (va_up (va_up (va_up (va_up (fun _ => none) 0 (some h2)) 1 (some h3)) 2 (some h4)) 3 (some h5))))))), (h2, .inr (6, [.ref z5, .int 0])), (h3, .inr (6, [.ref z6, .int 0])), (h4, .inr (6, [.ref z7, .int 0])), (h5, .inr (6, [.ref z8, .int 0]))]) (w1 := []) hP hD [] [0, 1, 2, 3, 4, 5] rfl rfl (by decide) (by decide) hk1 hFc hP1 hD1
  generalize H1 = H at hP hS ⊢
  have hP : va_P (dC, dI) vwCl [(h0, .inr (7, [.ref h1, .ref z0, .ref z1, .ref z2, .ref z3, .ref z4, .int 0, .int 0, .int 0])), (h1, .inl (k0, 4, .inr (.inr (.inr (.inr (va_up (va_up (va_up (va_up (fun _ => none) 0 (some h2)) 1 (some h3)) 2 (some h4)) 3 (some h5))))))), (h2, .inr (6, [.ref z5, .int 0])), (h3, .inr (6, [.ref z6, .int 0])), (h4, .inr (6, [.ref z7, .int 0])), (h5, .inr (6, [.ref z8, .int 0]))] H := hP
  have hD : va_D A [(h0, .inr (7, [.ref h1, .ref z0, .ref z1, .ref z2, .ref z3, .ref z4, .int 0, .int 0, .int 0])), (h1, .inl (k0, 4, .inr (.inr (.inr (.inr (va_up (va_up (va_up (va_up (fun _ => none) 0 (some h2)) 1 (some h3)) 2 (some h4)) 3 (some h5))))))), (h2, .inr (6, [.ref z5, .int 0])), (h3, .inr (6, [.ref z6, .int 0])), (h4, .inr (6, [.ref z7, .int 0])), (h5, .inr (6, [.ref z8, .int 0]))] := hD
  refine lv_iconst (v := 0) hx hb dX3_count_8 (by decide) ?_
  refine lv_istore_n (lv' := [(3, .int 0), (0, .ref h0), (1, .int 3), (2, .int 1)]) hx hb dX3_count_9 rfl hl (by decide) rfl (fun ls hl => ?_)
  refine lv_iconst (v := 0) hx hb dX3_count_10 (by decide) ?_
  refine lv_istore (lv' := [(4, .int 0), (3, .int 0), (0, .ref h0), (1, .int 3), (2, .int 1)]) hx hb dX3_count_11 hl (by decide) rfl (fun ls hl => ?_)
  refine lv_iload hx hb dX3_count_13 (lv_at hl 0 rfl) ?_
  refine lv_aload_n hx hb dX3_count_15 rfl (lv_at hl 2 rfl) ?_
  refine va_get (D := (dC, dI)) (ci := 7) (v := .ref h1) (C := RX3) (T := TX3) (N := 9) hx hb hts (by decide +kernel) hown hK hP 0 rfl rfl 0 (by decide) (hts (.fieldLink RX3 11 "Rewriterope" "ropes" "[LRewriterope$Text;") (by decide +kernel)) (fun _ h9 => h9) rfl dX3_count_16 ?_
  refine lv_iload_n hx hb dX3_count_19 rfl (lv_at hl 3 rfl) ?_
  refine va_aldq (D := (dC, dI)) hx hb hK hP 1 0 rfl rfl (by unfold vp_in; decide) dX3_count_20 ?_
  refine W.eq (g2 := F0 m 21 ls [.ref h5, .int 0]) rfl ?_
  refine va_get (D := (dC, dI)) (ci := 6) (v := .int 0) (C := RX2) (T := TX2) (N := 2) hx hb hts (by decide +kernel) hown hK hP 5 rfl rfl 1 (by decide) (hts (.fieldLink RX3 65 "Rewriterope$Text" "length" "I") (by decide +kernel)) (fun _ h9 => h9) rfl dX3_count_21 ?_
  refine lv_icmp_gt (tgt := 56) hx hb dX3_count_24 (by decide) (fun c9 => absurd c9 (by decide)) (fun _ => ?_)
  refine lv_aload_n hx hb dX3_count_27 rfl (lv_at hl 2 rfl) ?_
  refine va_get (D := (dC, dI)) (ci := 7) (v := .ref h1) (C := RX3) (T := TX3) (N := 9) hx hb hts (by decide +kernel) hown hK hP 0 rfl rfl 0 (by decide) (hts (.fieldLink RX3 11 "Rewriterope" "ropes" "[LRewriterope$Text;") (by decide +kernel)) (fun _ h9 => h9) rfl dX3_count_28 ?_
  refine lv_iload_n hx hb dX3_count_31 rfl (lv_at hl 3 rfl) ?_
  refine va_aldq (D := (dC, dI)) hx hb hK hP 1 0 rfl rfl (by unfold vp_in; decide) dX3_count_32 ?_
  refine W.eq (g2 := F0 m 33 ls [.ref h5]) rfl ?_
  refine lv_aload_n hx hb dX3_count_33 rfl (lv_at hl 2 rfl) ?_
  refine va_get (D := (dC, dI)) (ci := 7) (v := .ref h1) (C := RX3) (T := TX3) (N := 9) hx hb hts (by decide +kernel) hown hK hP 0 rfl rfl 0 (by decide) (hts (.fieldLink RX3 11 "Rewriterope" "ropes" "[LRewriterope$Text;") (by decide +kernel)) (fun _ h9 => h9) rfl dX3_count_34 ?_
  refine lv_iload_n hx hb dX3_count_37 rfl (lv_at hl 4 rfl) ?_
  refine va_aldq (D := (dC, dI)) hx hb hK hP 1 0 rfl rfl (by unfold vp_in; decide) dX3_count_38 ?_
  refine W.eq (g2 := F0 m 39 ls [.ref h3, .ref h5]) rfl ?_
  refine lv_iload hx hb dX3_count_39 (lv_at hl 0 rfl) ?_
  have hPc := hP.sub (ws' := [(h3, .inr (6, [.ref z6, .int 0])), (h5, .inr (6, [.ref z8, .int 0]))]) [3, 5] rfl
  have hDc := hD.sub (ws' := [(h3, .inr (6, [.ref z6, .int 0])), (h5, .inr (6, [.ref z8, .int 0]))]) [3, 5] (by decide) rfl
  have hKc := hK.sub (tys' := []) [] rfl
  have hFc := va_free (wc := [(h3, .inr (6, [.ref z6, .int 0])), (h5, .inr (6, [.ref z8, .int 0]))]) hD hS hA [3, 5] rfl
  refine va_calli (va_runV (As := [.ref h3, .int 0]) (rest := []) ⟨hx, hb, hml, hown, hts⟩ (kx_X2_holds_2 l dC dI h3 h5 z6 z8 H.size) (cwV 2 hts gX3_count_X2_holds rfl rfl rfl (by decide +kernel) ⟨Nat.le_of_ble_eq_true rfl, Nat.le_of_ble_eq_true rfl⟩) ⟨fun a U g mk q => by obtain ⟨q0, q1, qP, qK, qD⟩ := q; exact ⟨q0, q1, qP, va_K.moved (u := U) (U := U.calling g mk a) (Vm.Alike.refl U.vm) qK, qD⟩, va_recv hKc hPc (ci := 6) (q0 := 1) rfl rfl, fun U hU hW => ⟨rfl, by rw [hU], by rw [hU]; exact hPc, va_K.moved hW.alike hKc, hDc.weaken (fun _ _ _ _ => trivial)⟩⟩ rfl rfl hl.1 rfl (lv_room (Nat.le_of_ble_eq_true rfl)) dX3_count_41 ⟨Nat.le_of_ble_eq_true rfl, Nat.le_of_ble_eq_true rfl⟩) hS (fun q _ h => hFc q h) hFc (fun r9 u t H1 locs ht hvm hw hB hz1 hk1 hS => ?_)
  obtain rfl := hw
  obtain ⟨hP1, hK1, hD1⟩ := hB
  rw [ht] at hP1
  have hK1 := va_K.moved hvm.symm hK1
  obtain ⟨hP, hD⟩ := va_join (wr := [(h0, .inr (7, [.ref h1, .ref z0, .ref z1, .ref z2, .ref z3, .ref z4, .int 0, .int 0, .int 0])), (h1, .inl (k0, 4, .inr (.inr (.inr (.inr (va_up (va_up (va_up (va_up (fun _ => none) 0 (some h2)) 1 (some h3)) 2 (some h4)) 3 (some h5))))))), (h2, .inr (6, [.ref z5, .int 0])), (h4, .inr (6, [.ref z7, .int 0]))]) (w1 := [(h3, .inr (6, [.ref z6, .int 0])), (h5, .inr (6, [.ref z8, .int 0]))]) hP hD [3, 5] [0, 1, 2, 4] rfl rfl (by decide) (by decide) hk1 hFc hP1 hD1
  generalize H1 = H at hP hS ⊢
  have hP : va_P (dC, dI) vwCl [(h0, .inr (7, [.ref h1, .ref z0, .ref z1, .ref z2, .ref z3, .ref z4, .int 0, .int 0, .int 0])), (h1, .inl (k0, 4, .inr (.inr (.inr (.inr (va_up (va_up (va_up (va_up (fun _ => none) 0 (some h2)) 1 (some h3)) 2 (some h4)) 3 (some h5))))))), (h2, .inr (6, [.ref z5, .int 0])), (h4, .inr (6, [.ref z7, .int 0])), (h3, .inr (6, [.ref z6, .int 0])), (h5, .inr (6, [.ref z8, .int 0]))] H := hP
  have hD : va_D A [(h0, .inr (7, [.ref h1, .ref z0, .ref z1, .ref z2, .ref z3, .ref z4, .int 0, .int 0, .int 0])), (h1, .inl (k0, 4, .inr (.inr (.inr (.inr (va_up (va_up (va_up (va_up (fun _ => none) 0 (some h2)) 1 (some h3)) 2 (some h4)) 3 (some h5))))))), (h2, .inr (6, [.ref z5, .int 0])), (h4, .inr (6, [.ref z7, .int 0])), (h3, .inr (6, [.ref z6, .int 0])), (h5, .inr (6, [.ref z8, .int 0]))] := hD
  refine lv_if_eq (tgt := 50) hx hb dX3_count_44 (by decide) (fun c9 => absurd c9 (by decide)) (fun _ => ?_)
  refine lv_iinc (v := 1) (lv' := [(3, .int 1), (4, .int 0), (0, .ref h0), (1, .int 3), (2, .int 1)]) hx hb dX3_count_47 hl (k := 1) rfl (by decide) (by decide) rfl (fun ls hl => ?_)
  refine lv_iinc (v := 1) (lv' := [(4, .int 1), (3, .int 1), (0, .ref h0), (1, .int 3), (2, .int 1)]) hx hb dX3_count_50 hl (k := 1) rfl (by decide) (by decide) rfl (fun ls hl => ?_)
  refine lv_goto (tgt := 13) hx hb dX3_count_53 (by decide) ?_
  refine lv_iload hx hb dX3_count_13 (lv_at hl 0 rfl) ?_
  refine lv_aload_n hx hb dX3_count_15 rfl (lv_at hl 2 rfl) ?_
  refine va_get (D := (dC, dI)) (ci := 7) (v := .ref h1) (C := RX3) (T := TX3) (N := 9) hx hb hts (by decide +kernel) hown hK hP 0 rfl rfl 0 (by decide) (hts (.fieldLink RX3 11 "Rewriterope" "ropes" "[LRewriterope$Text;") (by decide +kernel)) (fun _ h9 => h9) rfl dX3_count_16 ?_
  refine lv_iload_n hx hb dX3_count_19 rfl (lv_at hl 3 rfl) ?_
  refine va_aldq (D := (dC, dI)) hx hb hK hP 1 0 rfl rfl (by unfold vp_in; decide) dX3_count_20 ?_
  refine W.eq (g2 := F0 m 21 ls [.ref h5, .int 1]) rfl ?_
  refine va_get (D := (dC, dI)) (ci := 6) (v := .int 0) (C := RX2) (T := TX2) (N := 2) hx hb hts (by decide +kernel) hown hK hP 5 rfl rfl 1 (by decide) (hts (.fieldLink RX3 65 "Rewriterope$Text" "length" "I") (by decide +kernel)) (fun _ h9 => h9) rfl dX3_count_21 ?_
  refine lv_icmp_gt (tgt := 56) hx hb dX3_count_24 (by decide) (fun _ => ?_) (fun c9 => absurd (by decide) c9)
  refine lv_iload_n hx hb dX3_count_56 rfl (lv_at hl 1 rfl) ?_
  have hP := hP.sub (ws' := [(h0, .inr (7, [.ref h1, .ref z0, .ref z1, .ref z2, .ref z3, .ref z4, .int 0, .int 0, .int 0])), (h1, .inl (k0, 4, .inr (.inr (.inr (.inr (va_up (va_up (va_up (va_up (fun _ => none) 0 (some h2)) 1 (some h3)) 2 (some h4)) 3 (some h5))))))), (h2, .inr (6, [.ref z5, .int 0])), (h3, .inr (6, [.ref z6, .int 0])), (h4, .inr (6, [.ref z7, .int 0])), (h5, .inr (6, [.ref z8, .int 0]))]) [0, 1, 2, 4, 3, 5] rfl
  have hD := hD.sub (ws' := [(h0, .inr (7, [.ref h1, .ref z0, .ref z1, .ref z2, .ref z3, .ref z4, .int 0, .int 0, .int 0])), (h1, .inl (k0, 4, .inr (.inr (.inr (.inr (va_up (va_up (va_up (va_up (fun _ => none) 0 (some h2)) 1 (some h3)) 2 (some h4)) 3 (some h5))))))), (h2, .inr (6, [.ref z5, .int 0])), (h3, .inr (6, [.ref z6, .int 0])), (h4, .inr (6, [.ref z7, .int 0])), (h5, .inr (6, [.ref z8, .int 0]))]) [0, 1, 2, 4, 3, 5] (by decide) rfl
  exact W.iret (v := 1) hx hb hr (fun t ht hW => ⟨⟨1, (), rfl, rfl, by rw [ht]; exact hP, va_K.moved hW.alike hK, hD⟩, hS.F ht⟩) hS.2.2 dX3_count_57
set_option maxHeartbeats 4000000 in
set_option maxRecDepth 100000 in
theorem kx_X3_count_14 (l : Launch) (dC : Nat → ClassId) (dI : Nat → Nat → Nat) (h0 : Nat) (h1 : Nat) (h2 : Nat) (h3 : Nat) (h4 : Nat) (h5 : Nat) (z0 : Nat) (z1 : Nat) (z2 : Nat) (z3 : Nat) (z4 : Nat) (z5 : Nat) (z6 : Nat) (z7 : Nat) (z8 : Nat) (k0 : ClassId) (sz : Nat) : Met l yX3_count wsX3_count ({ frames := 1, cells := 0, slots := 0, locals := 23 }) (va_Pc [.ref h0, .int 3, .int 2] (fun U => U.heap.size = sz ∧ va_P (dC, dI) vwCl [(h0, .inr (7, [.ref h1, .ref z0, .ref z1, .ref z2, .ref z3, .ref z4, .int 0, .int 0, .int 0])), (h1, .inl (k0, 4, .inr (.inr (.inr (.inr (va_up (va_up (va_up (va_up (fun _ => none) 0 (some h2)) 1 (some h3)) 2 (some h4)) 3 (some h5))))))), (h2, .inr (6, [.ref z5, .int 0])), (h3, .inr (6, [.ref z6, .int 0])), (h4, .inr (6, [.ref z7, .int 0])), (h5, .inr (6, [.ref z8, .int 0]))] U.heap ∧ va_K (dC, dI) vwCl [(k0, .object "Rewriterope$Text")] U ∧ va_D (fun _ => True) [(h0, .inr (7, [.ref h1, .ref z0, .ref z1, .ref z2, .ref z3, .ref z4, .int 0, .int 0, .int 0])), (h1, .inl (k0, 4, .inr (.inr (.inr (.inr (va_up (va_up (va_up (va_up (fun _ => none) 0 (some h2)) 1 (some h3)) 2 (some h4)) 3 (some h5))))))), (h2, .inr (6, [.ref z5, .int 0])), (h3, .inr (6, [.ref z6, .int 0])), (h4, .inr (6, [.ref z7, .int 0])), (h5, .inr (6, [.ref z8, .int 0]))])) (va_Qi (fun (r : Int32) (_ : Unit) => r = 1) (fun (_ : Unit) (t : State) => va_P (dC, dI) vwCl [(h0, .inr (7, [.ref h1, .ref z0, .ref z1, .ref z2, .ref z3, .ref z4, .int 0, .int 0, .int 0])), (h1, .inl (k0, 4, .inr (.inr (.inr (.inr (va_up (va_up (va_up (va_up (fun _ => none) 0 (some h2)) 1 (some h3)) 2 (some h4)) 3 (some h5))))))), (h2, .inr (6, [.ref z5, .int 0])), (h3, .inr (6, [.ref z6, .int 0])), (h4, .inr (6, [.ref z7, .int 0])), (h5, .inr (6, [.ref z8, .int 0]))] t.heap ∧ va_K (dC, dI) vwCl [(k0, .object "Rewriterope$Text")] t ∧ va_D (va_A [(h0, .inr (7, [.ref h1, .ref z0, .ref z1, .ref z2, .ref z3, .ref z4, .int 0, .int 0, .int 0])), (h1, .inl (k0, 4, .inr (.inr (.inr (.inr (va_up (va_up (va_up (va_up (fun _ => none) 0 (some h2)) 1 (some h3)) 2 (some h4)) 3 (some h5))))))), (h2, .inr (6, [.ref z5, .int 0])), (h3, .inr (6, [.ref z6, .int 0])), (h4, .inr (6, [.ref z7, .int 0])), (h5, .inr (6, [.ref z8, .int 0]))] sz) [(h0, .inr (7, [.ref h1, .ref z0, .ref z1, .ref z2, .ref z3, .ref z4, .int 0, .int 0, .int 0])), (h1, .inl (k0, 4, .inr (.inr (.inr (.inr (va_up (va_up (va_up (va_up (fun _ => none) 0 (some h2)) 1 (some h3)) 2 (some h4)) 3 (some h5))))))), (h2, .inr (6, [.ref z5, .int 0])), (h3, .inr (6, [.ref z6, .int 0])), (h4, .inr (6, [.ref z7, .int 0])), (h5, .inr (6, [.ref z8, .int 0]))]) (va_A [(h0, .inr (7, [.ref h1, .ref z0, .ref z1, .ref z2, .ref z3, .ref z4, .int 0, .int 0, .int 0])), (h1, .inl (k0, 4, .inr (.inr (.inr (.inr (va_up (va_up (va_up (va_up (fun _ => none) 0 (some h2)) 1 (some h3)) 2 (some h4)) 3 (some h5))))))), (h2, .inr (6, [.ref z5, .int 0])), (h3, .inr (6, [.ref z6, .int 0])), (h4, .inr (6, [.ref z7, .int 0])), (h5, .inr (6, [.ref z8, .int 0]))] sz)) 0 0 (va_A [(h0, .inr (7, [.ref h1, .ref z0, .ref z1, .ref z2, .ref z3, .ref z4, .int 0, .int 0, .int 0])), (h1, .inl (k0, 4, .inr (.inr (.inr (.inr (va_up (va_up (va_up (va_up (fun _ => none) 0 (some h2)) 1 (some h3)) 2 (some h4)) 3 (some h5))))))), (h2, .inr (6, [.ref z5, .int 0])), (h3, .inr (6, [.ref z6, .int 0])), (h4, .inr (6, [.ref z7, .int 0])), (h5, .inr (6, [.ref z8, .int 0]))] sz) := by
  refine Met.ofW (cc := cX3_count) (maxL := 5) (ret := (some .int)) (by decide) rfl ?_
  intro p e s m args below meth c s₁ B hml hv
  obtain ⟨rfl, hsz, hP, hK, hD0⟩ := hv
  have hx := B.exec
  have hb := B.bytes
  have hr := B.returns
  have hts := atoms_spec (ws := wsX3_count) B.pre
  have hown : s.vm.findClass RX3 = some m.cls := findClass_of_methodNamed B.named
  have hlocks := B.notSynchronized
  subst hsz
  have hD := hD0.self (sz := s.heap.size)
  generalize hAe : va_A [(h0, .inr (7, [.ref h1, .ref z0, .ref z1, .ref z2, .ref z3, .ref z4, .int 0, .int 0, .int 0])), (h1, .inl (k0, 4, .inr (.inr (.inr (.inr (va_up (va_up (va_up (va_up (fun _ => none) 0 (some h2)) 1 (some h3)) 2 (some h4)) 3 (some h5))))))), (h2, .inr (6, [.ref z5, .int 0])), (h3, .inr (6, [.ref z6, .int 0])), (h4, .inr (6, [.ref z7, .int 0])), (h5, .inr (6, [.ref z8, .int 0]))] s.heap.size = A at hD ⊢
  have hA : ∀ q : Nat, s.heap.size ≤ q → A q := fun q h => by rw [← hAe]; exact Or.inr h
  have hS : va_S A s.heap s.heap [] := va_S.rf
  have hP : va_P (dC, dI) vwCl [(h0, .inr (7, [.ref h1, .ref z0, .ref z1, .ref z2, .ref z3, .ref z4, .int 0, .int 0, .int 0])), (h1, .inl (k0, 4, .inr (.inr (.inr (.inr (va_up (va_up (va_up (va_up (fun _ => none) 0 (some h2)) 1 (some h3)) 2 (some h4)) 3 (some h5))))))), (h2, .inr (6, [.ref z5, .int 0])), (h3, .inr (6, [.ref z6, .int 0])), (h4, .inr (6, [.ref z7, .int 0])), (h5, .inr (6, [.ref z8, .int 0]))] s.heap := hP
  have hl := lv_entry ([.ref h0, .int 3, .int 2]) (n := 5) (Nat.le_of_ble_eq_true rfl)
  rw [lg_entry_eq]
  generalize (lg_sl ([.ref h0, .int 3, .int 2]) ++ List.replicate (5 - (lg_sl ([.ref h0, .int 3, .int 2])).length) Slot.unset).toArray = ls at hl ⊢
  have hl : lv_has ls 5 [(0, .ref h0), (1, .int 3), (2, .int 2)] := hl
  refine lv_iload_n hx hb dX3_count_0 rfl (lv_at hl 1 rfl) ?_
  have hPc := hP.sub (ws' := []) [] rfl
  have hDc := hD.sub (ws' := []) [] (by decide) rfl
  have hKc := hK.sub (tys' := []) [] rfl
  have hFc := va_free (wc := []) hD hS hA [] rfl
  refine va_callv (va_runS (As := [.int 3]) (rest := []) ⟨hx, hb, hml, hown, hts⟩ (kx_X3_needRope_3 l dC dI s.heap.size) (cwS 1 hts gX3_count_X3_needRope rfl rfl rfl (by decide +kernel) ⟨Nat.le_of_ble_eq_true rfl, Nat.le_of_ble_eq_true rfl⟩) ⟨fun a U g mk q => by obtain ⟨q0, q1, qP, qK, qD⟩ := q; exact ⟨q0, q1, qP, va_K.moved (u := U) (U := U.calling g mk a) (Vm.Alike.refl U.vm) qK, qD⟩, fun U hU hW => ⟨rfl, by rw [hU], by rw [hU]; exact hPc, va_K.moved hW.alike hKc, hDc.weaken (fun _ _ _ _ => trivial)⟩⟩ rfl rfl hl.1 rfl (lv_room (Nat.le_of_ble_eq_true rfl)) dX3_count_1 ⟨Nat.le_of_ble_eq_true rfl, Nat.le_of_ble_eq_true rfl⟩) hS (fun q _ h => hFc q h) hFc (fun u t H1 locs ht hvm hw hB hz1 hk1 hS => ?_)
  obtain ⟨hP1, hK1, hD1⟩ := hB
  rw [ht] at hP1
  have hK1 := va_K.moved hvm.symm hK1
  obtain ⟨hP, hD⟩ := va_join (wr := [(h0, .inr (7, [.ref h1, .ref z0, .ref z1, .ref z2, .ref z3, .ref z4, .int 0, .int 0, .int 0])), (h1, .inl (k0, 4, .inr (.inr (.inr (.inr (va_up (va_up (va_up (va_up (fun _ => none) 0 (some h2)) 1 (some h3)) 2 (some h4)) 3 (some h5))))))), (h2, .inr (6, [.ref z5, .int 0])), (h3, .inr (6, [.ref z6, .int 0])), (h4, .inr (6, [.ref z7, .int 0])), (h5, .inr (6, [.ref z8, .int 0]))]) (w1 := []) hP hD [] [0, 1, 2, 3, 4, 5] rfl rfl (by decide) (by decide) hk1 hFc hP1 hD1
  generalize H1 = H at hP hS ⊢
  have hP : va_P (dC, dI) vwCl [(h0, .inr (7, [.ref h1, .ref z0, .ref z1, .ref z2, .ref z3, .ref z4, .int 0, .int 0, .int 0])), (h1, .inl (k0, 4, .inr (.inr (.inr (.inr (va_up (va_up (va_up (va_up (fun _ => none) 0 (some h2)) 1 (some h3)) 2 (some h4)) 3 (some h5))))))), (h2, .inr (6, [.ref z5, .int 0])), (h3, .inr (6, [.ref z6, .int 0])), (h4, .inr (6, [.ref z7, .int 0])), (h5, .inr (6, [.ref z8, .int 0]))] H := hP
  have hD : va_D A [(h0, .inr (7, [.ref h1, .ref z0, .ref z1, .ref z2, .ref z3, .ref z4, .int 0, .int 0, .int 0])), (h1, .inl (k0, 4, .inr (.inr (.inr (.inr (va_up (va_up (va_up (va_up (fun _ => none) 0 (some h2)) 1 (some h3)) 2 (some h4)) 3 (some h5))))))), (h2, .inr (6, [.ref z5, .int 0])), (h3, .inr (6, [.ref z6, .int 0])), (h4, .inr (6, [.ref z7, .int 0])), (h5, .inr (6, [.ref z8, .int 0]))] := hD
  refine lv_iload_n hx hb dX3_count_4 rfl (lv_at hl 2 rfl) ?_
  have hPc := hP.sub (ws' := []) [] rfl
  have hDc := hD.sub (ws' := []) [] (by decide) rfl
  have hKc := hK.sub (tys' := []) [] rfl
  have hFc := va_free (wc := []) hD hS hA [] rfl
  refine va_callv (va_runS (As := [.int 2]) (rest := []) ⟨hx, hb, hml, hown, hts⟩ (kx_X3_needRope_2 l dC dI H.size) (cwS 1 hts gX3_count_X3_needRope rfl rfl rfl (by decide +kernel) ⟨Nat.le_of_ble_eq_true rfl, Nat.le_of_ble_eq_true rfl⟩) ⟨fun a U g mk q => by obtain ⟨q0, q1, qP, qK, qD⟩ := q; exact ⟨q0, q1, qP, va_K.moved (u := U) (U := U.calling g mk a) (Vm.Alike.refl U.vm) qK, qD⟩, fun U hU hW => ⟨rfl, by rw [hU], by rw [hU]; exact hPc, va_K.moved hW.alike hKc, hDc.weaken (fun _ _ _ _ => trivial)⟩⟩ rfl rfl hl.1 rfl (lv_room (Nat.le_of_ble_eq_true rfl)) dX3_count_5 ⟨Nat.le_of_ble_eq_true rfl, Nat.le_of_ble_eq_true rfl⟩) hS (fun q _ h => hFc q h) hFc (fun u t H1 locs ht hvm hw hB hz1 hk1 hS => ?_)
  obtain ⟨hP1, hK1, hD1⟩ := hB
  rw [ht] at hP1
  have hK1 := va_K.moved hvm.symm hK1
  obtain ⟨hP, hD⟩ := va_join (wr := [(h0, .inr (7, [.ref h1, .ref z0, .ref z1, .ref z2, .ref z3, .ref z4, .int 0, .int 0, .int 0])), (h1, .inl (k0, 4, .inr (.inr (.inr (.inr (va_up (va_up (va_up (va_up (fun _ => none) 0 (some h2)) 1 (some h3)) 2 (some h4)) 3 (some h5))))))), (h2, .inr (6, [.ref z5, .int 0])), (h3, .inr (6, [.ref z6, .int 0])), (h4, .inr (6, [.ref z7, .int 0])), (h5, .inr (6, [.ref z8, .int 0]))]) (w1 := []) hP hD [] [0, 1, 2, 3, 4, 5] rfl rfl (by decide) (by decide) hk1 hFc hP1 hD1
  generalize H1 = H at hP hS ⊢
  have hP : va_P (dC, dI) vwCl [(h0, .inr (7, [.ref h1, .ref z0, .ref z1, .ref z2, .ref z3, .ref z4, .int 0, .int 0, .int 0])), (h1, .inl (k0, 4, .inr (.inr (.inr (.inr (va_up (va_up (va_up (va_up (fun _ => none) 0 (some h2)) 1 (some h3)) 2 (some h4)) 3 (some h5))))))), (h2, .inr (6, [.ref z5, .int 0])), (h3, .inr (6, [.ref z6, .int 0])), (h4, .inr (6, [.ref z7, .int 0])), (h5, .inr (6, [.ref z8, .int 0]))] H := hP
  have hD : va_D A [(h0, .inr (7, [.ref h1, .ref z0, .ref z1, .ref z2, .ref z3, .ref z4, .int 0, .int 0, .int 0])), (h1, .inl (k0, 4, .inr (.inr (.inr (.inr (va_up (va_up (va_up (va_up (fun _ => none) 0 (some h2)) 1 (some h3)) 2 (some h4)) 3 (some h5))))))), (h2, .inr (6, [.ref z5, .int 0])), (h3, .inr (6, [.ref z6, .int 0])), (h4, .inr (6, [.ref z7, .int 0])), (h5, .inr (6, [.ref z8, .int 0]))] := hD
  refine lv_iconst (v := 0) hx hb dX3_count_8 (by decide) ?_
  refine lv_istore_n (lv' := [(3, .int 0), (0, .ref h0), (1, .int 3), (2, .int 2)]) hx hb dX3_count_9 rfl hl (by decide) rfl (fun ls hl => ?_)
  refine lv_iconst (v := 0) hx hb dX3_count_10 (by decide) ?_
  refine lv_istore (lv' := [(4, .int 0), (3, .int 0), (0, .ref h0), (1, .int 3), (2, .int 2)]) hx hb dX3_count_11 hl (by decide) rfl (fun ls hl => ?_)
  refine lv_iload hx hb dX3_count_13 (lv_at hl 0 rfl) ?_
  refine lv_aload_n hx hb dX3_count_15 rfl (lv_at hl 2 rfl) ?_
  refine va_get (D := (dC, dI)) (ci := 7) (v := .ref h1) (C := RX3) (T := TX3) (N := 9) hx hb hts (by decide +kernel) hown hK hP 0 rfl rfl 0 (by decide) (hts (.fieldLink RX3 11 "Rewriterope" "ropes" "[LRewriterope$Text;") (by decide +kernel)) (fun _ h9 => h9) rfl dX3_count_16 ?_
  refine lv_iload_n hx hb dX3_count_19 rfl (lv_at hl 3 rfl) ?_
  refine va_aldq (D := (dC, dI)) hx hb hK hP 1 0 rfl rfl (by unfold vp_in; decide) dX3_count_20 ?_
  refine W.eq (g2 := F0 m 21 ls [.ref h5, .int 0]) rfl ?_
  refine va_get (D := (dC, dI)) (ci := 6) (v := .int 0) (C := RX2) (T := TX2) (N := 2) hx hb hts (by decide +kernel) hown hK hP 5 rfl rfl 1 (by decide) (hts (.fieldLink RX3 65 "Rewriterope$Text" "length" "I") (by decide +kernel)) (fun _ h9 => h9) rfl dX3_count_21 ?_
  refine lv_icmp_gt (tgt := 56) hx hb dX3_count_24 (by decide) (fun c9 => absurd c9 (by decide)) (fun _ => ?_)
  refine lv_aload_n hx hb dX3_count_27 rfl (lv_at hl 2 rfl) ?_
  refine va_get (D := (dC, dI)) (ci := 7) (v := .ref h1) (C := RX3) (T := TX3) (N := 9) hx hb hts (by decide +kernel) hown hK hP 0 rfl rfl 0 (by decide) (hts (.fieldLink RX3 11 "Rewriterope" "ropes" "[LRewriterope$Text;") (by decide +kernel)) (fun _ h9 => h9) rfl dX3_count_28 ?_
  refine lv_iload_n hx hb dX3_count_31 rfl (lv_at hl 3 rfl) ?_
  refine va_aldq (D := (dC, dI)) hx hb hK hP 1 0 rfl rfl (by unfold vp_in; decide) dX3_count_32 ?_
  refine W.eq (g2 := F0 m 33 ls [.ref h5]) rfl ?_
  refine lv_aload_n hx hb dX3_count_33 rfl (lv_at hl 2 rfl) ?_
  refine va_get (D := (dC, dI)) (ci := 7) (v := .ref h1) (C := RX3) (T := TX3) (N := 9) hx hb hts (by decide +kernel) hown hK hP 0 rfl rfl 0 (by decide) (hts (.fieldLink RX3 11 "Rewriterope" "ropes" "[LRewriterope$Text;") (by decide +kernel)) (fun _ h9 => h9) rfl dX3_count_34 ?_
  refine lv_iload_n hx hb dX3_count_37 rfl (lv_at hl 4 rfl) ?_
  refine va_aldq (D := (dC, dI)) hx hb hK hP 1 0 rfl rfl (by unfold vp_in; decide) dX3_count_38 ?_
  refine W.eq (g2 := F0 m 39 ls [.ref h4, .ref h5]) rfl ?_
  refine lv_iload hx hb dX3_count_39 (lv_at hl 0 rfl) ?_
  have hPc := hP.sub (ws' := [(h4, .inr (6, [.ref z7, .int 0])), (h5, .inr (6, [.ref z8, .int 0]))]) [4, 5] rfl
  have hDc := hD.sub (ws' := [(h4, .inr (6, [.ref z7, .int 0])), (h5, .inr (6, [.ref z8, .int 0]))]) [4, 5] (by decide) rfl
  have hKc := hK.sub (tys' := []) [] rfl
  have hFc := va_free (wc := [(h4, .inr (6, [.ref z7, .int 0])), (h5, .inr (6, [.ref z8, .int 0]))]) hD hS hA [4, 5] rfl
  refine va_calli (va_runV (As := [.ref h4, .int 0]) (rest := []) ⟨hx, hb, hml, hown, hts⟩ (kx_X2_holds_2 l dC dI h4 h5 z7 z8 H.size) (cwV 2 hts gX3_count_X2_holds rfl rfl rfl (by decide +kernel) ⟨Nat.le_of_ble_eq_true rfl, Nat.le_of_ble_eq_true rfl⟩) ⟨fun a U g mk q => by obtain ⟨q0, q1, qP, qK, qD⟩ := q; exact ⟨q0, q1, qP, va_K.moved (u := U) (U := U.calling g mk a) (Vm.Alike.refl U.vm) qK, qD⟩, va_recv hKc hPc (ci := 6) (q0 := 1) rfl rfl, fun U hU hW => ⟨rfl, by rw [hU], by rw [hU]; exact hPc, va_K.moved hW.alike hKc, hDc.weaken (fun _ _ _ _ => trivial)⟩⟩ rfl rfl hl.1 rfl (lv_room (Nat.le_of_ble_eq_true rfl)) dX3_count_41 ⟨Nat.le_of_ble_eq_true rfl, Nat.le_of_ble_eq_true rfl⟩) hS (fun q _ h => hFc q h) hFc (fun r9 u t H1 locs ht hvm hw hB hz1 hk1 hS => ?_)
  obtain rfl := hw
  obtain ⟨hP1, hK1, hD1⟩ := hB
  rw [ht] at hP1
  have hK1 := va_K.moved hvm.symm hK1
  obtain ⟨hP, hD⟩ := va_join (wr := [(h0, .inr (7, [.ref h1, .ref z0, .ref z1, .ref z2, .ref z3, .ref z4, .int 0, .int 0, .int 0])), (h1, .inl (k0, 4, .inr (.inr (.inr (.inr (va_up (va_up (va_up (va_up (fun _ => none) 0 (some h2)) 1 (some h3)) 2 (some h4)) 3 (some h5))))))), (h2, .inr (6, [.ref z5, .int 0])), (h3, .inr (6, [.ref z6, .int 0]))]) (w1 := [(h4, .inr (6, [.ref z7, .int 0])), (h5, .inr (6, [.ref z8, .int 0]))]) hP hD [4, 5] [0, 1, 2, 3] rfl rfl (by decide) (by decide) hk1 hFc hP1 hD1
  generalize H1 = H at hP hS ⊢
  have hP : va_P (dC, dI) vwCl [(h0, .inr (7, [.ref h1, .ref z0, .ref z1, .ref z2, .ref z3, .ref z4, .int 0, .int 0, .int 0])), (h1, .inl (k0, 4, .inr (.inr (.inr (.inr (va_up (va_up (va_up (va_up (fun _ => none) 0 (some h2)) 1 (some h3)) 2 (some h4)) 3 (some h5))))))), (h2, .inr (6, [.ref z5, .int 0])), (h3, .inr (6, [.ref z6, .int 0])), (h4, .inr (6, [.ref z7, .int 0])), (h5, .inr (6, [.ref z8, .int 0]))] H := hP
  have hD : va_D A [(h0, .inr (7, [.ref h1, .ref z0, .ref z1, .ref z2, .ref z3, .ref z4, .int 0, .int 0, .int 0])), (h1, .inl (k0, 4, .inr (.inr (.inr (.inr (va_up (va_up (va_up (va_up (fun _ => none) 0 (some h2)) 1 (some h3)) 2 (some h4)) 3 (some h5))))))), (h2, .inr (6, [.ref z5, .int 0])), (h3, .inr (6, [.ref z6, .int 0])), (h4, .inr (6, [.ref z7, .int 0])), (h5, .inr (6, [.ref z8, .int 0]))] := hD
  refine lv_if_eq (tgt := 50) hx hb dX3_count_44 (by decide) (fun c9 => absurd c9 (by decide)) (fun _ => ?_)
  refine lv_iinc (v := 1) (lv' := [(3, .int 1), (4, .int 0), (0, .ref h0), (1, .int 3), (2, .int 2)]) hx hb dX3_count_47 hl (k := 1) rfl (by decide) (by decide) rfl (fun ls hl => ?_)
  refine lv_iinc (v := 1) (lv' := [(4, .int 1), (3, .int 1), (0, .ref h0), (1, .int 3), (2, .int 2)]) hx hb dX3_count_50 hl (k := 1) rfl (by decide) (by decide) rfl (fun ls hl => ?_)
  refine lv_goto (tgt := 13) hx hb dX3_count_53 (by decide) ?_
  refine lv_iload hx hb dX3_count_13 (lv_at hl 0 rfl) ?_
  refine lv_aload_n hx hb dX3_count_15 rfl (lv_at hl 2 rfl) ?_
  refine va_get (D := (dC, dI)) (ci := 7) (v := .ref h1) (C := RX3) (T := TX3) (N := 9) hx hb hts (by decide +kernel) hown hK hP 0 rfl rfl 0 (by decide) (hts (.fieldLink RX3 11 "Rewriterope" "ropes" "[LRewriterope$Text;") (by decide +kernel)) (fun _ h9 => h9) rfl dX3_count_16 ?_
  refine lv_iload_n hx hb dX3_count_19 rfl (lv_at hl 3 rfl) ?_
  refine va_aldq (D := (dC, dI)) hx hb hK hP 1 0 rfl rfl (by unfold vp_in; decide) dX3_count_20 ?_
  refine W.eq (g2 := F0 m 21 ls [.ref h5, .int 1]) rfl ?_
  refine va_get (D := (dC, dI)) (ci := 6) (v := .int 0) (C := RX2) (T := TX2) (N := 2) hx hb hts (by decide +kernel) hown hK hP 5 rfl rfl 1 (by decide) (hts (.fieldLink RX3 65 "Rewriterope$Text" "length" "I") (by decide +kernel)) (fun _ h9 => h9) rfl dX3_count_21 ?_
  refine lv_icmp_gt (tgt := 56) hx hb dX3_count_24 (by decide) (fun _ => ?_) (fun c9 => absurd (by decide) c9)
  refine lv_iload_n hx hb dX3_count_56 rfl (lv_at hl 1 rfl) ?_
  exact W.iret (v := 1) hx hb hr (fun t ht hW => ⟨⟨1, (), rfl, rfl, by rw [ht]; exact hP, va_K.moved hW.alike hK, hD⟩, hS.F ht⟩) hS.2.2 dX3_count_57
set_option maxHeartbeats 4000000 in
set_option maxRecDepth 100000 in
theorem kx_X3_count_15 (l : Launch) (dC : Nat → ClassId) (dI : Nat → Nat → Nat) (h0 : Nat) (h1 : Nat) (h2 : Nat) (h3 : Nat) (h4 : Nat) (h5 : Nat) (z0 : Nat) (z1 : Nat) (z2 : Nat) (z3 : Nat) (z4 : Nat) (z5 : Nat) (z6 : Nat) (z7 : Nat) (z8 : Nat) (k0 : ClassId) (sz : Nat) : Met l yX3_count wsX3_count ({ frames := 1, cells := 0, slots := 0, locals := 23 }) (va_Pc [.ref h0, .int 3, .int 3] (fun U => U.heap.size = sz ∧ va_P (dC, dI) vwCl [(h0, .inr (7, [.ref h1, .ref z0, .ref z1, .ref z2, .ref z3, .ref z4, .int 0, .int 0, .int 0])), (h1, .inl (k0, 4, .inr (.inr (.inr (.inr (va_up (va_up (va_up (va_up (fun _ => none) 0 (some h2)) 1 (some h3)) 2 (some h4)) 3 (some h5))))))), (h2, .inr (6, [.ref z5, .int 0])), (h3, .inr (6, [.ref z6, .int 0])), (h4, .inr (6, [.ref z7, .int 0])), (h5, .inr (6, [.ref z8, .int 0]))] U.heap ∧ va_K (dC, dI) vwCl [(k0, .object "Rewriterope$Text")] U ∧ va_D (fun _ => True) [(h0, .inr (7, [.ref h1, .ref z0, .ref z1, .ref z2, .ref z3, .ref z4, .int 0, .int 0, .int 0])), (h1, .inl (k0, 4, .inr (.inr (.inr (.inr (va_up (va_up (va_up (va_up (fun _ => none) 0 (some h2)) 1 (some h3)) 2 (some h4)) 3 (some h5))))))), (h2, .inr (6, [.ref z5, .int 0])), (h3, .inr (6, [.ref z6, .int 0])), (h4, .inr (6, [.ref z7, .int 0])), (h5, .inr (6, [.ref z8, .int 0]))])) (va_Qi (fun (r : Int32) (_ : Unit) => r = 1) (fun (_ : Unit) (t : State) => va_P (dC, dI) vwCl [(h0, .inr (7, [.ref h1, .ref z0, .ref z1, .ref z2, .ref z3, .ref z4, .int 0, .int 0, .int 0])), (h1, .inl (k0, 4, .inr (.inr (.inr (.inr (va_up (va_up (va_up (va_up (fun _ => none) 0 (some h2)) 1 (some h3)) 2 (some h4)) 3 (some h5))))))), (h2, .inr (6, [.ref z5, .int 0])), (h3, .inr (6, [.ref z6, .int 0])), (h4, .inr (6, [.ref z7, .int 0])), (h5, .inr (6, [.ref z8, .int 0]))] t.heap ∧ va_K (dC, dI) vwCl [(k0, .object "Rewriterope$Text")] t ∧ va_D (va_A [(h0, .inr (7, [.ref h1, .ref z0, .ref z1, .ref z2, .ref z3, .ref z4, .int 0, .int 0, .int 0])), (h1, .inl (k0, 4, .inr (.inr (.inr (.inr (va_up (va_up (va_up (va_up (fun _ => none) 0 (some h2)) 1 (some h3)) 2 (some h4)) 3 (some h5))))))), (h2, .inr (6, [.ref z5, .int 0])), (h3, .inr (6, [.ref z6, .int 0])), (h4, .inr (6, [.ref z7, .int 0])), (h5, .inr (6, [.ref z8, .int 0]))] sz) [(h0, .inr (7, [.ref h1, .ref z0, .ref z1, .ref z2, .ref z3, .ref z4, .int 0, .int 0, .int 0])), (h1, .inl (k0, 4, .inr (.inr (.inr (.inr (va_up (va_up (va_up (va_up (fun _ => none) 0 (some h2)) 1 (some h3)) 2 (some h4)) 3 (some h5))))))), (h2, .inr (6, [.ref z5, .int 0])), (h3, .inr (6, [.ref z6, .int 0])), (h4, .inr (6, [.ref z7, .int 0])), (h5, .inr (6, [.ref z8, .int 0]))]) (va_A [(h0, .inr (7, [.ref h1, .ref z0, .ref z1, .ref z2, .ref z3, .ref z4, .int 0, .int 0, .int 0])), (h1, .inl (k0, 4, .inr (.inr (.inr (.inr (va_up (va_up (va_up (va_up (fun _ => none) 0 (some h2)) 1 (some h3)) 2 (some h4)) 3 (some h5))))))), (h2, .inr (6, [.ref z5, .int 0])), (h3, .inr (6, [.ref z6, .int 0])), (h4, .inr (6, [.ref z7, .int 0])), (h5, .inr (6, [.ref z8, .int 0]))] sz)) 0 0 (va_A [(h0, .inr (7, [.ref h1, .ref z0, .ref z1, .ref z2, .ref z3, .ref z4, .int 0, .int 0, .int 0])), (h1, .inl (k0, 4, .inr (.inr (.inr (.inr (va_up (va_up (va_up (va_up (fun _ => none) 0 (some h2)) 1 (some h3)) 2 (some h4)) 3 (some h5))))))), (h2, .inr (6, [.ref z5, .int 0])), (h3, .inr (6, [.ref z6, .int 0])), (h4, .inr (6, [.ref z7, .int 0])), (h5, .inr (6, [.ref z8, .int 0]))] sz) := by
  refine Met.ofW (cc := cX3_count) (maxL := 5) (ret := (some .int)) (by decide) rfl ?_
  intro p e s m args below meth c s₁ B hml hv
  obtain ⟨rfl, hsz, hP, hK, hD0⟩ := hv
  have hx := B.exec
  have hb := B.bytes
  have hr := B.returns
  have hts := atoms_spec (ws := wsX3_count) B.pre
  have hown : s.vm.findClass RX3 = some m.cls := findClass_of_methodNamed B.named
  have hlocks := B.notSynchronized
  subst hsz
  have hD := hD0.self (sz := s.heap.size)
  generalize hAe : va_A [(h0, .inr (7, [.ref h1, .ref z0, .ref z1, .ref z2, .ref z3, .ref z4, .int 0, .int 0, .int 0])), (h1, .inl (k0, 4, .inr (.inr (.inr (.inr (va_up (va_up (va_up (va_up (fun _ => none) 0 (some h2)) 1 (some h3)) 2 (some h4)) 3 (some h5))))))), (h2, .inr (6, [.ref z5, .int 0])), (h3, .inr (6, [.ref z6, .int 0])), (h4, .inr (6, [.ref z7, .int 0])), (h5, .inr (6, [.ref z8, .int 0]))] s.heap.size = A at hD ⊢
  have hA : ∀ q : Nat, s.heap.size ≤ q → A q := fun q h => by rw [← hAe]; exact Or.inr h
  have hS : va_S A s.heap s.heap [] := va_S.rf
  have hP : va_P (dC, dI) vwCl [(h0, .inr (7, [.ref h1, .ref z0, .ref z1, .ref z2, .ref z3, .ref z4, .int 0, .int 0, .int 0])), (h1, .inl (k0, 4, .inr (.inr (.inr (.inr (va_up (va_up (va_up (va_up (fun _ => none) 0 (some h2)) 1 (some h3)) 2 (some h4)) 3 (some h5))))))), (h2, .inr (6, [.ref z5, .int 0])), (h3, .inr (6, [.ref z6, .int 0])), (h4, .inr (6, [.ref z7, .int 0])), (h5, .inr (6, [.ref z8, .int 0]))] s.heap := hP
  have hl := lv_entry ([.ref h0, .int 3, .int 3]) (n := 5) (Nat.le_of_ble_eq_true rfl)
  rw [lg_entry_eq]
  generalize (lg_sl ([.ref h0, .int 3, .int 3]) ++ List.replicate (5 - (lg_sl ([.ref h0, .int 3, .int 3])).length) Slot.unset).toArray = ls at hl ⊢
  have hl : lv_has ls 5 [(0, .ref h0), (1, .int 3), (2, .int 3)] := hl
  refine lv_iload_n hx hb dX3_count_0 rfl (lv_at hl 1 rfl) ?_
  have hPc := hP.sub (ws' := []) [] rfl
  have hDc := hD.sub (ws' := []) [] (by decide) rfl
  have hKc := hK.sub (tys' := []) [] rfl
  have hFc := va_free (wc := []) hD hS hA [] rfl
  refine va_callv (va_runS (As := [.int 3]) (rest := []) ⟨hx, hb, hml, hown, hts⟩ (kx_X3_needRope_3 l dC dI s.heap.size) (cwS 1 hts gX3_count_X3_needRope rfl rfl rfl (by decide +kernel) ⟨Nat.le_of_ble_eq_true rfl, Nat.le_of_ble_eq_true rfl⟩) ⟨fun a U g mk q => by obtain ⟨q0, q1, qP, qK, qD⟩ := q; exact ⟨q0, q1, qP, va_K.moved (u := U) (U := U.calling g mk a) (Vm.Alike.refl U.vm) qK, qD⟩, fun U hU hW => ⟨rfl, by rw [hU], by rw [hU]; exact hPc, va_K.moved hW.alike hKc, hDc.weaken (fun _ _ _ _ => trivial)⟩⟩ rfl rfl hl.1 rfl (lv_room (Nat.le_of_ble_eq_true rfl)) dX3_count_1 ⟨Nat.le_of_ble_eq_true rfl, Nat.le_of_ble_eq_true rfl⟩) hS (fun q _ h => hFc q h) hFc (fun u t H1 locs ht hvm hw hB hz1 hk1 hS => ?_)
  obtain ⟨hP1, hK1, hD1⟩ := hB
  rw [ht] at hP1
  have hK1 := va_K.moved hvm.symm hK1
  obtain ⟨hP, hD⟩ := va_join (wr := [(h0, .inr (7, [.ref h1, .ref z0, .ref z1, .ref z2, .ref z3, .ref z4, .int 0, .int 0, .int 0])), (h1, .inl (k0, 4, .inr (.inr (.inr (.inr (va_up (va_up (va_up (va_up (fun _ => none) 0 (some h2)) 1 (some h3)) 2 (some h4)) 3 (some h5))))))), (h2, .inr (6, [.ref z5, .int 0])), (h3, .inr (6, [.ref z6, .int 0])), (h4, .inr (6, [.ref z7, .int 0])), (h5, .inr (6, [.ref z8, .int 0]))]) (w1 := []) hP hD [] [0, 1, 2, 3, 4, 5] rfl rfl (by decide) (by decide) hk1 hFc hP1 hD1
  generalize H1 = H at hP hS ⊢
  have hP : va_P (dC, dI) vwCl [(h0, .inr (7, [.ref h1, .ref z0, .ref z1, .ref z2, .ref z3, .ref z4, .int 0, .int 0, .int 0])), (h1, .inl (k0, 4, .inr (.inr (.inr (.inr (va_up (va_up (va_up (va_up (fun _ => none) 0 (some h2)) 1 (some h3)) 2 (some h4)) 3 (some h5))))))), (h2, .inr (6, [.ref z5, .int 0])), (h3, .inr (6, [.ref z6, .int 0])), (h4, .inr (6, [.ref z7, .int 0])), (h5, .inr (6, [.ref z8, .int 0]))] H := hP
  have hD : va_D A [(h0, .inr (7, [.ref h1, .ref z0, .ref z1, .ref z2, .ref z3, .ref z4, .int 0, .int 0, .int 0])), (h1, .inl (k0, 4, .inr (.inr (.inr (.inr (va_up (va_up (va_up (va_up (fun _ => none) 0 (some h2)) 1 (some h3)) 2 (some h4)) 3 (some h5))))))), (h2, .inr (6, [.ref z5, .int 0])), (h3, .inr (6, [.ref z6, .int 0])), (h4, .inr (6, [.ref z7, .int 0])), (h5, .inr (6, [.ref z8, .int 0]))] := hD
  refine lv_iload_n hx hb dX3_count_4 rfl (lv_at hl 2 rfl) ?_
  have hPc := hP.sub (ws' := []) [] rfl
  have hDc := hD.sub (ws' := []) [] (by decide) rfl
  have hKc := hK.sub (tys' := []) [] rfl
  have hFc := va_free (wc := []) hD hS hA [] rfl
  refine va_callv (va_runS (As := [.int 3]) (rest := []) ⟨hx, hb, hml, hown, hts⟩ (kx_X3_needRope_3 l dC dI H.size) (cwS 1 hts gX3_count_X3_needRope rfl rfl rfl (by decide +kernel) ⟨Nat.le_of_ble_eq_true rfl, Nat.le_of_ble_eq_true rfl⟩) ⟨fun a U g mk q => by obtain ⟨q0, q1, qP, qK, qD⟩ := q; exact ⟨q0, q1, qP, va_K.moved (u := U) (U := U.calling g mk a) (Vm.Alike.refl U.vm) qK, qD⟩, fun U hU hW => ⟨rfl, by rw [hU], by rw [hU]; exact hPc, va_K.moved hW.alike hKc, hDc.weaken (fun _ _ _ _ => trivial)⟩⟩ rfl rfl hl.1 rfl (lv_room (Nat.le_of_ble_eq_true rfl)) dX3_count_5 ⟨Nat.le_of_ble_eq_true rfl, Nat.le_of_ble_eq_true rfl⟩) hS (fun q _ h => hFc q h) hFc (fun u t H1 locs ht hvm hw hB hz1 hk1 hS => ?_)
  obtain ⟨hP1, hK1, hD1⟩ := hB
  rw [ht] at hP1
  have hK1 := va_K.moved hvm.symm hK1
  obtain ⟨hP, hD⟩ := va_join (wr := [(h0, .inr (7, [.ref h1, .ref z0, .ref z1, .ref z2, .ref z3, .ref z4, .int 0, .int 0, .int 0])), (h1, .inl (k0, 4, .inr (.inr (.inr (.inr (va_up (va_up (va_up (va_up (fun _ => none) 0 (some h2)) 1 (some h3)) 2 (some h4)) 3 (some h5))))))), (h2, .inr (6, [.ref z5, .int 0])), (h3, .inr (6, [.ref z6, .int 0])), (h4, .inr (6, [.ref z7, .int 0])), (h5, .inr (6, [.ref z8, .int 0]))]) (w1 := []) hP hD [] [0, 1, 2, 3, 4, 5] rfl rfl (by decide) (by decide) hk1 hFc hP1 hD1
  generalize H1 = H at hP hS ⊢
  have hP : va_P (dC, dI) vwCl [(h0, .inr (7, [.ref h1, .ref z0, .ref z1, .ref z2, .ref z3, .ref z4, .int 0, .int 0, .int 0])), (h1, .inl (k0, 4, .inr (.inr (.inr (.inr (va_up (va_up (va_up (va_up (fun _ => none) 0 (some h2)) 1 (some h3)) 2 (some h4)) 3 (some h5))))))), (h2, .inr (6, [.ref z5, .int 0])), (h3, .inr (6, [.ref z6, .int 0])), (h4, .inr (6, [.ref z7, .int 0])), (h5, .inr (6, [.ref z8, .int 0]))] H := hP
  have hD : va_D A [(h0, .inr (7, [.ref h1, .ref z0, .ref z1, .ref z2, .ref z3, .ref z4, .int 0, .int 0, .int 0])), (h1, .inl (k0, 4, .inr (.inr (.inr (.inr (va_up (va_up (va_up (va_up (fun _ => none) 0 (some h2)) 1 (some h3)) 2 (some h4)) 3 (some h5))))))), (h2, .inr (6, [.ref z5, .int 0])), (h3, .inr (6, [.ref z6, .int 0])), (h4, .inr (6, [.ref z7, .int 0])), (h5, .inr (6, [.ref z8, .int 0]))] := hD
  refine lv_iconst (v := 0) hx hb dX3_count_8 (by decide) ?_
  refine lv_istore_n (lv' := [(3, .int 0), (0, .ref h0), (1, .int 3), (2, .int 3)]) hx hb dX3_count_9 rfl hl (by decide) rfl (fun ls hl => ?_)
  refine lv_iconst (v := 0) hx hb dX3_count_10 (by decide) ?_
  refine lv_istore (lv' := [(4, .int 0), (3, .int 0), (0, .ref h0), (1, .int 3), (2, .int 3)]) hx hb dX3_count_11 hl (by decide) rfl (fun ls hl => ?_)
  refine lv_iload hx hb dX3_count_13 (lv_at hl 0 rfl) ?_
  refine lv_aload_n hx hb dX3_count_15 rfl (lv_at hl 2 rfl) ?_
  refine va_get (D := (dC, dI)) (ci := 7) (v := .ref h1) (C := RX3) (T := TX3) (N := 9) hx hb hts (by decide +kernel) hown hK hP 0 rfl rfl 0 (by decide) (hts (.fieldLink RX3 11 "Rewriterope" "ropes" "[LRewriterope$Text;") (by decide +kernel)) (fun _ h9 => h9) rfl dX3_count_16 ?_
  refine lv_iload_n hx hb dX3_count_19 rfl (lv_at hl 3 rfl) ?_
  refine va_aldq (D := (dC, dI)) hx hb hK hP 1 0 rfl rfl (by unfold vp_in; decide) dX3_count_20 ?_
  refine W.eq (g2 := F0 m 21 ls [.ref h5, .int 0]) rfl ?_
  refine va_get (D := (dC, dI)) (ci := 6) (v := .int 0) (C := RX2) (T := TX2) (N := 2) hx hb hts (by decide +kernel) hown hK hP 5 rfl rfl 1 (by decide) (hts (.fieldLink RX3 65 "Rewriterope$Text" "length" "I") (by decide +kernel)) (fun _ h9 => h9) rfl dX3_count_21 ?_
  refine lv_icmp_gt (tgt := 56) hx hb dX3_count_24 (by decide) (fun c9 => absurd c9 (by decide)) (fun _ => ?_)
  refine lv_aload_n hx hb dX3_count_27 rfl (lv_at hl 2 rfl) ?_
  refine va_get (D := (dC, dI)) (ci := 7) (v := .ref h1) (C := RX3) (T := TX3) (N := 9) hx hb hts (by decide +kernel) hown hK hP 0 rfl rfl 0 (by decide) (hts (.fieldLink RX3 11 "Rewriterope" "ropes" "[LRewriterope$Text;") (by decide +kernel)) (fun _ h9 => h9) rfl dX3_count_28 ?_
  refine lv_iload_n hx hb dX3_count_31 rfl (lv_at hl 3 rfl) ?_
  refine va_aldq (D := (dC, dI)) hx hb hK hP 1 0 rfl rfl (by unfold vp_in; decide) dX3_count_32 ?_
  refine W.eq (g2 := F0 m 33 ls [.ref h5]) rfl ?_
  refine lv_aload_n hx hb dX3_count_33 rfl (lv_at hl 2 rfl) ?_
  refine va_get (D := (dC, dI)) (ci := 7) (v := .ref h1) (C := RX3) (T := TX3) (N := 9) hx hb hts (by decide +kernel) hown hK hP 0 rfl rfl 0 (by decide) (hts (.fieldLink RX3 11 "Rewriterope" "ropes" "[LRewriterope$Text;") (by decide +kernel)) (fun _ h9 => h9) rfl dX3_count_34 ?_
  refine lv_iload_n hx hb dX3_count_37 rfl (lv_at hl 4 rfl) ?_
  refine va_aldq (D := (dC, dI)) hx hb hK hP 1 0 rfl rfl (by unfold vp_in; decide) dX3_count_38 ?_
  refine W.eq (g2 := F0 m 39 ls [.ref h5, .ref h5]) rfl ?_
  refine lv_iload hx hb dX3_count_39 (lv_at hl 0 rfl) ?_
  have hPc := hP.sub (ws' := [(h5, .inr (6, [.ref z8, .int 0]))]) [5] rfl
  have hDc := hD.sub (ws' := [(h5, .inr (6, [.ref z8, .int 0]))]) [5] (by decide) rfl
  have hKc := hK.sub (tys' := []) [] rfl
  have hFc := va_free (wc := [(h5, .inr (6, [.ref z8, .int 0]))]) hD hS hA [5] rfl
  refine va_calli (va_runV (As := [.ref h5, .int 0]) (rest := []) ⟨hx, hb, hml, hown, hts⟩ (kx_X2_holds_0 l dC dI h5 z8 H.size) (cwV 2 hts gX3_count_X2_holds rfl rfl rfl (by decide +kernel) ⟨Nat.le_of_ble_eq_true rfl, Nat.le_of_ble_eq_true rfl⟩) ⟨fun a U g mk q => by obtain ⟨q0, q1, qP, qK, qD⟩ := q; exact ⟨q0, q1, qP, va_K.moved (u := U) (U := U.calling g mk a) (Vm.Alike.refl U.vm) qK, qD⟩, va_recv hKc hPc (ci := 6) (q0 := 0) rfl rfl, fun U hU hW => ⟨rfl, by rw [hU], by rw [hU]; exact hPc, va_K.moved hW.alike hKc, hDc.weaken (fun _ _ _ _ => trivial)⟩⟩ rfl rfl hl.1 rfl (lv_room (Nat.le_of_ble_eq_true rfl)) dX3_count_41 ⟨Nat.le_of_ble_eq_true rfl, Nat.le_of_ble_eq_true rfl⟩) hS (fun q _ h => hFc q h) hFc (fun r9 u t H1 locs ht hvm hw hB hz1 hk1 hS => ?_)
  obtain rfl := hw
  obtain ⟨hP1, hK1, hD1⟩ := hB
  rw [ht] at hP1
  have hK1 := va_K.moved hvm.symm hK1
  obtain ⟨hP, hD⟩ := va_join (wr := [(h0, .inr (7, [.ref h1, .ref z0, .ref z1, .ref z2, .ref z3, .ref z4, .int 0, .int 0, .int 0])), (h1, .inl (k0, 4, .inr (.inr (.inr (.inr (va_up (va_up (va_up (va_up (fun _ => none) 0 (some h2)) 1 (some h3)) 2 (some h4)) 3 (some h5))))))), (h2, .inr (6, [.ref z5, .int 0])), (h3, .inr (6, [.ref z6, .int 0])), (h4, .inr (6, [.ref z7, .int 0]))]) (w1 := [(h5, .inr (6, [.ref z8, .int 0]))]) hP hD [5] [0, 1, 2, 3, 4] rfl rfl (by decide) (by decide) hk1 hFc hP1 hD1
  generalize H1 = H at hP hS ⊢
  have hP : va_P (dC, dI) vwCl [(h0, .inr (7, [.ref h1, .ref z0, .ref z1, .ref z2, .ref z3, .ref z4, .int 0, .int 0, .int 0])), (h1, .inl (k0, 4, .inr (.inr (.inr (.inr (va_up (va_up (va_up (va_up (fun _ => none) 0 (some h2)) 1 (some h3)) 2 (some h4)) 3 (some h5))))))), (h2, .inr (6, [.ref z5, .int 0])), (h3, .inr (6, [.ref z6, .int 0])), (h4, .inr (6, [.ref z7, .int 0])), (h5, .inr (6, [.ref z8, .int 0]))] H := hP
  have hD : va_D A [(h0, .inr (7, [.ref h1, .ref z0, .ref z1, .ref z2, .ref z3, .ref z4, .int 0, .int 0, .int 0])), (h1, .inl (k0, 4, .inr (.inr (.inr (.inr (va_up (va_up (va_up (va_up (fun _ => none) 0 (some h2)) 1 (some h3)) 2 (some h4)) 3 (some h5))))))), (h2, .inr (6, [.ref z5, .int 0])), (h3, .inr (6, [.ref z6, .int 0])), (h4, .inr (6, [.ref z7, .int 0])), (h5, .inr (6, [.ref z8, .int 0]))] := hD
  refine lv_if_eq (tgt := 50) hx hb dX3_count_44 (by decide) (fun c9 => absurd c9 (by decide)) (fun _ => ?_)
  refine lv_iinc (v := 1) (lv' := [(3, .int 1), (4, .int 0), (0, .ref h0), (1, .int 3), (2, .int 3)]) hx hb dX3_count_47 hl (k := 1) rfl (by decide) (by decide) rfl (fun ls hl => ?_)
  refine lv_iinc (v := 1) (lv' := [(4, .int 1), (3, .int 1), (0, .ref h0), (1, .int 3), (2, .int 3)]) hx hb dX3_count_50 hl (k := 1) rfl (by decide) (by decide) rfl (fun ls hl => ?_)
  refine lv_goto (tgt := 13) hx hb dX3_count_53 (by decide) ?_
  refine lv_iload hx hb dX3_count_13 (lv_at hl 0 rfl) ?_
  refine lv_aload_n hx hb dX3_count_15 rfl (lv_at hl 2 rfl) ?_
  refine va_get (D := (dC, dI)) (ci := 7) (v := .ref h1) (C := RX3) (T := TX3) (N := 9) hx hb hts (by decide +kernel) hown hK hP 0 rfl rfl 0 (by decide) (hts (.fieldLink RX3 11 "Rewriterope" "ropes" "[LRewriterope$Text;") (by decide +kernel)) (fun _ h9 => h9) rfl dX3_count_16 ?_
  refine lv_iload_n hx hb dX3_count_19 rfl (lv_at hl 3 rfl) ?_
  refine va_aldq (D := (dC, dI)) hx hb hK hP 1 0 rfl rfl (by unfold vp_in; decide) dX3_count_20 ?_
  refine W.eq (g2 := F0 m 21 ls [.ref h5, .int 1]) rfl ?_
  refine va_get (D := (dC, dI)) (ci := 6) (v := .int 0) (C := RX2) (T := TX2) (N := 2) hx hb hts (by decide +kernel) hown hK hP 5 rfl rfl 1 (by decide) (hts (.fieldLink RX3 65 "Rewriterope$Text" "length" "I") (by decide +kernel)) (fun _ h9 => h9) rfl dX3_count_21 ?_
  refine lv_icmp_gt (tgt := 56) hx hb dX3_count_24 (by decide) (fun _ => ?_) (fun c9 => absurd (by decide) c9)
  refine lv_iload_n hx hb dX3_count_56 rfl (lv_at hl 1 rfl) ?_
  exact W.iret (v := 1) hx hb hr (fun t ht hW => ⟨⟨1, (), rfl, rfl, by rw [ht]; exact hP, va_K.moved hW.alike hK, hD⟩, hS.F ht⟩) hS.2.2 dX3_count_57
set_option maxHeartbeats 4000000 in
set_option maxRecDepth 100000 in
theorem kx_X3_count_s3 (l : Launch) (dC : Nat → ClassId) (dI : Nat → Nat → Nat) (h0 : Nat) (h1 : Nat) (h2 : Nat) (h3 : Nat) (h4 : Nat) (h5 : Nat) (z0 : Nat) (z1 : Nat) (z2 : Nat) (z3 : Nat) (z4 : Nat) (z5 : Nat) (z6 : Nat) (z7 : Nat) (z8 : Nat) (k0 : ClassId) (sz : Nat) (j0 : Int32) (j0_l : (0 : Int) ≤ j0.toInt) (j0_u : j0.toInt ≤ (3 : Int)) : Met l yX3_count wsX3_count ({ frames := 1, cells := 0, slots := 0, locals := 23 }) (va_Pc [.ref h0, .int 3, .int j0] (fun U => U.heap.size = sz ∧ va_P (dC, dI) vwCl [(h0, .inr (7, [.ref h1, .ref z0, .ref z1, .ref z2, .ref z3, .ref z4, .int 0, .int 0, .int 0])), (h1, .inl (k0, 4, .inr (.inr (.inr (.inr (va_up (va_up (va_up (va_up (fun _ => none) 0 (some h2)) 1 (some h3)) 2 (some h4)) 3 (some h5))))))), (h2, .inr (6, [.ref z5, .int 0])), (h3, .inr (6, [.ref z6, .int 0])), (h4, .inr (6, [.ref z7, .int 0])), (h5, .inr (6, [.ref z8, .int 0]))] U.heap ∧ va_K (dC, dI) vwCl [(k0, .object "Rewriterope$Text")] U ∧ va_D (fun _ => True) [(h0, .inr (7, [.ref h1, .ref z0, .ref z1, .ref z2, .ref z3, .ref z4, .int 0, .int 0, .int 0])), (h1, .inl (k0, 4, .inr (.inr (.inr (.inr (va_up (va_up (va_up (va_up (fun _ => none) 0 (some h2)) 1 (some h3)) 2 (some h4)) 3 (some h5))))))), (h2, .inr (6, [.ref z5, .int 0])), (h3, .inr (6, [.ref z6, .int 0])), (h4, .inr (6, [.ref z7, .int 0])), (h5, .inr (6, [.ref z8, .int 0]))])) (va_Qi (fun (r : Int32) (_ : Unit) => r = 1) (fun (_ : Unit) (t : State) => va_P (dC, dI) vwCl [(h0, .inr (7, [.ref h1, .ref z0, .ref z1, .ref z2, .ref z3, .ref z4, .int 0, .int 0, .int 0])), (h1, .inl (k0, 4, .inr (.inr (.inr (.inr (va_up (va_up (va_up (va_up (fun _ => none) 0 (some h2)) 1 (some h3)) 2 (some h4)) 3 (some h5))))))), (h2, .inr (6, [.ref z5, .int 0])), (h3, .inr (6, [.ref z6, .int 0])), (h4, .inr (6, [.ref z7, .int 0])), (h5, .inr (6, [.ref z8, .int 0]))] t.heap ∧ va_K (dC, dI) vwCl [(k0, .object "Rewriterope$Text")] t ∧ va_D (va_A [(h0, .inr (7, [.ref h1, .ref z0, .ref z1, .ref z2, .ref z3, .ref z4, .int 0, .int 0, .int 0])), (h1, .inl (k0, 4, .inr (.inr (.inr (.inr (va_up (va_up (va_up (va_up (fun _ => none) 0 (some h2)) 1 (some h3)) 2 (some h4)) 3 (some h5))))))), (h2, .inr (6, [.ref z5, .int 0])), (h3, .inr (6, [.ref z6, .int 0])), (h4, .inr (6, [.ref z7, .int 0])), (h5, .inr (6, [.ref z8, .int 0]))] sz) [(h0, .inr (7, [.ref h1, .ref z0, .ref z1, .ref z2, .ref z3, .ref z4, .int 0, .int 0, .int 0])), (h1, .inl (k0, 4, .inr (.inr (.inr (.inr (va_up (va_up (va_up (va_up (fun _ => none) 0 (some h2)) 1 (some h3)) 2 (some h4)) 3 (some h5))))))), (h2, .inr (6, [.ref z5, .int 0])), (h3, .inr (6, [.ref z6, .int 0])), (h4, .inr (6, [.ref z7, .int 0])), (h5, .inr (6, [.ref z8, .int 0]))]) (va_A [(h0, .inr (7, [.ref h1, .ref z0, .ref z1, .ref z2, .ref z3, .ref z4, .int 0, .int 0, .int 0])), (h1, .inl (k0, 4, .inr (.inr (.inr (.inr (va_up (va_up (va_up (va_up (fun _ => none) 0 (some h2)) 1 (some h3)) 2 (some h4)) 3 (some h5))))))), (h2, .inr (6, [.ref z5, .int 0])), (h3, .inr (6, [.ref z6, .int 0])), (h4, .inr (6, [.ref z7, .int 0])), (h5, .inr (6, [.ref z8, .int 0]))] sz)) 0 0 (va_A [(h0, .inr (7, [.ref h1, .ref z0, .ref z1, .ref z2, .ref z3, .ref z4, .int 0, .int 0, .int 0])), (h1, .inl (k0, 4, .inr (.inr (.inr (.inr (va_up (va_up (va_up (va_up (fun _ => none) 0 (some h2)) 1 (some h3)) 2 (some h4)) 3 (some h5))))))), (h2, .inr (6, [.ref z5, .int 0])), (h3, .inr (6, [.ref z6, .int 0])), (h4, .inr (6, [.ref z7, .int 0])), (h5, .inr (6, [.ref z8, .int 0]))] sz) := by
  have e9 : j0 = 0 ∨ j0 = 1 ∨ j0 = 2 ∨ j0 = 3 := by
    have h9 : j0.toInt = 0 ∨ j0.toInt = 1 ∨ j0.toInt = 2 ∨ j0.toInt = 3 := by omega
    rcases h9 with h9 | h9 | h9 | h9
    · exact Or.inl (Int32.toInt_inj.mp (h9.trans (by decide)))
    · exact Or.inr (Or.inl (Int32.toInt_inj.mp (h9.trans (by decide))))
    · exact Or.inr (Or.inr (Or.inl (Int32.toInt_inj.mp (h9.trans (by decide)))))
    · exact Or.inr (Or.inr (Or.inr (Int32.toInt_inj.mp (h9.trans (by decide)))))
  rcases e9 with rfl | rfl | rfl | rfl
  · exact kx_X3_count_12 l dC dI h0 h1 h2 h3 h4 h5 z0 z1 z2 z3 z4 z5 z6 z7 z8 k0 sz
  · exact kx_X3_count_13 l dC dI h0 h1 h2 h3 h4 h5 z0 z1 z2 z3 z4 z5 z6 z7 z8 k0 sz
  · exact kx_X3_count_14 l dC dI h0 h1 h2 h3 h4 h5 z0 z1 z2 z3 z4 z5 z6 z7 z8 k0 sz
  · exact kx_X3_count_15 l dC dI h0 h1 h2 h3 h4 h5 z0 z1 z2 z3 z4 z5 z6 z7 z8 k0 sz
set_option maxHeartbeats 4000000 in
set_option maxRecDepth 100000 in
theorem kx_X3_count_s4 (l : Launch) (dC : Nat → ClassId) (dI : Nat → Nat → Nat) (h0 : Nat) (h1 : Nat) (h2 : Nat) (h3 : Nat) (h4 : Nat) (h5 : Nat) (z0 : Nat) (z1 : Nat) (z2 : Nat) (z3 : Nat) (z4 : Nat) (z5 : Nat) (z6 : Nat) (z7 : Nat) (z8 : Nat) (k0 : ClassId) (sz : Nat) (j0 : Int32) (j0_l : (0 : Int) ≤ j0.toInt) (j0_u : j0.toInt ≤ (3 : Int)) (j1 : Int32) (j1_l : (0 : Int) ≤ j1.toInt) (j1_u : j1.toInt ≤ (3 : Int)) : Met l yX3_count wsX3_count ({ frames := 1, cells := 0, slots := 0, locals := 23 }) (va_Pc [.ref h0, .int j1, .int j0] (fun U => U.heap.size = sz ∧ va_P (dC, dI) vwCl [(h0, .inr (7, [.ref h1, .ref z0, .ref z1, .ref z2, .ref z3, .ref z4, .int 0, .int 0, .int 0])), (h1, .inl (k0, 4, .inr (.inr (.inr (.inr (va_up (va_up (va_up (va_up (fun _ => none) 0 (some h2)) 1 (some h3)) 2 (some h4)) 3 (some h5))))))), (h2, .inr (6, [.ref z5, .int 0])), (h3, .inr (6, [.ref z6, .int 0])), (h4, .inr (6, [.ref z7, .int 0])), (h5, .inr (6, [.ref z8, .int 0]))] U.heap ∧ va_K (dC, dI) vwCl [(k0, .object "Rewriterope$Text")] U ∧ va_D (fun _ => True) [(h0, .inr (7, [.ref h1, .ref z0, .ref z1, .ref z2, .ref z3, .ref z4, .int 0, .int 0, .int 0])), (h1, .inl (k0, 4, .inr (.inr (.inr (.inr (va_up (va_up (va_up (va_up (fun _ => none) 0 (some h2)) 1 (some h3)) 2 (some h4)) 3 (some h5))))))), (h2, .inr (6, [.ref z5, .int 0])), (h3, .inr (6, [.ref z6, .int 0])), (h4, .inr (6, [.ref z7, .int 0])), (h5, .inr (6, [.ref z8, .int 0]))])) (va_Qi (fun (r : Int32) (_ : Unit) => r = 1) (fun (_ : Unit) (t : State) => va_P (dC, dI) vwCl [(h0, .inr (7, [.ref h1, .ref z0, .ref z1, .ref z2, .ref z3, .ref z4, .int 0, .int 0, .int 0])), (h1, .inl (k0, 4, .inr (.inr (.inr (.inr (va_up (va_up (va_up (va_up (fun _ => none) 0 (some h2)) 1 (some h3)) 2 (some h4)) 3 (some h5))))))), (h2, .inr (6, [.ref z5, .int 0])), (h3, .inr (6, [.ref z6, .int 0])), (h4, .inr (6, [.ref z7, .int 0])), (h5, .inr (6, [.ref z8, .int 0]))] t.heap ∧ va_K (dC, dI) vwCl [(k0, .object "Rewriterope$Text")] t ∧ va_D (va_A [(h0, .inr (7, [.ref h1, .ref z0, .ref z1, .ref z2, .ref z3, .ref z4, .int 0, .int 0, .int 0])), (h1, .inl (k0, 4, .inr (.inr (.inr (.inr (va_up (va_up (va_up (va_up (fun _ => none) 0 (some h2)) 1 (some h3)) 2 (some h4)) 3 (some h5))))))), (h2, .inr (6, [.ref z5, .int 0])), (h3, .inr (6, [.ref z6, .int 0])), (h4, .inr (6, [.ref z7, .int 0])), (h5, .inr (6, [.ref z8, .int 0]))] sz) [(h0, .inr (7, [.ref h1, .ref z0, .ref z1, .ref z2, .ref z3, .ref z4, .int 0, .int 0, .int 0])), (h1, .inl (k0, 4, .inr (.inr (.inr (.inr (va_up (va_up (va_up (va_up (fun _ => none) 0 (some h2)) 1 (some h3)) 2 (some h4)) 3 (some h5))))))), (h2, .inr (6, [.ref z5, .int 0])), (h3, .inr (6, [.ref z6, .int 0])), (h4, .inr (6, [.ref z7, .int 0])), (h5, .inr (6, [.ref z8, .int 0]))]) (va_A [(h0, .inr (7, [.ref h1, .ref z0, .ref z1, .ref z2, .ref z3, .ref z4, .int 0, .int 0, .int 0])), (h1, .inl (k0, 4, .inr (.inr (.inr (.inr (va_up (va_up (va_up (va_up (fun _ => none) 0 (some h2)) 1 (some h3)) 2 (some h4)) 3 (some h5))))))), (h2, .inr (6, [.ref z5, .int 0])), (h3, .inr (6, [.ref z6, .int 0])), (h4, .inr (6, [.ref z7, .int 0])), (h5, .inr (6, [.ref z8, .int 0]))] sz)) 0 0 (va_A [(h0, .inr (7, [.ref h1, .ref z0, .ref z1, .ref z2, .ref z3, .ref z4, .int 0, .int 0, .int 0])), (h1, .inl (k0, 4, .inr (.inr (.inr (.inr (va_up (va_up (va_up (va_up (fun _ => none) 0 (some h2)) 1 (some h3)) 2 (some h4)) 3 (some h5))))))), (h2, .inr (6, [.ref z5, .int 0])), (h3, .inr (6, [.ref z6, .int 0])), (h4, .inr (6, [.ref z7, .int 0])), (h5, .inr (6, [.ref z8, .int 0]))] sz) := by
  have e9 : j1 = 0 ∨ j1 = 1 ∨ j1 = 2 ∨ j1 = 3 := by
    have h9 : j1.toInt = 0 ∨ j1.toInt = 1 ∨ j1.toInt = 2 ∨ j1.toInt = 3 := by omega
    rcases h9 with h9 | h9 | h9 | h9
    · exact Or.inl (Int32.toInt_inj.mp (h9.trans (by decide)))
    · exact Or.inr (Or.inl (Int32.toInt_inj.mp (h9.trans (by decide))))
    · exact Or.inr (Or.inr (Or.inl (Int32.toInt_inj.mp (h9.trans (by decide)))))
    · exact Or.inr (Or.inr (Or.inr (Int32.toInt_inj.mp (h9.trans (by decide)))))
  rcases e9 with rfl | rfl | rfl | rfl
  · exact kx_X3_count_s0 l dC dI h0 h1 h2 h3 h4 h5 z0 z1 z2 z3 z4 z5 z6 z7 z8 k0 sz j0 j0_l j0_u
  · exact kx_X3_count_s1 l dC dI h0 h1 h2 h3 h4 h5 z0 z1 z2 z3 z4 z5 z6 z7 z8 k0 sz j0 j0_l j0_u
  · exact kx_X3_count_s2 l dC dI h0 h1 h2 h3 h4 h5 z0 z1 z2 z3 z4 z5 z6 z7 z8 k0 sz j0 j0_l j0_u
  · exact kx_X3_count_s3 l dC dI h0 h1 h2 h3 h4 h5 z0 z1 z2 z3 z4 z5 z6 z7 z8 k0 sz j0 j0_l j0_u
set_option maxHeartbeats 4000000 in
set_option maxRecDepth 100000 in
theorem kx_L_count_0 (l : Launch) (dC : Nat → ClassId) (dI : Nat → Nat → Nat) (ge5 gea gv5 gva gde gic gi0 : Nat) (h0 : Nat) (h1 : Nat) (h2 : Nat) (h3 : Nat) (h4 : Nat) (h5 : Nat) (h6 : Nat) (z0 : Nat) (z1 : Nat) (z2 : Nat) (z3 : Nat) (z4 : Nat) (z5 : Nat) (z6 : Nat) (z7 : Nat) (z8 : Nat) (k0 : ClassId) (sz : Nat) (i0 : Int32) (i0_l : (0 : Int) ≤ i0.toInt) (i0_u : i0.toInt ≤ (3 : Int)) (i1 : Int32) (i1_l : (0 : Int) ≤ i1.toInt) (i1_u : i1.toInt ≤ (3 : Int)) : Met l yL_count wsL_count ({ frames := 2, cells := 0, slots := 0, locals := 47 }) (va_Pc [.ref h0, .int i0, .int i1, .ref h6] (fun U => U.heap.size = sz ∧ va_P (dC, dI) vwCl [(h0, .inr (7, [.ref h1, .ref z0, .ref z1, .ref z2, .ref z3, .ref z4, .int 0, .int 0, .int 0])), (h1, .inl (k0, 4, .inr (.inr (.inr (.inr (va_up (va_up (va_up (va_up (fun _ => none) 0 (some h2)) 1 (some h3)) 2 (some h4)) 3 (some h5))))))), (h2, .inr (6, [.ref z5, .int 0])), (h3, .inr (6, [.ref z6, .int 0])), (h4, .inr (6, [.ref z7, .int 0])), (h5, .inr (6, [.ref z8, .int 0])), (h6, .inr (8, [.long 0, .null]))] U.heap ∧ va_K (dC, dI) vwCl [(k0, .object "Rewriterope$Text")] U ∧ va_D (fun _ => True) [(h0, .inr (7, [.ref h1, .ref z0, .ref z1, .ref z2, .ref z3, .ref z4, .int 0, .int 0, .int 0])), (h1, .inl (k0, 4, .inr (.inr (.inr (.inr (va_up (va_up (va_up (va_up (fun _ => none) 0 (some h2)) 1 (some h3)) 2 (some h4)) 3 (some h5))))))), (h2, .inr (6, [.ref z5, .int 0])), (h3, .inr (6, [.ref z6, .int 0])), (h4, .inr (6, [.ref z7, .int 0])), (h5, .inr (6, [.ref z8, .int 0])), (h6, .inr (8, [.long 0, .null]))] ∧ gv ge5 gea gv5 gva gde gic gi0 (va_A [(h0, .inr (7, [.ref h1, .ref z0, .ref z1, .ref z2, .ref z3, .ref z4, .int 0, .int 0, .int 0])), (h1, .inl (k0, 4, .inr (.inr (.inr (.inr (va_up (va_up (va_up (va_up (fun _ => none) 0 (some h2)) 1 (some h3)) 2 (some h4)) 3 (some h5))))))), (h2, .inr (6, [.ref z5, .int 0])), (h3, .inr (6, [.ref z6, .int 0])), (h4, .inr (6, [.ref z7, .int 0])), (h5, .inr (6, [.ref z8, .int 0])), (h6, .inr (8, [.long 0, .null]))] sz) U U.heap)) (va_Qi (fun (r : Int32) (_ : Unit) => r = 0) (fun (_ : Unit) (t : State) => va_P (dC, dI) vwCl [(h0, .inr (7, [.ref h1, .ref z0, .ref z1, .ref z2, .ref z3, .ref z4, .int 0, .int 0, .int 0])), (h1, .inl (k0, 4, .inr (.inr (.inr (.inr (va_up (va_up (va_up (va_up (fun _ => none) 0 (some h2)) 1 (some h3)) 2 (some h4)) 3 (some h5))))))), (h2, .inr (6, [.ref z5, .int 0])), (h3, .inr (6, [.ref z6, .int 0])), (h4, .inr (6, [.ref z7, .int 0])), (h5, .inr (6, [.ref z8, .int 0])), (h6, .inr (8, [.long 1, .null]))] t.heap ∧ va_K (dC, dI) vwCl [(k0, .object "Rewriterope$Text")] t ∧ va_D (va_A [(h0, .inr (7, [.ref h1, .ref z0, .ref z1, .ref z2, .ref z3, .ref z4, .int 0, .int 0, .int 0])), (h1, .inl (k0, 4, .inr (.inr (.inr (.inr (va_up (va_up (va_up (va_up (fun _ => none) 0 (some h2)) 1 (some h3)) 2 (some h4)) 3 (some h5))))))), (h2, .inr (6, [.ref z5, .int 0])), (h3, .inr (6, [.ref z6, .int 0])), (h4, .inr (6, [.ref z7, .int 0])), (h5, .inr (6, [.ref z8, .int 0])), (h6, .inr (8, [.long 0, .null]))] sz) [(h0, .inr (7, [.ref h1, .ref z0, .ref z1, .ref z2, .ref z3, .ref z4, .int 0, .int 0, .int 0])), (h1, .inl (k0, 4, .inr (.inr (.inr (.inr (va_up (va_up (va_up (va_up (fun _ => none) 0 (some h2)) 1 (some h3)) 2 (some h4)) 3 (some h5))))))), (h2, .inr (6, [.ref z5, .int 0])), (h3, .inr (6, [.ref z6, .int 0])), (h4, .inr (6, [.ref z7, .int 0])), (h5, .inr (6, [.ref z8, .int 0])), (h6, .inr (8, [.long 1, .null]))]) (va_A [(h0, .inr (7, [.ref h1, .ref z0, .ref z1, .ref z2, .ref z3, .ref z4, .int 0, .int 0, .int 0])), (h1, .inl (k0, 4, .inr (.inr (.inr (.inr (va_up (va_up (va_up (va_up (fun _ => none) 0 (some h2)) 1 (some h3)) 2 (some h4)) 3 (some h5))))))), (h2, .inr (6, [.ref z5, .int 0])), (h3, .inr (6, [.ref z6, .int 0])), (h4, .inr (6, [.ref z7, .int 0])), (h5, .inr (6, [.ref z8, .int 0])), (h6, .inr (8, [.long 0, .null]))] sz)) 0 0 (va_A [(h0, .inr (7, [.ref h1, .ref z0, .ref z1, .ref z2, .ref z3, .ref z4, .int 0, .int 0, .int 0])), (h1, .inl (k0, 4, .inr (.inr (.inr (.inr (va_up (va_up (va_up (va_up (fun _ => none) 0 (some h2)) 1 (some h3)) 2 (some h4)) 3 (some h5))))))), (h2, .inr (6, [.ref z5, .int 0])), (h3, .inr (6, [.ref z6, .int 0])), (h4, .inr (6, [.ref z7, .int 0])), (h5, .inr (6, [.ref z8, .int 0])), (h6, .inr (8, [.long 0, .null]))] sz) := by
  refine kz_ofWH (cc := cL_count) (maxL := 5) (ret := (some .int)) (hh := [(0, 11, 14, 19)]) (by decide) rfl ?_
  intro p e s m args below meth c s₁ B hml hv
  obtain ⟨rfl, hsz, hP, hK, hD0, hG⟩ := hv
  have hx := B.exec
  have hb := B.bytes
  have hr := B.returns
  have hts := atoms_spec (ws := wsL_count) B.pre
  have hown : s.vm.findClass RL = some m.cls := findClass_of_methodNamed B.named
  have htab := vx_table (x := yL_count) B (hts (.codeWith yL_count cL_count 5 (some .int) [(0, 11, 14, 19)]) (by decide +kernel))
  have hlocks := B.notSynchronized
  subst hsz
  have hD := hD0.self (sz := s.heap.size)
  generalize hAe : va_A [(h0, .inr (7, [.ref h1, .ref z0, .ref z1, .ref z2, .ref z3, .ref z4, .int 0, .int 0, .int 0])), (h1, .inl (k0, 4, .inr (.inr (.inr (.inr (va_up (va_up (va_up (va_up (fun _ => none) 0 (some h2)) 1 (some h3)) 2 (some h4)) 3 (some h5))))))), (h2, .inr (6, [.ref z5, .int 0])), (h3, .inr (6, [.ref z6, .int 0])), (h4, .inr (6, [.ref z7, .int 0])), (h5, .inr (6, [.ref z8, .int 0])), (h6, .inr (8, [.long 0, .null]))] s.heap.size = A at hD hG ⊢
  obtain ⟨⟨g_AO_Text, g_AO_String, g_AO_Object, g_nm_RX1_20, g_nm_RX0_17, g_nm_RX3_31, g_nm_RX2_44, g_nm_RL_121, g_nf_RL_13, g_nf_RL_47, g_ca_IO, g_ca_IA, g_ca_IS, g_ca_IntObj, g_ca_StrObj, g_de_RT, g_de_EX, g_de_TH, g_nc_IA_IO, g_nc_IS_IO, g_nc_IS_IA⟩, ⟨g_s3, g_s5, g_sa, g_x278, g_x280, g_x282, g_x284, g_x286, g_x180, g_x238, g_x250⟩, ⟨g_o5, g_c5, g_v5, g_t5, g_oa, g_ca, g_va, g_ta, g_zc, g_zd, g_td, g_zf, g_zU, g_zN, g_zh, g_zk, g_tk, g_oi, g_vi⟩⟩ := id hG
  have hA : ∀ q : Nat, s.heap.size ≤ q → A q := fun q h => by rw [← hAe]; exact Or.inr h
  have hS : va_S A s.heap s.heap [] := va_S.rf
  have hP : va_P (dC, dI) vwCl [(h0, .inr (7, [.ref h1, .ref z0, .ref z1, .ref z2, .ref z3, .ref z4, .int 0, .int 0, .int 0])), (h1, .inl (k0, 4, .inr (.inr (.inr (.inr (va_up (va_up (va_up (va_up (fun _ => none) 0 (some h2)) 1 (some h3)) 2 (some h4)) 3 (some h5))))))), (h2, .inr (6, [.ref z5, .int 0])), (h3, .inr (6, [.ref z6, .int 0])), (h4, .inr (6, [.ref z7, .int 0])), (h5, .inr (6, [.ref z8, .int 0])), (h6, .inr (8, [.long 0, .null]))] s.heap := hP
  have hl := lv_entry ([.ref h0, .int i0, .int i1, .ref h6]) (n := 5) (Nat.le_of_ble_eq_true rfl)
  rw [lg_entry_eq]
  generalize (lg_sl ([.ref h0, .int i0, .int i1, .ref h6]) ++ List.replicate (5 - (lg_sl ([.ref h0, .int i0, .int i1, .ref h6])).length) Slot.unset).toArray = ls at hl ⊢
  have hl : lv_has ls 5 [(0, .ref h0), (1, .int i0), (2, .int i1), (3, .ref h6)] := hl
  refine lv_aload_n hx hb dL_count_0 rfl (lv_at hl 3 rfl) ?_
  refine lv_aload_n hx hb dL_count_1 rfl (lv_at hl 0 rfl) ?_
  refine lv_iload_n hx hb dL_count_2 rfl (lv_at hl 1 rfl) ?_
  refine lv_iload_n hx hb dL_count_3 rfl (lv_at hl 2 rfl) ?_
  have hPc := hP.sub (ws' := [(h0, .inr (7, [.ref h1, .ref z0, .ref z1, .ref z2, .ref z3, .ref z4, .int 0, .int 0, .int 0])), (h1, .inl (k0, 4, .inr (.inr (.inr (.inr (va_up (va_up (va_up (va_up (fun _ => none) 0 (some h2)) 1 (some h3)) 2 (some h4)) 3 (some h5))))))), (h2, .inr (6, [.ref z5, .int 0])), (h3, .inr (6, [.ref z6, .int 0])), (h4, .inr (6, [.ref z7, .int 0])), (h5, .inr (6, [.ref z8, .int 0]))]) [0, 1, 2, 3, 4, 5] rfl
  have hDc := hD.sub (ws' := [(h0, .inr (7, [.ref h1, .ref z0, .ref z1, .ref z2, .ref z3, .ref z4, .int 0, .int 0, .int 0])), (h1, .inl (k0, 4, .inr (.inr (.inr (.inr (va_up (va_up (va_up (va_up (fun _ => none) 0 (some h2)) 1 (some h3)) 2 (some h4)) 3 (some h5))))))), (h2, .inr (6, [.ref z5, .int 0])), (h3, .inr (6, [.ref z6, .int 0])), (h4, .inr (6, [.ref z7, .int 0])), (h5, .inr (6, [.ref z8, .int 0]))]) [0, 1, 2, 3, 4, 5] (by decide) rfl
  have hKc := hK.sub (tys' := [(k0, .object "Rewriterope$Text")]) [0] rfl
  have hFc := va_free (wc := [(h0, .inr (7, [.ref h1, .ref z0, .ref z1, .ref z2, .ref z3, .ref z4, .int 0, .int 0, .int 0])), (h1, .inl (k0, 4, .inr (.inr (.inr (.inr (va_up (va_up (va_up (va_up (fun _ => none) 0 (some h2)) 1 (some h3)) 2 (some h4)) 3 (some h5))))))), (h2, .inr (6, [.ref z5, .int 0])), (h3, .inr (6, [.ref z6, .int 0])), (h4, .inr (6, [.ref z7, .int 0])), (h5, .inr (6, [.ref z8, .int 0]))]) hD hS hA [0, 1, 2, 3, 4, 5] rfl
  refine va_calli (va_runV (As := [.int i0, .int i1]) (rest := [.ref h6]) ⟨hx, hb, hml, hown, hts⟩ (kx_X3_count_s4 l dC dI h0 h1 h2 h3 h4 h5 z0 z1 z2 z3 z4 z5 z6 z7 z8 k0 s.heap.size i1 i1_l i1_u i0 i0_l i0_u) (cwV 2 hts gL_count_X3_count rfl rfl rfl (by decide +kernel) ⟨Nat.le_of_ble_eq_true rfl, Nat.le_of_ble_eq_true rfl⟩) ⟨fun a U g mk q => by obtain ⟨q0, q1, qP, qK, qD⟩ := q; exact ⟨q0, q1, qP, va_K.moved (u := U) (U := U.calling g mk a) (Vm.Alike.refl U.vm) qK, qD⟩, va_recv hKc hPc (ci := 7) (q0 := 0) rfl rfl, fun U hU hW => ⟨rfl, by rw [hU], by rw [hU]; exact hPc, va_K.moved hW.alike hKc, hDc.weaken (fun _ _ _ _ => trivial)⟩⟩ rfl rfl hl.1 rfl (lv_room (Nat.le_of_ble_eq_true rfl)) dL_count_4 ⟨Nat.le_of_ble_eq_true rfl, Nat.le_of_ble_eq_true rfl⟩) hS (fun q _ h => hFc q h) hFc (fun r9 u t H1 locs ht hvm hw hB hz1 hk1 hS => ?_)
  obtain rfl := hw
  obtain ⟨hP1, hK1, hD1⟩ := hB
  rw [ht] at hP1
  have hK1 := va_K.moved hvm.symm hK1
  obtain ⟨hP, hD⟩ := va_join (wr := [(h6, .inr (8, [.long 0, .null]))]) (w1 := [(h0, .inr (7, [.ref h1, .ref z0, .ref z1, .ref z2, .ref z3, .ref z4, .int 0, .int 0, .int 0])), (h1, .inl (k0, 4, .inr (.inr (.inr (.inr (va_up (va_up (va_up (va_up (fun _ => none) 0 (some h2)) 1 (some h3)) 2 (some h4)) 3 (some h5))))))), (h2, .inr (6, [.ref z5, .int 0])), (h3, .inr (6, [.ref z6, .int 0])), (h4, .inr (6, [.ref z7, .int 0])), (h5, .inr (6, [.ref z8, .int 0]))]) hP hD [0, 1, 2, 3, 4, 5] [6] rfl rfl (by decide) (by decide) hk1 hFc hP1 hD1
  generalize H1 = H at hP hS ⊢
  have hP : va_P (dC, dI) vwCl [(h6, .inr (8, [.long 0, .null])), (h0, .inr (7, [.ref h1, .ref z0, .ref z1, .ref z2, .ref z3, .ref z4, .int 0, .int 0, .int 0])), (h1, .inl (k0, 4, .inr (.inr (.inr (.inr (va_up (va_up (va_up (va_up (fun _ => none) 0 (some h2)) 1 (some h3)) 2 (some h4)) 3 (some h5))))))), (h2, .inr (6, [.ref z5, .int 0])), (h3, .inr (6, [.ref z6, .int 0])), (h4, .inr (6, [.ref z7, .int 0])), (h5, .inr (6, [.ref z8, .int 0]))] H := hP
  have hD : va_D A [(h6, .inr (8, [.long 0, .null])), (h0, .inr (7, [.ref h1, .ref z0, .ref z1, .ref z2, .ref z3, .ref z4, .int 0, .int 0, .int 0])), (h1, .inl (k0, 4, .inr (.inr (.inr (.inr (va_up (va_up (va_up (va_up (fun _ => none) 0 (some h2)) 1 (some h3)) 2 (some h4)) 3 (some h5))))))), (h2, .inr (6, [.ref z5, .int 0])), (h3, .inr (6, [.ref z6, .int 0])), (h4, .inr (6, [.ref z7, .int 0])), (h5, .inr (6, [.ref z8, .int 0]))] := hD
  refine lv_i2l (v := 1) hx hb dL_count_7 (by decide) ?_
  refine va_putN (D := (dC, dI)) (ci := 8) (v := .long 1) (ty := .long) (C := RX4) (T := TX4) (N := 2) hx hb hts (by decide +kernel) tyX4 tyX4_ok nmX4 hown hK hP hD hS 0 rfl rfl 0 (by decide) (va_Nw.use rfl g_nf_RL_13) (fun _ h9 => h9) rfl (by decide +kernel) rfl rfl (Nat.le_of_ble_eq_true rfl) dL_count_8 (fun H locs hP hD hS => ?_)
  have hP : va_P (dC, dI) vwCl [(h6, .inr (8, [.long 1, .null])), (h0, .inr (7, [.ref h1, .ref z0, .ref z1, .ref z2, .ref z3, .ref z4, .int 0, .int 0, .int 0])), (h1, .inl (k0, 4, .inr (.inr (.inr (.inr (va_up (va_up (va_up (va_up (fun _ => none) 0 (some h2)) 1 (some h3)) 2 (some h4)) 3 (some h5))))))), (h2, .inr (6, [.ref z5, .int 0])), (h3, .inr (6, [.ref z6, .int 0])), (h4, .inr (6, [.ref z7, .int 0])), (h5, .inr (6, [.ref z8, .int 0]))] H := hP
  have hD : va_D A [(h6, .inr (8, [.long 1, .null])), (h0, .inr (7, [.ref h1, .ref z0, .ref z1, .ref z2, .ref z3, .ref z4, .int 0, .int 0, .int 0])), (h1, .inl (k0, 4, .inr (.inr (.inr (.inr (va_up (va_up (va_up (va_up (fun _ => none) 0 (some h2)) 1 (some h3)) 2 (some h4)) 3 (some h5))))))), (h2, .inr (6, [.ref z5, .int 0])), (h3, .inr (6, [.ref z6, .int 0])), (h4, .inr (6, [.ref z7, .int 0])), (h5, .inr (6, [.ref z8, .int 0]))] := hD
  refine lv_goto (tgt := 18) hx hb dL_count_11 (by decide) ?_
  refine lv_iconst (v := 0) hx hb dL_count_18 (by decide) ?_
  have hP := hP.sub (ws' := [(h0, .inr (7, [.ref h1, .ref z0, .ref z1, .ref z2, .ref z3, .ref z4, .int 0, .int 0, .int 0])), (h1, .inl (k0, 4, .inr (.inr (.inr (.inr (va_up (va_up (va_up (va_up (fun _ => none) 0 (some h2)) 1 (some h3)) 2 (some h4)) 3 (some h5))))))), (h2, .inr (6, [.ref z5, .int 0])), (h3, .inr (6, [.ref z6, .int 0])), (h4, .inr (6, [.ref z7, .int 0])), (h5, .inr (6, [.ref z8, .int 0])), (h6, .inr (8, [.long 1, .null]))]) [1, 2, 3, 4, 5, 6, 0] rfl
  have hD := hD.sub (ws' := [(h0, .inr (7, [.ref h1, .ref z0, .ref z1, .ref z2, .ref z3, .ref z4, .int 0, .int 0, .int 0])), (h1, .inl (k0, 4, .inr (.inr (.inr (.inr (va_up (va_up (va_up (va_up (fun _ => none) 0 (some h2)) 1 (some h3)) 2 (some h4)) 3 (some h5))))))), (h2, .inr (6, [.ref z5, .int 0])), (h3, .inr (6, [.ref z6, .int 0])), (h4, .inr (6, [.ref z7, .int 0])), (h5, .inr (6, [.ref z8, .int 0])), (h6, .inr (8, [.long 1, .null]))]) [1, 2, 3, 4, 5, 6, 0] (by decide) rfl
  exact W.iret (v := 0) hx hb hr (fun t ht hW => ⟨⟨0, (), rfl, rfl, by rw [ht]; exact hP, va_K.moved hW.alike hK, hD⟩, hS.F ht⟩) hS.2.2 dL_count_19
set_option maxHeartbeats 4000000 in
set_option maxRecDepth 100000 in
theorem kx_X5_stands_0 (l : Launch) (dC : Nat → ClassId) (dI : Nat → Nat → Nat) (ge5 gea gv5 gva gde gic gi0 : Nat) (sz : Nat) : Met l yX5_stands wsX5_stands ({ frames := 2, cells := 0, slots := 0, locals := 40 }) (va_Pc [.ref ge5, .ref ge5, .int 0] (fun U => U.heap.size = sz ∧ va_P (dC, dI) vwCl [] U.heap ∧ va_K (dC, dI) vwCl [] U ∧ va_D (fun _ => True) [] ∧ gv ge5 gea gv5 gva gde gic gi0 (va_A [] sz) U U.heap)) (va_Qi (fun (r : Int32) (_ : Unit) => r = 1) (fun (_ : Unit) (t : State) => va_P (dC, dI) vwCl [] t.heap ∧ va_K (dC, dI) vwCl [] t ∧ va_D (va_A [] sz) []) (va_A [] sz)) 0 0 (va_A [] sz) := by
  refine Met.ofW (cc := cX5_stands) (maxL := 5) (ret := (some .boolean)) (by decide) rfl ?_
  intro p e s m args below meth c s₁ B hml hv
  obtain ⟨rfl, hsz, hP, hK, hD0, hG⟩ := hv
  have hx := B.exec
  have hb := B.bytes
  have hr := B.returns
  have hts := atoms_spec (ws := wsX5_stands) B.pre
  have hown : s.vm.findClass RX5 = some m.cls := findClass_of_methodNamed B.named
  have hlocks := B.notSynchronized
  subst hsz
  have hD := hD0.self (sz := s.heap.size)
  generalize hAe : va_A [] s.heap.size = A at hD hG ⊢
  obtain ⟨⟨g_AO_Text, g_AO_String, g_AO_Object, g_nm_RX1_20, g_nm_RX0_17, g_nm_RX3_31, g_nm_RX2_44, g_nm_RL_121, g_nf_RL_13, g_nf_RL_47, g_ca_IO, g_ca_IA, g_ca_IS, g_ca_IntObj, g_ca_StrObj, g_de_RT, g_de_EX, g_de_TH, g_nc_IA_IO, g_nc_IS_IO, g_nc_IS_IA⟩, ⟨g_s3, g_s5, g_sa, g_x278, g_x280, g_x282, g_x284, g_x286, g_x180, g_x238, g_x250⟩, ⟨g_o5, g_c5, g_v5, g_t5, g_oa, g_ca, g_va, g_ta, g_zc, g_zd, g_td, g_zf, g_zU, g_zN, g_zh, g_zk, g_tk, g_oi, g_vi⟩⟩ := id hG
  have hA : ∀ q : Nat, s.heap.size ≤ q → A q := fun q h => by rw [← hAe]; exact Or.inr h
  have hS : va_S A s.heap s.heap [] := va_S.rf
  have hP : va_P (dC, dI) vwCl [] s.heap := hP
  have hl := lv_entry ([.ref ge5, .ref ge5, .int 0]) (n := 5) (Nat.le_of_ble_eq_true rfl)
  rw [lg_entry_eq]
  generalize (lg_sl ([.ref ge5, .ref ge5, .int 0]) ++ List.replicate (5 - (lg_sl ([.ref ge5, .ref ge5, .int 0])).length) Slot.unset).toArray = ls at hl ⊢
  have hl : lv_has ls 5 [(0, .ref ge5), (1, .ref ge5), (2, .int 0)] := hl
  refine lv_iload_n hx hb dX5_stands_0 rfl (lv_at hl 2 rfl) ?_
  refine lv_aload_n hx hb dX5_stands_1 rfl (lv_at hl 0 rfl) ?_
  have hPc := hP.sub (ws' := []) [] rfl
  have hDc := hD.sub (ws' := []) [] (by decide) rfl
  have hKc := hK.sub (tys' := []) [] rfl
  have hFc := va_free (wc := []) hD hS hA [] rfl
  refine va_calli (va_runV (As := []) (rest := [.int 0]) ⟨hx, hb, hml, hown, hts⟩ (kx_J0_length_8abf5_0 l dC dI ge5 gea gv5 gva gde gic gi0 s.heap.size) (cwV 0 hts gX5_stands_J0_length_8abf5 rfl rfl rfl (by decide +kernel) ⟨Nat.le_of_ble_eq_true rfl, Nat.le_of_ble_eq_true rfl⟩) ⟨fun a U g mk q => by obtain ⟨q0, q1, qP, qK, qD, qG⟩ := q; exact ⟨q0, q1, qP, va_K.moved (u := U) (U := U.calling g mk a) (Vm.Alike.refl U.vm) qK, qD, gv.fb qG⟩, (by obtain ⟨cell, k1, k2, k3, -⟩ := g_o5.kept hS.2.1; exact ⟨cell, k1, k2, k3⟩), fun U hU hW => ⟨rfl, by rw [hU], by rw [hU]; exact hPc, va_K.moved hW.alike hKc, hDc.weaken (fun _ _ _ _ => trivial), gv.pass hW hU hS hFc hG⟩⟩ rfl rfl hl.1 rfl (lv_room (Nat.le_of_ble_eq_true rfl)) dX5_stands_2 ⟨Nat.le_of_ble_eq_true rfl, Nat.le_of_ble_eq_true rfl⟩) hS (fun q _ h => hFc q h) hFc (fun r9 u t H1 locs ht hvm hw hB hz1 hk1 hS => ?_)
  obtain rfl := hw
  obtain ⟨hP1, hK1, hD1⟩ := hB
  rw [ht] at hP1
  have hK1 := va_K.moved hvm.symm hK1
  obtain ⟨hP, hD⟩ := va_join (wr := []) (w1 := []) hP hD [] [] rfl rfl (by decide) (by decide) hk1 hFc hP1 hD1
  generalize H1 = H at hP hS ⊢
  have hP : va_P (dC, dI) vwCl [] H := hP
  have hD : va_D A [] := hD
  refine lv_iadd hx hb dX5_stands_5 ?_
  refine lv_topi (fun y1 ey1 => ?_)
  obtain rfl : y1 = 0 := ey1.trans (by decide)
  refine lv_aload_n hx hb dX5_stands_6 rfl (lv_at hl 1 rfl) ?_
  have hPc := hP.sub (ws' := []) [] rfl
  have hDc := hD.sub (ws' := []) [] (by decide) rfl
  have hKc := hK.sub (tys' := []) [] rfl
  have hFc := va_free (wc := []) hD hS hA [] rfl
  refine va_calli (va_runV (As := []) (rest := [.int 0]) ⟨hx, hb, hml, hown, hts⟩ (kx_J0_length_8abf5_0 l dC dI ge5 gea gv5 gva gde gic gi0 H.size) (cwV 0 hts gX5_stands_J0_length_8abf5 rfl rfl rfl (by decide +kernel) ⟨Nat.le_of_ble_eq_true rfl, Nat.le_of_ble_eq_true rfl⟩) ⟨fun a U g mk q => by obtain ⟨q0, q1, qP, qK, qD, qG⟩ := q; exact ⟨q0, q1, qP, va_K.moved (u := U) (U := U.calling g mk a) (Vm.Alike.refl U.vm) qK, qD, gv.fb qG⟩, (by obtain ⟨cell, k1, k2, k3, -⟩ := g_o5.kept hS.2.1; exact ⟨cell, k1, k2, k3⟩), fun U hU hW => ⟨rfl, by rw [hU], by rw [hU]; exact hPc, va_K.moved hW.alike hKc, hDc.weaken (fun _ _ _ _ => trivial), gv.pass hW hU hS hFc hG⟩⟩ rfl rfl hl.1 rfl (lv_room (Nat.le_of_ble_eq_true rfl)) dX5_stands_7 ⟨Nat.le_of_ble_eq_true rfl, Nat.le_of_ble_eq_true rfl⟩) hS (fun q _ h => hFc q h) hFc (fun r9 u t H1 locs ht hvm hw hB hz1 hk1 hS => ?_)
  obtain rfl := hw
  obtain ⟨hP1, hK1, hD1⟩ := hB
  rw [ht] at hP1
  have hK1 := va_K.moved hvm.symm hK1
  obtain ⟨hP, hD⟩ := va_join (wr := []) (w1 := []) hP hD [] [] rfl rfl (by decide) (by decide) hk1 hFc hP1 hD1
  generalize H1 = H at hP hS ⊢
  have hP : va_P (dC, dI) vwCl [] H := hP
  have hD : va_D A [] := hD
  refine lv_icmp_le (tgt := 15) hx hb dX5_stands_10 (by decide) (fun _ => ?_) (fun c9 => absurd (by decide) c9)
  refine lv_iconst (v := 1) hx hb dX5_stands_15 (by decide) ?_
  refine lv_istore_n (lv' := [(3, .int 1), (0, .ref ge5), (1, .ref ge5), (2, .int 0)]) hx hb dX5_stands_16 rfl hl (by decide) rfl (fun ls hl => ?_)
  refine lv_iconst (v := 0) hx hb dX5_stands_17 (by decide) ?_
  refine lv_istore (lv' := [(4, .int 0), (3, .int 1), (0, .ref ge5), (1, .ref ge5), (2, .int 0)]) hx hb dX5_stands_18 hl (by decide) rfl (fun ls hl => ?_)
  refine lv_iload hx hb dX5_stands_20 (lv_at hl 0 rfl) ?_
  refine lv_aload_n hx hb dX5_stands_22 rfl (lv_at hl 2 rfl) ?_
  have hPc := hP.sub (ws' := []) [] rfl
  have hDc := hD.sub (ws' := []) [] (by decide) rfl
  have hKc := hK.sub (tys' := []) [] rfl
  have hFc := va_free (wc := []) hD hS hA [] rfl
  refine va_calli (va_runV (As := []) (rest := [.int 0]) ⟨hx, hb, hml, hown, hts⟩ (kx_J0_length_8abf5_0 l dC dI ge5 gea gv5 gva gde gic gi0 H.size) (cwV 0 hts gX5_stands_J0_length_8abf5 rfl rfl rfl (by decide +kernel) ⟨Nat.le_of_ble_eq_true rfl, Nat.le_of_ble_eq_true rfl⟩) ⟨fun a U g mk q => by obtain ⟨q0, q1, qP, qK, qD, qG⟩ := q; exact ⟨q0, q1, qP, va_K.moved (u := U) (U := U.calling g mk a) (Vm.Alike.refl U.vm) qK, qD, gv.fb qG⟩, (by obtain ⟨cell, k1, k2, k3, -⟩ := g_o5.kept hS.2.1; exact ⟨cell, k1, k2, k3⟩), fun U hU hW => ⟨rfl, by rw [hU], by rw [hU]; exact hPc, va_K.moved hW.alike hKc, hDc.weaken (fun _ _ _ _ => trivial), gv.pass hW hU hS hFc hG⟩⟩ rfl rfl hl.1 rfl (lv_room (Nat.le_of_ble_eq_true rfl)) dX5_stands_23 ⟨Nat.le_of_ble_eq_true rfl, Nat.le_of_ble_eq_true rfl⟩) hS (fun q _ h => hFc q h) hFc (fun r9 u t H1 locs ht hvm hw hB hz1 hk1 hS => ?_)
  obtain rfl := hw
  obtain ⟨hP1, hK1, hD1⟩ := hB
  rw [ht] at hP1
  have hK1 := va_K.moved hvm.symm hK1
  obtain ⟨hP, hD⟩ := va_join (wr := []) (w1 := []) hP hD [] [] rfl rfl (by decide) (by decide) hk1 hFc hP1 hD1
  generalize H1 = H at hP hS ⊢
  have hP : va_P (dC, dI) vwCl [] H := hP
  have hD : va_D A [] := hD
  refine lv_icmp_ge (tgt := 60) hx hb dX5_stands_26 (by decide) (fun _ => ?_) (fun c9 => absurd (by decide) c9)
  refine lv_iload_n hx hb dX5_stands_60 rfl (lv_at hl 1 rfl) ?_
  exact W.zret (v := 1) hx hb hr (by decide) (fun t ht hW => ⟨⟨1, (), rfl, rfl, by rw [ht]; exact hP, va_K.moved hW.alike hK, hD⟩, hS.F ht⟩) hS.2.2 dX5_stands_61
set_option maxHeartbeats 4000000 in
set_option maxRecDepth 100000 in
theorem kx_J6_valueOf_2dffe_0 (l : Launch) (dC : Nat → ClassId) (dI : Nat → Nat → Nat) (ge5 gea gv5 gva gde gic gi0 : Nat) (sz : Nat) : Met l yJ6_valueOf_2dffe wsJ6_valueOf_2dffe ({ frames := 0, cells := 0, slots := 0, locals := 0 }) (va_Pc [.int 0] (fun U => U.heap.size = sz ∧ va_P (dC, dI) vwCl [] U.heap ∧ va_K (dC, dI) vwCl [] U ∧ va_D (fun _ => True) [] ∧ gv ge5 gea gv5 gva gde gic gi0 (va_A [] sz) U U.heap)) (va_Qr (fun _ : Unit => True) (fun (_ : Unit) (ra : Nat) (t : State) => ra = gi0 ∧ va_P (dC, dI) vwCl [] t.heap ∧ va_K (dC, dI) vwCl [] t ∧ va_D (va_A [] sz) []) (va_A [] sz)) 0 0 (va_A [] sz) := by
  refine Met.ofW (cc := cJ6_valueOf_2dffe) (maxL := 1) (ret := (some (.object "java/lang/Integer"))) (by decide) rfl ?_
  intro p e s m args below meth c s₁ B hml hv
  obtain ⟨rfl, hsz, hP, hK, hD0, hG⟩ := hv
  have hx := B.exec
  have hb := B.bytes
  have hr := B.returns
  have hts := atoms_spec (ws := wsJ6_valueOf_2dffe) B.pre
  have hown : s.vm.findClass RJ6 = some m.cls := findClass_of_methodNamed B.named
  have hlocks := B.notSynchronized
  subst hsz
  have hD := hD0.self (sz := s.heap.size)
  generalize hAe : va_A [] s.heap.size = A at hD hG ⊢
  obtain ⟨⟨g_AO_Text, g_AO_String, g_AO_Object, g_nm_RX1_20, g_nm_RX0_17, g_nm_RX3_31, g_nm_RX2_44, g_nm_RL_121, g_nf_RL_13, g_nf_RL_47, g_ca_IO, g_ca_IA, g_ca_IS, g_ca_IntObj, g_ca_StrObj, g_de_RT, g_de_EX, g_de_TH, g_nc_IA_IO, g_nc_IS_IO, g_nc_IS_IA⟩, ⟨g_s3, g_s5, g_sa, g_x278, g_x280, g_x282, g_x284, g_x286, g_x180, g_x238, g_x250⟩, ⟨g_o5, g_c5, g_v5, g_t5, g_oa, g_ca, g_va, g_ta, g_zc, g_zd, g_td, g_zf, g_zU, g_zN, g_zh, g_zk, g_tk, g_oi, g_vi⟩⟩ := id hG
  have hA : ∀ q : Nat, s.heap.size ≤ q → A q := fun q h => by rw [← hAe]; exact Or.inr h
  have hS : va_S A s.heap s.heap [] := va_S.rf
  have hP : va_P (dC, dI) vwCl [] s.heap := hP
  have hl := lv_entry ([.int 0]) (n := 1) (Nat.le_of_ble_eq_true rfl)
  rw [lg_entry_eq]
  generalize (lg_sl ([.int 0]) ++ List.replicate (1 - (lg_sl ([.int 0])).length) Slot.unset).toArray = ls at hl ⊢
  have hl : lv_has ls 1 [(0, .int 0)] := hl
  refine lv_iload_n hx hb dJ6_valueOf_2dffe_0 rfl (lv_at hl 0 rfl) ?_
  refine lv_bipush (v := (-128)) hx hb dJ6_valueOf_2dffe_1 (by decide) ?_
  refine lv_icmp_lt (tgt := 23) hx hb dJ6_valueOf_2dffe_3 (by decide) (fun c9 => absurd c9 (by decide)) (fun _ => ?_)
  refine lv_iload_n hx hb dJ6_valueOf_2dffe_6 rfl (lv_at hl 0 rfl) ?_
  refine va_gets (v := .int 127) hx hb g_zh hS hown (hts (.fieldLink RJ6 191 "java/lang/Integer$IntegerCache" "high" "I") (by decide +kernel)) (fun _ h9 => h9) dJ6_valueOf_2dffe_7 ?_
  refine lv_icmp_gt (tgt := 23) hx hb dJ6_valueOf_2dffe_10 (by decide) (fun c9 => absurd c9 (by decide)) (fun _ => ?_)
  refine va_gets (v := .ref gic) hx hb g_zk hS hown (hts (.fieldLink RJ6 195 "java/lang/Integer$IntegerCache" "cache" "[Ljava/lang/Integer;") (by decide +kernel)) (fun _ h9 => h9) dJ6_valueOf_2dffe_13 ?_
  refine lv_iload_n hx hb dJ6_valueOf_2dffe_16 rfl (lv_at hl 0 rfl) ?_
  refine lv_sipush (v := 128) hx hb dJ6_valueOf_2dffe_17 (by decide) ?_
  refine lv_iadd hx hb dJ6_valueOf_2dffe_20 ?_
  refine lv_topi (fun y1 ey1 => ?_)
  obtain rfl : y1 = 128 := ey1.trans (by decide)
  obtain ⟨kf, kf1, kf2⟩ := g_tk
  refine vb_tq (v := .ref gi0) hx hb kf2 hS (by unfold vp_in; decide) kf1 dJ6_valueOf_2dffe_21 ?_
  exact W.aret (v := .ref gi0) hx hb hr (Or.inl ⟨_, rfl⟩) (Or.inr ⟨_, rfl⟩) (fun t ht hW => ⟨⟨(), gi0, rfl, trivial, rfl, by rw [ht]; exact hP, va_K.moved hW.alike hK, hD⟩, hS.F ht⟩) hS.2.2 dJ6_valueOf_2dffe_22
set_option maxHeartbeats 4000000 in
set_option maxRecDepth 100000 in
theorem kx_Jx4a65c_grow_92f84_0 (l : Launch) (dC : Nat → ClassId) (dI : Nat → Nat → Nat) (ge5 gea gv5 gva gde gic gi0 : Nat) (h0 : Nat) (sz : Nat) : Met l yJx4a65c_grow_92f84 wsJx4a65c_grow_92f84 ({ frames := 1, cells := 1, slots := 10, locals := 30 }) (va_Pc [.ref h0, .int 1] (fun U => U.heap.size = sz ∧ va_P (dC, dI) vwCl [(h0, .inr (3, [.int 1, .ref gde, .int 0]))] U.heap ∧ va_K (dC, dI) vwCl [] U ∧ va_D (fun _ => True) [(h0, .inr (3, [.int 1, .ref gde, .int 0]))] ∧ gv ge5 gea gv5 gva gde gic gi0 (va_A [(h0, .inr (3, [.int 1, .ref gde, .int 0]))] sz) U U.heap)) (va_Qr (fun _ : Unit => True) (fun (_ : Unit) (ra : Nat) (t : State) => ∃ q2 : Nat, ∃ cq2 : ClassId, ra = q2 ∧ va_P (dC, dI) vwCl [(h0, .inr (3, [.int 1, .ref q2, .int 0])), (q2, .inl (cq2, 10, .inr (.inr (.inr (.inr (fun _ => none))))))] t.heap ∧ va_K (dC, dI) vwCl [(cq2, .object "java/lang/Object")] t ∧ va_D (va_A [(h0, .inr (3, [.int 1, .ref gde, .int 0]))] sz) [(h0, .inr (3, [.int 1, .ref q2, .int 0])), (q2, .inl (cq2, 10, .inr (.inr (.inr (.inr (fun _ => none))))))]) (va_A [(h0, .inr (3, [.int 1, .ref gde, .int 0]))] sz)) 1 10 (va_A [(h0, .inr (3, [.int 1, .ref gde, .int 0]))] sz) := by
  refine Met.ofW (cc := cJx4a65c_grow_92f84) (maxL := 4) (ret := (some (.array (.object "java/lang/Object")))) (by decide) rfl ?_
  intro p e s m args below meth c s₁ B hml hv
  obtain ⟨rfl, hsz, hP, hK, hD0, hG⟩ := hv
  have hx := B.exec
  have hb := B.bytes
  have hr := B.returns
  have hts := atoms_spec (ws := wsJx4a65c_grow_92f84) B.pre
  have hown : s.vm.findClass RJx4a65c = some m.cls := findClass_of_methodNamed B.named
  have hlocks := B.notSynchronized
  subst hsz
  have hD := hD0.self (sz := s.heap.size)
  generalize hAe : va_A [(h0, .inr (3, [.int 1, .ref gde, .int 0]))] s.heap.size = A at hD hG ⊢
  obtain ⟨⟨g_AO_Text, g_AO_String, g_AO_Object, g_nm_RX1_20, g_nm_RX0_17, g_nm_RX3_31, g_nm_RX2_44, g_nm_RL_121, g_nf_RL_13, g_nf_RL_47, g_ca_IO, g_ca_IA, g_ca_IS, g_ca_IntObj, g_ca_StrObj, g_de_RT, g_de_EX, g_de_TH, g_nc_IA_IO, g_nc_IS_IO, g_nc_IS_IA⟩, ⟨g_s3, g_s5, g_sa, g_x278, g_x280, g_x282, g_x284, g_x286, g_x180, g_x238, g_x250⟩, ⟨g_o5, g_c5, g_v5, g_t5, g_oa, g_ca, g_va, g_ta, g_zc, g_zd, g_td, g_zf, g_zU, g_zN, g_zh, g_zk, g_tk, g_oi, g_vi⟩⟩ := id hG
  have hA : ∀ q : Nat, s.heap.size ≤ q → A q := fun q h => by rw [← hAe]; exact Or.inr h
  have hS : va_S A s.heap s.heap [] := va_S.rf
  have hP : va_P (dC, dI) vwCl [(h0, .inr (3, [.int 1, .ref gde, .int 0]))] s.heap := hP
  have hl := lv_entry ([.ref h0, .int 1]) (n := 4) (Nat.le_of_ble_eq_true rfl)
  rw [lg_entry_eq]
  generalize (lg_sl ([.ref h0, .int 1]) ++ List.replicate (4 - (lg_sl ([.ref h0, .int 1])).length) Slot.unset).toArray = ls at hl ⊢
  have hl : lv_has ls 4 [(0, .ref h0), (1, .int 1)] := hl
  refine lv_aload_n hx hb dJx4a65c_grow_92f84_0 rfl (lv_at hl 0 rfl) ?_
  refine va_get (D := (dC, dI)) (ci := 3) (v := .ref gde) (C := RJx4a65c) (T := TJx4a65c) (N := 3) hx hb hts (by decide +kernel) hown hK hP 0 rfl rfl 1 (by decide) (hts (.fieldLink RJx4a65c 9 "java/util/ArrayList" "elementData" "[Ljava/lang/Object;") (by decide +kernel)) (fun _ h9 => h9) rfl dJx4a65c_grow_92f84_1 ?_
  refine va_tlen (v := 0) hx hb g_td hS (by decide) dJx4a65c_grow_92f84_4 ?_
  refine lv_istore_n (lv' := [(2, .int 0), (0, .ref h0), (1, .int 1)]) hx hb dJx4a65c_grow_92f84_5 rfl hl (by decide) rfl (fun ls hl => ?_)
  refine lv_iload_n hx hb dJx4a65c_grow_92f84_6 rfl (lv_at hl 0 rfl) ?_
  refine lv_if_gt (tgt := 20) hx hb dJx4a65c_grow_92f84_7 (by decide) (fun c9 => absurd c9 (by decide)) (fun _ => ?_)
  refine lv_aload_n hx hb dJx4a65c_grow_92f84_10 rfl (lv_at hl 1 rfl) ?_
  refine va_get (D := (dC, dI)) (ci := 3) (v := .ref gde) (C := RJx4a65c) (T := TJx4a65c) (N := 3) hx hb hts (by decide +kernel) hown hK hP 0 rfl rfl 1 (by decide) (hts (.fieldLink RJx4a65c 9 "java/util/ArrayList" "elementData" "[Ljava/lang/Object;") (by decide +kernel)) (fun _ h9 => h9) rfl dJx4a65c_grow_92f84_11 ?_
  refine va_gets (v := .ref gde) hx hb g_zd hS hown (hts (.fieldLink RJx4a65c 39 "java/util/ArrayList" "DEFAULTCAPACITY_EMPTY_ELEMENTDATA" "[Ljava/lang/Object;") (by decide +kernel)) (fun _ h9 => h9) dJx4a65c_grow_92f84_14 ?_
  refine lv_acmp_eq (rx := (some gde)) (ry := (some gde)) (tgt := 45) hx hb dJx4a65c_grow_92f84_17 (by decide) (fun _ => ?_) (fun c9 => absurd rfl c9)
  refine lv_aload_n hx hb dJx4a65c_grow_92f84_45 rfl (lv_at hl 1 rfl) ?_
  refine lv_bipush (v := 10) hx hb dJx4a65c_grow_92f84_46 (by decide) ?_
  refine lv_iload_n hx hb dJx4a65c_grow_92f84_48 rfl (lv_at hl 2 rfl) ?_
  refine va_mmax (x := 10) (y := 1) hx hb (by rw [hml]; exact hl.1.symm) hown (hts (.methodLink RJx4a65c 79 Lib.Math.max.name) (by decide +kernel)) (hts (.static Lib.Math.max.name) (by decide +kernel)) (hts (.initialized "java/lang/Math") (by decide +kernel)) (hts (.code Lib.Math.max.name Lib.Math.max.code 2 (some .int)) (by decide +kernel)) (Nat.le_of_ble_eq_true rfl) (Nat.le_of_ble_eq_true rfl) (Nat.le_of_ble_eq_true rfl) (Nat.le_of_ble_eq_true rfl) dJx4a65c_grow_92f84_49 ?_
  refine lv_topi (fun y1 ey1 => ?_)
  obtain rfl : y1 = 10 := ey1.trans (by decide)
  refine va_newq (D := (dC, dI)) (n := 10) (N' := 10) hx hb hown (hts (.classLink RJx4a65c 7 "java/lang/Object") (by decide +kernel)) g_AO_Object hK hP hD hS hA (by decide) (by decide) (Nat.le_of_ble_eq_true rfl) (Nat.le_of_ble_eq_true rfl) (Nat.le_of_ble_eq_true rfl) dJx4a65c_grow_92f84_52 (fun q2 cq2 H hK hP hD hS => ?_)
  have hK : va_K (dC, dI) vwCl [(cq2, .object "java/lang/Object")] s := hK
  have hP : va_P (dC, dI) vwCl [(h0, .inr (3, [.int 1, .ref gde, .int 0])), (q2, .inl (cq2, 10, .inr (.inr (.inr (.inr (fun _ => none))))))] H := hP
  have hD : va_D A [(h0, .inr (3, [.int 1, .ref gde, .int 0])), (q2, .inl (cq2, 10, .inr (.inr (.inr (.inr (fun _ => none))))))] := hD
  refine W.widen (k := 1) (n := 10) (by omega) (by omega) ?_
  refine lv_dup_x1 hx hb dJx4a65c_grow_92f84_55 rfl rfl ?_
  refine va_put (D := (dC, dI)) (ci := 3) (v := .ref q2) (ty := .array (.object "java/lang/Object")) (C := RJx4a65c) (T := TJx4a65c) (N := 3) hx hb hts (by decide +kernel) tyJx4a65c tyJx4a65c_ok nmJx4a65c hown hK hP hD hS 0 rfl rfl 1 (by decide) (hts (.fieldLink RJx4a65c 9 "java/util/ArrayList" "elementData" "[Ljava/lang/Object;") (by decide +kernel)) (fun _ h9 => h9) rfl (by decide +kernel) rfl rfl (Nat.le_of_ble_eq_true rfl) dJx4a65c_grow_92f84_56 (fun H locs hP hD hS => ?_)
  have hP : va_P (dC, dI) vwCl [(h0, .inr (3, [.int 1, .ref q2, .int 0])), (q2, .inl (cq2, 10, .inr (.inr (.inr (.inr (fun _ => none))))))] H := hP
  have hD : va_D A [(h0, .inr (3, [.int 1, .ref q2, .int 0])), (q2, .inl (cq2, 10, .inr (.inr (.inr (.inr (fun _ => none))))))] := hD
  exact W.aret (v := .ref q2) hx hb hr (Or.inr ⟨_, rfl⟩) (Or.inr ⟨_, rfl⟩) (fun t ht hW => ⟨⟨(), q2, rfl, trivial, q2, cq2, rfl, by rw [ht]; exact hP, va_K.moved hW.alike hK, hD⟩, hS.F ht⟩) hS.2.2 dJx4a65c_grow_92f84_59
set_option maxHeartbeats 4000000 in
set_option maxRecDepth 100000 in
theorem kx_Jx4a65c_grow_d5877_0 (l : Launch) (dC : Nat → ClassId) (dI : Nat → Nat → Nat) (ge5 gea gv5 gva gde gic gi0 : Nat) (h0 : Nat) (sz : Nat) : Met l yJx4a65c_grow_d5877 wsJx4a65c_grow_d5877 ({ frames := 2, cells := 1, slots := 10, locals := 53 }) (va_Pc [.ref h0] (fun U => U.heap.size = sz ∧ va_P (dC, dI) vwCl [(h0, .inr (3, [.int 1, .ref gde, .int 0]))] U.heap ∧ va_K (dC, dI) vwCl [] U ∧ va_D (fun _ => True) [(h0, .inr (3, [.int 1, .ref gde, .int 0]))] ∧ gv ge5 gea gv5 gva gde gic gi0 (va_A [(h0, .inr (3, [.int 1, .ref gde, .int 0]))] sz) U U.heap)) (va_Qr (fun _ : Unit => True) (fun (_ : Unit) (ra : Nat) (t : State) => ∃ q2 : Nat, ∃ cq3 : ClassId, ra = q2 ∧ va_P (dC, dI) vwCl [(h0, .inr (3, [.int 1, .ref q2, .int 0])), (q2, .inl (cq3, 10, .inr (.inr (.inr (.inr (fun _ => none))))))] t.heap ∧ va_K (dC, dI) vwCl [(cq3, .object "java/lang/Object")] t ∧ va_D (va_A [(h0, .inr (3, [.int 1, .ref gde, .int 0]))] sz) [(h0, .inr (3, [.int 1, .ref q2, .int 0])), (q2, .inl (cq3, 10, .inr (.inr (.inr (.inr (fun _ => none))))))]) (va_A [(h0, .inr (3, [.int 1, .ref gde, .int 0]))] sz)) 1 10 (va_A [(h0, .inr (3, [.int 1, .ref gde, .int 0]))] sz) := by
  refine Met.ofW (cc := cJx4a65c_grow_d5877) (maxL := 1) (ret := (some (.array (.object "java/lang/Object")))) (by decide) rfl ?_
  intro p e s m args below meth c s₁ B hml hv
  obtain ⟨rfl, hsz, hP, hK, hD0, hG⟩ := hv
  have hx := B.exec
  have hb := B.bytes
  have hr := B.returns
  have hts := atoms_spec (ws := wsJx4a65c_grow_d5877) B.pre
  have hown : s.vm.findClass RJx4a65c = some m.cls := findClass_of_methodNamed B.named
  have hlocks := B.notSynchronized
  subst hsz
  have hD := hD0.self (sz := s.heap.size)
  generalize hAe : va_A [(h0, .inr (3, [.int 1, .ref gde, .int 0]))] s.heap.size = A at hD hG ⊢
  obtain ⟨⟨g_AO_Text, g_AO_String, g_AO_Object, g_nm_RX1_20, g_nm_RX0_17, g_nm_RX3_31, g_nm_RX2_44, g_nm_RL_121, g_nf_RL_13, g_nf_RL_47, g_ca_IO, g_ca_IA, g_ca_IS, g_ca_IntObj, g_ca_StrObj, g_de_RT, g_de_EX, g_de_TH, g_nc_IA_IO, g_nc_IS_IO, g_nc_IS_IA⟩, ⟨g_s3, g_s5, g_sa, g_x278, g_x280, g_x282, g_x284, g_x286, g_x180, g_x238, g_x250⟩, ⟨g_o5, g_c5, g_v5, g_t5, g_oa, g_ca, g_va, g_ta, g_zc, g_zd, g_td, g_zf, g_zU, g_zN, g_zh, g_zk, g_tk, g_oi, g_vi⟩⟩ := id hG
  have hA : ∀ q : Nat, s.heap.size ≤ q → A q := fun q h => by rw [← hAe]; exact Or.inr h
  have hS : va_S A s.heap s.heap [] := va_S.rf
  have hP : va_P (dC, dI) vwCl [(h0, .inr (3, [.int 1, .ref gde, .int 0]))] s.heap := hP
  have hl := lv_entry ([.ref h0]) (n := 1) (Nat.le_of_ble_eq_true rfl)
  rw [lg_entry_eq]
  generalize (lg_sl ([.ref h0]) ++ List.replicate (1 - (lg_sl ([.ref h0])).length) Slot.unset).toArray = ls at hl ⊢
  have hl : lv_has ls 1 [(0, .ref h0)] := hl
  refine lv_aload_n hx hb dJx4a65c_grow_d5877_0 rfl (lv_at hl 0 rfl) ?_
  refine lv_aload_n hx hb dJx4a65c_grow_d5877_1 rfl (lv_at hl 0 rfl) ?_
  refine va_get (D := (dC, dI)) (ci := 3) (v := .int 0) (C := RJx4a65c) (T := TJx4a65c) (N := 3) hx hb hts (by decide +kernel) hown hK hP 0 rfl rfl 2 (by decide) (hts (.fieldLink RJx4a65c 48 "java/util/ArrayList" "size" "I") (by decide +kernel)) (fun _ h9 => h9) rfl dJx4a65c_grow_d5877_2 ?_
  refine lv_iconst (v := 1) hx hb dJx4a65c_grow_d5877_5 (by decide) ?_
  refine lv_iadd hx hb dJx4a65c_grow_d5877_6 ?_
  refine lv_topi (fun y1 ey1 => ?_)
  obtain rfl : y1 = 1 := ey1.trans (by decide)
  have hPc := hP.sub (ws' := [(h0, .inr (3, [.int 1, .ref gde, .int 0]))]) [0] rfl
  have hDc := hD.sub (ws' := [(h0, .inr (3, [.int 1, .ref gde, .int 0]))]) [0] (by decide) rfl
  have hKc := hK.sub (tys' := []) [] rfl
  have hFc := va_free (wc := [(h0, .inr (3, [.int 1, .ref gde, .int 0]))]) hD hS hA [0] rfl
  refine va_callr (va_runV (As := [.int 1]) (rest := []) ⟨hx, hb, hml, hown, hts⟩ (kx_Jx4a65c_grow_92f84_0 l dC dI ge5 gea gv5 gva gde gic gi0 h0 s.heap.size) (cwV 1 hts gJx4a65c_grow_d5877_Jx4a65c_grow_92f84 rfl rfl rfl (by decide +kernel) ⟨Nat.le_of_ble_eq_true rfl, Nat.le_of_ble_eq_true rfl⟩) ⟨fun a U g mk q => by obtain ⟨q0, q1, qP, qK, qD, qG⟩ := q; exact ⟨q0, q1, qP, va_K.moved (u := U) (U := U.calling g mk a) (Vm.Alike.refl U.vm) qK, qD, gv.fb qG⟩, va_recv hKc hPc (ci := 3) (q0 := 0) rfl rfl, fun U hU hW => ⟨rfl, by rw [hU], by rw [hU]; exact hPc, va_K.moved hW.alike hKc, hDc.weaken (fun _ _ _ _ => trivial), gv.pass hW hU hS hFc hG⟩⟩ rfl rfl hl.1 rfl (lv_room (Nat.le_of_ble_eq_true rfl)) dJx4a65c_grow_d5877_7 ⟨Nat.le_of_ble_eq_true rfl, Nat.le_of_ble_eq_true rfl⟩) hS (fun q _ h => hFc q h) hFc (fun u ra t H1 locs ht hvm hw hB hz1 hk1 hS => ?_)
  obtain ⟨q2, cq3, hra, hP1, hK1, hD1⟩ := hB
  rw [hra]
  rw [ht] at hP1
  have hK1 := va_K.moved hvm.symm hK1
  obtain ⟨hP, hD⟩ := va_join (wr := []) (w1 := [(h0, .inr (3, [.int 1, .ref q2, .int 0])), (q2, .inl (cq3, 10, .inr (.inr (.inr (.inr (fun _ => none))))))]) hP hD [0] [] rfl rfl (by decide) (by decide) hk1 hFc hP1 hD1
  have hK := hK.app (hK1.sub (tys' := [(cq3, .object "java/lang/Object")]) [0] rfl)
  generalize H1 = H at hP hS ⊢
  have hK : va_K (dC, dI) vwCl [(cq3, .object "java/lang/Object")] s := hK
  have hP : va_P (dC, dI) vwCl [(h0, .inr (3, [.int 1, .ref q2, .int 0])), (q2, .inl (cq3, 10, .inr (.inr (.inr (.inr (fun _ => none))))))] H := hP
  have hD : va_D A [(h0, .inr (3, [.int 1, .ref q2, .int 0])), (q2, .inl (cq3, 10, .inr (.inr (.inr (.inr (fun _ => none))))))] := hD
  refine W.widen (k := 1) (n := 10) (by omega) (by omega) ?_
  exact W.aret (v := .ref q2) hx hb hr (Or.inr ⟨_, rfl⟩) (Or.inr ⟨_, rfl⟩) (fun t ht hW => ⟨⟨(), q2, rfl, trivial, q2, cq3, rfl, by rw [ht]; exact hP, va_K.moved hW.alike hK, hD⟩, hS.F ht⟩) hS.2.2 dJx4a65c_grow_d5877_10
set_option maxHeartbeats 4000000 in
set_option maxRecDepth 100000 in
theorem kx_Jx4a65c_add_72be8_0 (l : Launch) (dC : Nat → ClassId) (dI : Nat → Nat → Nat) (ge5 gea gv5 gva gde gic gi0 : Nat) (h0 : Nat) (sz : Nat) : Met l yJx4a65c_add_72be8 wsJx4a65c_add_72be8 ({ frames := 3, cells := 1, slots := 10, locals := 73 }) (va_Pc [.ref h0, .ref gi0, .ref gde, .int 0] (fun U => U.heap.size = sz ∧ va_P (dC, dI) vwCl [(h0, .inr (3, [.int 1, .ref gde, .int 0]))] U.heap ∧ va_K (dC, dI) vwCl [] U ∧ va_D (fun _ => True) [(h0, .inr (3, [.int 1, .ref gde, .int 0]))] ∧ gv ge5 gea gv5 gva gde gic gi0 (va_A [(h0, .inr (3, [.int 1, .ref gde, .int 0]))] sz) U U.heap)) (va_Qv (fun _ : Unit => True) (fun (_ : Unit) (t : State) => ∃ q1 : Nat, ∃ cq2 : ClassId, va_P (dC, dI) vwCl [(h0, .inr (3, [.int 1, .ref q1, .int 1])), (q1, .inl (cq2, 10, .inr (.inr (.inr (.inr (va_up (fun _ => none) 0 (some gi0)))))))] t.heap ∧ va_K (dC, dI) vwCl [(cq2, .object "java/lang/Object")] t ∧ va_D (va_A [(h0, .inr (3, [.int 1, .ref gde, .int 0]))] sz) [(h0, .inr (3, [.int 1, .ref q1, .int 1])), (q1, .inl (cq2, 10, .inr (.inr (.inr (.inr (va_up (fun _ => none) 0 (some gi0)))))))]) (va_A [(h0, .inr (3, [.int 1, .ref gde, .int 0]))] sz)) 1 10 (va_A [(h0, .inr (3, [.int 1, .ref gde, .int 0]))] sz) := by
  refine Met.ofW (cc := cJx4a65c_add_72be8) (maxL := 4) (ret := none) (by decide) rfl ?_
  intro p e s m args below meth c s₁ B hml hv
  obtain ⟨rfl, hsz, hP, hK, hD0, hG⟩ := hv
  have hx := B.exec
  have hb := B.bytes
  have hr := B.returns
  have hts := atoms_spec (ws := wsJx4a65c_add_72be8) B.pre
  have hown : s.vm.findClass RJx4a65c = some m.cls := findClass_of_methodNamed B.named
  have hlocks := B.notSynchronized
  subst hsz
  have hD := hD0.self (sz := s.heap.size)
  generalize hAe : va_A [(h0, .inr (3, [.int 1, .ref gde, .int 0]))] s.heap.size = A at hD hG ⊢
  obtain ⟨⟨g_AO_Text, g_AO_String, g_AO_Object, g_nm_RX1_20, g_nm_RX0_17, g_nm_RX3_31, g_nm_RX2_44, g_nm_RL_121, g_nf_RL_13, g_nf_RL_47, g_ca_IO, g_ca_IA, g_ca_IS, g_ca_IntObj, g_ca_StrObj, g_de_RT, g_de_EX, g_de_TH, g_nc_IA_IO, g_nc_IS_IO, g_nc_IS_IA⟩, ⟨g_s3, g_s5, g_sa, g_x278, g_x280, g_x282, g_x284, g_x286, g_x180, g_x238, g_x250⟩, ⟨g_o5, g_c5, g_v5, g_t5, g_oa, g_ca, g_va, g_ta, g_zc, g_zd, g_td, g_zf, g_zU, g_zN, g_zh, g_zk, g_tk, g_oi, g_vi⟩⟩ := id hG
  have hA : ∀ q : Nat, s.heap.size ≤ q → A q := fun q h => by rw [← hAe]; exact Or.inr h
  have hS : va_S A s.heap s.heap [] := va_S.rf
  have hP : va_P (dC, dI) vwCl [(h0, .inr (3, [.int 1, .ref gde, .int 0]))] s.heap := hP
  have hl := lv_entry ([.ref h0, .ref gi0, .ref gde, .int 0]) (n := 4) (Nat.le_of_ble_eq_true rfl)
  rw [lg_entry_eq]
  generalize (lg_sl ([.ref h0, .ref gi0, .ref gde, .int 0]) ++ List.replicate (4 - (lg_sl ([.ref h0, .ref gi0, .ref gde, .int 0])).length) Slot.unset).toArray = ls at hl ⊢
  have hl : lv_has ls 4 [(0, .ref h0), (1, .ref gi0), (2, .ref gde), (3, .int 0)] := hl
  refine lv_iload_n hx hb dJx4a65c_add_72be8_0 rfl (lv_at hl 3 rfl) ?_
  refine lv_aload_n hx hb dJx4a65c_add_72be8_1 rfl (lv_at hl 2 rfl) ?_
  refine va_tlen (v := 0) hx hb g_td hS (by decide) dJx4a65c_add_72be8_2 ?_
  refine lv_icmp_ne (tgt := 11) hx hb dJx4a65c_add_72be8_3 (by decide) (fun c9 => absurd (by decide) c9) (fun _ => ?_)
  refine lv_aload_n hx hb dJx4a65c_add_72be8_6 rfl (lv_at hl 0 rfl) ?_
  have hPc := hP.sub (ws' := [(h0, .inr (3, [.int 1, .ref gde, .int 0]))]) [0] rfl
  have hDc := hD.sub (ws' := [(h0, .inr (3, [.int 1, .ref gde, .int 0]))]) [0] (by decide) rfl
  have hKc := hK.sub (tys' := []) [] rfl
  have hFc := va_free (wc := [(h0, .inr (3, [.int 1, .ref gde, .int 0]))]) hD hS hA [0] rfl
  refine va_callr (va_runV (As := []) (rest := []) ⟨hx, hb, hml, hown, hts⟩ (kx_Jx4a65c_grow_d5877_0 l dC dI ge5 gea gv5 gva gde gic gi0 h0 s.heap.size) (cwV 0 hts gJx4a65c_add_72be8_Jx4a65c_grow_d5877 rfl rfl rfl (by decide +kernel) ⟨Nat.le_of_ble_eq_true rfl, Nat.le_of_ble_eq_true rfl⟩) ⟨fun a U g mk q => by obtain ⟨q0, q1, qP, qK, qD, qG⟩ := q; exact ⟨q0, q1, qP, va_K.moved (u := U) (U := U.calling g mk a) (Vm.Alike.refl U.vm) qK, qD, gv.fb qG⟩, va_recv hKc hPc (ci := 3) (q0 := 0) rfl rfl, fun U hU hW => ⟨rfl, by rw [hU], by rw [hU]; exact hPc, va_K.moved hW.alike hKc, hDc.weaken (fun _ _ _ _ => trivial), gv.pass hW hU hS hFc hG⟩⟩ rfl rfl hl.1 rfl (lv_room (Nat.le_of_ble_eq_true rfl)) dJx4a65c_add_72be8_7 ⟨Nat.le_of_ble_eq_true rfl, Nat.le_of_ble_eq_true rfl⟩) hS (fun q _ h => hFc q h) hFc (fun u ra t H1 locs ht hvm hw hB hz1 hk1 hS => ?_)
  obtain ⟨q1, cq2, hra, hP1, hK1, hD1⟩ := hB
  rw [hra]
  rw [ht] at hP1
  have hK1 := va_K.moved hvm.symm hK1
  obtain ⟨hP, hD⟩ := va_join (wr := []) (w1 := [(h0, .inr (3, [.int 1, .ref q1, .int 0])), (q1, .inl (cq2, 10, .inr (.inr (.inr (.inr (fun _ => none))))))]) hP hD [0] [] rfl rfl (by decide) (by decide) hk1 hFc hP1 hD1
  have hK := hK.app (hK1.sub (tys' := [(cq2, .object "java/lang/Object")]) [0] rfl)
  generalize H1 = H at hP hS ⊢
  have hK : va_K (dC, dI) vwCl [(cq2, .object "java/lang/Object")] s := hK
  have hP : va_P (dC, dI) vwCl [(h0, .inr (3, [.int 1, .ref q1, .int 0])), (q1, .inl (cq2, 10, .inr (.inr (.inr (.inr (fun _ => none))))))] H := hP
  have hD : va_D A [(h0, .inr (3, [.int 1, .ref q1, .int 0])), (q1, .inl (cq2, 10, .inr (.inr (.inr (.inr (fun _ => none))))))] := hD
  refine W.widen (k := 1) (n := 10) (by omega) (by omega) ?_
  refine lv_astore_n (lv' := [(2, .ref q1), (0, .ref h0), (1, .ref gi0), (3, .int 0)]) hx hb dJx4a65c_add_72be8_10 rfl hl (by decide) rfl (fun ls hl => ?_)
  refine lv_aload_n hx hb dJx4a65c_add_72be8_11 rfl (lv_at hl 0 rfl) ?_
  refine lv_iload_n hx hb dJx4a65c_add_72be8_12 rfl (lv_at hl 3 rfl) ?_
  refine lv_aload_n hx hb dJx4a65c_add_72be8_13 rfl (lv_at hl 2 rfl) ?_
  refine vb_astq (D := (dC, dI)) (C := "java/lang/Integer") hx hb hK hP hD hS 1 0 rfl rfl (by obtain ⟨cell, k1, k2, k3, -⟩ := g_oi.kept hS.2.1; exact ⟨cell, k1, k2, k3⟩) (vb_asgC g_ca_IntObj) (by unfold vp_in; decide) dJx4a65c_add_72be8_14 (fun H locs hP hD hS => ?_)
  have hP : va_P (dC, dI) vwCl [(h0, .inr (3, [.int 1, .ref q1, .int 0])), (q1, .inl (cq2, 10, .inr (.inr (.inr (.inr (va_up (fun _ => none) 0 (some gi0)))))))] H := hP
  have hD : va_D A [(h0, .inr (3, [.int 1, .ref q1, .int 0])), (q1, .inl (cq2, 10, .inr (.inr (.inr (.inr (va_up (fun _ => none) 0 (some gi0)))))))] := hD
  refine lv_aload_n hx hb dJx4a65c_add_72be8_15 rfl (lv_at hl 1 rfl) ?_
  refine lv_iload_n hx hb dJx4a65c_add_72be8_16 rfl (lv_at hl 3 rfl) ?_
  refine lv_iconst (v := 1) hx hb dJx4a65c_add_72be8_17 (by decide) ?_
  refine lv_iadd hx hb dJx4a65c_add_72be8_18 ?_
  refine lv_topi (fun y3 ey3 => ?_)
  obtain rfl : y3 = 1 := ey3.trans (by decide)
  refine va_put (D := (dC, dI)) (ci := 3) (v := .int 1) (ty := .int) (C := RJx4a65c) (T := TJx4a65c) (N := 3) hx hb hts (by decide +kernel) tyJx4a65c tyJx4a65c_ok nmJx4a65c hown hK hP hD hS 0 rfl rfl 2 (by decide) (hts (.fieldLink RJx4a65c 48 "java/util/ArrayList" "size" "I") (by decide +kernel)) (fun _ h9 => h9) rfl (by decide +kernel) rfl rfl (Nat.le_of_ble_eq_true rfl) dJx4a65c_add_72be8_19 (fun H locs hP hD hS => ?_)
  have hP : va_P (dC, dI) vwCl [(h0, .inr (3, [.int 1, .ref q1, .int 1])), (q1, .inl (cq2, 10, .inr (.inr (.inr (.inr (va_up (fun _ => none) 0 (some gi0)))))))] H := hP
  have hD : va_D A [(h0, .inr (3, [.int 1, .ref q1, .int 1])), (q1, .inl (cq2, 10, .inr (.inr (.inr (.inr (va_up (fun _ => none) 0 (some gi0)))))))] := hD
  exact W.vret hx hb hr (fun t ht hW => ⟨⟨(), rfl, trivial, q1, cq2, by rw [ht]; exact hP, va_K.moved hW.alike hK, hD⟩, hS.F ht⟩) hS.2.2 dJx4a65c_add_72be8_22
set_option maxHeartbeats 4000000 in
set_option maxRecDepth 100000 in
theorem kx_Jx4a65c_add_9ea2d_0 (l : Launch) (dC : Nat → ClassId) (dI : Nat → Nat → Nat) (ge5 gea gv5 gva gde gic gi0 : Nat) (h0 : Nat) (sz : Nat) : Met l yJx4a65c_add_9ea2d wsJx4a65c_add_9ea2d ({ frames := 4, cells := 1, slots := 10, locals := 96 }) (va_Pc [.ref h0, .ref gi0] (fun U => U.heap.size = sz ∧ va_P (dC, dI) vwCl [(h0, .inr (3, [.int 0, .ref gde, .int 0]))] U.heap ∧ va_K (dC, dI) vwCl [] U ∧ va_D (fun _ => True) [(h0, .inr (3, [.int 0, .ref gde, .int 0]))] ∧ gv ge5 gea gv5 gva gde gic gi0 (va_A [(h0, .inr (3, [.int 0, .ref gde, .int 0]))] sz) U U.heap)) (va_Qi (fun (r : Int32) (_ : Unit) => r = 1) (fun (_ : Unit) (t : State) => ∃ q2 : Nat, ∃ cq3 : ClassId, va_P (dC, dI) vwCl [(h0, .inr (3, [.int 1, .ref q2, .int 1])), (q2, .inl (cq3, 10, .inr (.inr (.inr (.inr (va_up (fun _ => none) 0 (some gi0)))))))] t.heap ∧ va_K (dC, dI) vwCl [(cq3, .object "java/lang/Object")] t ∧ va_D (va_A [(h0, .inr (3, [.int 0, .ref gde, .int 0]))] sz) [(h0, .inr (3, [.int 1, .ref q2, .int 1])), (q2, .inl (cq3, 10, .inr (.inr (.inr (.inr (va_up (fun _ => none) 0 (some gi0)))))))]) (va_A [(h0, .inr (3, [.int 0, .ref gde, .int 0]))] sz)) 1 10 (va_A [(h0, .inr (3, [.int 0, .ref gde, .int 0]))] sz) := by
  refine Met.ofW (cc := cJx4a65c_add_9ea2d) (maxL := 2) (ret := (some .boolean)) (by decide) rfl ?_
  intro p e s m args below meth c s₁ B hml hv
  obtain ⟨rfl, hsz, hP, hK, hD0, hG⟩ := hv
  have hx := B.exec
  have hb := B.bytes
  have hr := B.returns
  have hts := atoms_spec (ws := wsJx4a65c_add_9ea2d) B.pre
  have hown : s.vm.findClass RJx4a65c = some m.cls := findClass_of_methodNamed B.named
  have hlocks := B.notSynchronized
  subst hsz
  have hD := hD0.self (sz := s.heap.size)
  generalize hAe : va_A [(h0, .inr (3, [.int 0, .ref gde, .int 0]))] s.heap.size = A at hD hG ⊢
  obtain ⟨⟨g_AO_Text, g_AO_String, g_AO_Object, g_nm_RX1_20, g_nm_RX0_17, g_nm_RX3_31, g_nm_RX2_44, g_nm_RL_121, g_nf_RL_13, g_nf_RL_47, g_ca_IO, g_ca_IA, g_ca_IS, g_ca_IntObj, g_ca_StrObj, g_de_RT, g_de_EX, g_de_TH, g_nc_IA_IO, g_nc_IS_IO, g_nc_IS_IA⟩, ⟨g_s3, g_s5, g_sa, g_x278, g_x280, g_x282, g_x284, g_x286, g_x180, g_x238, g_x250⟩, ⟨g_o5, g_c5, g_v5, g_t5, g_oa, g_ca, g_va, g_ta, g_zc, g_zd, g_td, g_zf, g_zU, g_zN, g_zh, g_zk, g_tk, g_oi, g_vi⟩⟩ := id hG
  have hA : ∀ q : Nat, s.heap.size ≤ q → A q := fun q h => by rw [← hAe]; exact Or.inr h
  have hS : va_S A s.heap s.heap [] := va_S.rf
  have hP : va_P (dC, dI) vwCl [(h0, .inr (3, [.int 0, .ref gde, .int 0]))] s.heap := hP
  have hl := lv_entry ([.ref h0, .ref gi0]) (n := 2) (Nat.le_of_ble_eq_true rfl)
  rw [lg_entry_eq]
  generalize (lg_sl ([.ref h0, .ref gi0]) ++ List.replicate (2 - (lg_sl ([.ref h0, .ref gi0])).length) Slot.unset).toArray = ls at hl ⊢
  have hl : lv_has ls 2 [(0, .ref h0), (1, .ref gi0)] := hl
  refine lv_aload_n hx hb dJx4a65c_add_9ea2d_0 rfl (lv_at hl 0 rfl) ?_
  refine lv_dup hx hb dJx4a65c_add_9ea2d_1 rfl ?_
  refine va_get (D := (dC, dI)) (ci := 3) (v := .int 0) (C := RJx4a65c) (T := TJx4a65c) (N := 3) hx hb hts (by decide +kernel) hown hK hP 0 rfl rfl 0 (by decide) (hts (.fieldLink RJx4a65c 63 "java/util/ArrayList" "modCount" "I") (by decide +kernel)) (u_same (hts (.sameField "java/util/ArrayList" "java/util/AbstractList" "modCount" "I") (by decide +kernel))) rfl dJx4a65c_add_9ea2d_2 ?_
  refine lv_iconst (v := 1) hx hb dJx4a65c_add_9ea2d_5 (by decide) ?_
  refine lv_iadd hx hb dJx4a65c_add_9ea2d_6 ?_
  refine lv_topi (fun y1 ey1 => ?_)
  obtain rfl : y1 = 1 := ey1.trans (by decide)
  refine va_put (D := (dC, dI)) (ci := 3) (v := .int 1) (ty := .int) (C := RJx4a65c) (T := TJx4a65c) (N := 3) hx hb hts (by decide +kernel) tyJx4a65c tyJx4a65c_ok nmJx4a65c hown hK hP hD hS 0 rfl rfl 0 (by decide) (hts (.fieldLink RJx4a65c 63 "java/util/ArrayList" "modCount" "I") (by decide +kernel)) (u_same (hts (.sameField "java/util/ArrayList" "java/util/AbstractList" "modCount" "I") (by decide +kernel))) rfl (by decide +kernel) rfl rfl (Nat.le_of_ble_eq_true rfl) dJx4a65c_add_9ea2d_7 (fun H locs hP hD hS => ?_)
  have hP : va_P (dC, dI) vwCl [(h0, .inr (3, [.int 1, .ref gde, .int 0]))] H := hP
  have hD : va_D A [(h0, .inr (3, [.int 1, .ref gde, .int 0]))] := hD
  refine lv_aload_n hx hb dJx4a65c_add_9ea2d_10 rfl (lv_at hl 0 rfl) ?_
  refine lv_aload_n hx hb dJx4a65c_add_9ea2d_11 rfl (lv_at hl 1 rfl) ?_
  refine lv_aload_n hx hb dJx4a65c_add_9ea2d_12 rfl (lv_at hl 0 rfl) ?_
  refine va_get (D := (dC, dI)) (ci := 3) (v := .ref gde) (C := RJx4a65c) (T := TJx4a65c) (N := 3) hx hb hts (by decide +kernel) hown hK hP 0 rfl rfl 1 (by decide) (hts (.fieldLink RJx4a65c 9 "java/util/ArrayList" "elementData" "[Ljava/lang/Object;") (by decide +kernel)) (fun _ h9 => h9) rfl dJx4a65c_add_9ea2d_13 ?_
  refine lv_aload_n hx hb dJx4a65c_add_9ea2d_16 rfl (lv_at hl 0 rfl) ?_
  refine va_get (D := (dC, dI)) (ci := 3) (v := .int 0) (C := RJx4a65c) (T := TJx4a65c) (N := 3) hx hb hts (by decide +kernel) hown hK hP 0 rfl rfl 2 (by decide) (hts (.fieldLink RJx4a65c 48 "java/util/ArrayList" "size" "I") (by decide +kernel)) (fun _ h9 => h9) rfl dJx4a65c_add_9ea2d_17 ?_
  have hPc := hP.sub (ws' := [(h0, .inr (3, [.int 1, .ref gde, .int 0]))]) [0] rfl
  have hDc := hD.sub (ws' := [(h0, .inr (3, [.int 1, .ref gde, .int 0]))]) [0] (by decide) rfl
  have hKc := hK.sub (tys' := []) [] rfl
  have hFc := va_free (wc := [(h0, .inr (3, [.int 1, .ref gde, .int 0]))]) hD hS hA [0] rfl
  refine va_callv (va_runV (As := [.ref gi0, .ref gde, .int 0]) (rest := []) ⟨hx, hb, hml, hown, hts⟩ (kx_Jx4a65c_add_72be8_0 l dC dI ge5 gea gv5 gva gde gic gi0 h0 H.size) (cwV 3 hts gJx4a65c_add_9ea2d_Jx4a65c_add_72be8 rfl rfl rfl (by decide +kernel) ⟨Nat.le_of_ble_eq_true rfl, Nat.le_of_ble_eq_true rfl⟩) ⟨fun a U g mk q => by obtain ⟨q0, q1, qP, qK, qD, qG⟩ := q; exact ⟨q0, q1, qP, va_K.moved (u := U) (U := U.calling g mk a) (Vm.Alike.refl U.vm) qK, qD, gv.fb qG⟩, va_recv hKc hPc (ci := 3) (q0 := 0) rfl rfl, fun U hU hW => ⟨rfl, by rw [hU], by rw [hU]; exact hPc, va_K.moved hW.alike hKc, hDc.weaken (fun _ _ _ _ => trivial), gv.pass hW hU hS hFc hG⟩⟩ rfl rfl hl.1 rfl (lv_room (Nat.le_of_ble_eq_true rfl)) dJx4a65c_add_9ea2d_20 ⟨Nat.le_of_ble_eq_true rfl, Nat.le_of_ble_eq_true rfl⟩) hS (fun q _ h => hFc q h) hFc (fun u t H1 locs ht hvm hw hB hz1 hk1 hS => ?_)
  obtain ⟨q2, cq3, hP1, hK1, hD1⟩ := hB
  rw [ht] at hP1
  have hK1 := va_K.moved hvm.symm hK1
  obtain ⟨hP, hD⟩ := va_join (wr := []) (w1 := [(h0, .inr (3, [.int 1, .ref q2, .int 1])), (q2, .inl (cq3, 10, .inr (.inr (.inr (.inr (va_up (fun _ => none) 0 (some gi0)))))))]) hP hD [0] [] rfl rfl (by decide) (by decide) hk1 hFc hP1 hD1
  have hK := hK.app (hK1.sub (tys' := [(cq3, .object "java/lang/Object")]) [0] rfl)
  generalize H1 = H at hP hS ⊢
  have hK : va_K (dC, dI) vwCl [(cq3, .object "java/lang/Object")] s := hK
  have hP : va_P (dC, dI) vwCl [(h0, .inr (3, [.int 1, .ref q2, .int 1])), (q2, .inl (cq3, 10, .inr (.inr (.inr (.inr (va_up (fun _ => none) 0 (some gi0)))))))] H := hP
  have hD : va_D A [(h0, .inr (3, [.int 1, .ref q2, .int 1])), (q2, .inl (cq3, 10, .inr (.inr (.inr (.inr (va_up (fun _ => none) 0 (some gi0)))))))] := hD
  refine W.widen (k := 1) (n := 10) (by omega) (by omega) ?_
  refine lv_iconst (v := 1) hx hb dJx4a65c_add_9ea2d_23 (by decide) ?_
  exact W.zret (v := 1) hx hb hr (by decide) (fun t ht hW => ⟨⟨1, (), rfl, rfl, q2, cq3, by rw [ht]; exact hP, va_K.moved hW.alike hK, hD⟩, hS.F ht⟩) hS.2.2 dJx4a65c_add_9ea2d_24
set_option maxHeartbeats 4000000 in
set_option maxRecDepth 100000 in
theorem kx_X5_places_0 (l : Launch) (dC : Nat → ClassId) (dI : Nat → Nat → Nat) (ge5 gea gv5 gva gde gic gi0 : Nat) (sz : Nat) : Met l yX5_places wsX5_places ({ frames := 5, cells := 2, slots := 13, locals := 117 }) (va_Pc [.ref ge5, .ref ge5] (fun U => U.heap.size = sz ∧ va_P (dC, dI) vwCl [] U.heap ∧ va_K (dC, dI) vwCl [] U ∧ va_D (fun _ => True) [] ∧ gv ge5 gea gv5 gva gde gic gi0 (va_A [] sz) U U.heap)) (va_Qr (fun _ : Unit => True) (fun (_ : Unit) (ra : Nat) (t : State) => ∃ q1 : Nat, ∃ q2 : Nat, ∃ cq3 : ClassId, ra = q1 ∧ va_P (dC, dI) vwCl [(q1, .inr (3, [.int 1, .ref q2, .int 1])), (q2, .inl (cq3, 10, .inr (.inr (.inr (.inr (va_up (fun _ => none) 0 (some gi0)))))))] t.heap ∧ va_K (dC, dI) vwCl [(cq3, .object "java/lang/Object")] t ∧ va_D (va_A [] sz) [(q1, .inr (3, [.int 1, .ref q2, .int 1])), (q2, .inl (cq3, 10, .inr (.inr (.inr (.inr (va_up (fun _ => none) 0 (some gi0)))))))]) (va_A [] sz)) 2 13 (va_A [] sz) := by
  refine Met.ofW (cc := cX5_places) (maxL := 4) (ret := (some (.object "java/util/ArrayList"))) (by decide) rfl ?_
  intro p e s m args below meth c s₁ B hml hv
  obtain ⟨rfl, hsz, hP, hK, hD0, hG⟩ := hv
  have hx := B.exec
  have hb := B.bytes
  have hr := B.returns
  have hts := atoms_spec (ws := wsX5_places) B.pre
  have hown : s.vm.findClass RX5 = some m.cls := findClass_of_methodNamed B.named
  have hlocks := B.notSynchronized
  subst hsz
  have hD := hD0.self (sz := s.heap.size)
  generalize hAe : va_A [] s.heap.size = A at hD hG ⊢
  obtain ⟨⟨g_AO_Text, g_AO_String, g_AO_Object, g_nm_RX1_20, g_nm_RX0_17, g_nm_RX3_31, g_nm_RX2_44, g_nm_RL_121, g_nf_RL_13, g_nf_RL_47, g_ca_IO, g_ca_IA, g_ca_IS, g_ca_IntObj, g_ca_StrObj, g_de_RT, g_de_EX, g_de_TH, g_nc_IA_IO, g_nc_IS_IO, g_nc_IS_IA⟩, ⟨g_s3, g_s5, g_sa, g_x278, g_x280, g_x282, g_x284, g_x286, g_x180, g_x238, g_x250⟩, ⟨g_o5, g_c5, g_v5, g_t5, g_oa, g_ca, g_va, g_ta, g_zc, g_zd, g_td, g_zf, g_zU, g_zN, g_zh, g_zk, g_tk, g_oi, g_vi⟩⟩ := id hG
  have hA : ∀ q : Nat, s.heap.size ≤ q → A q := fun q h => by rw [← hAe]; exact Or.inr h
  have hS : va_S A s.heap s.heap [] := va_S.rf
  have hP : va_P (dC, dI) vwCl [] s.heap := hP
  have hl := lv_entry ([.ref ge5, .ref ge5]) (n := 4) (Nat.le_of_ble_eq_true rfl)
  rw [lg_entry_eq]
  generalize (lg_sl ([.ref ge5, .ref ge5]) ++ List.replicate (4 - (lg_sl ([.ref ge5, .ref ge5])).length) Slot.unset).toArray = ls at hl ⊢
  have hl : lv_has ls 4 [(0, .ref ge5), (1, .ref ge5)] := hl
  refine va_new (ci := 3) (fs := [.int 0, .null, .int 0]) (C := RJx4a65c) (T := TJx4a65c) (N := 3) hx hb hts (by decide +kernel) tyJx4a65c tyJx4a65c_ok hown (hts (.classLink RX5 17 RJx4a65c) (by decide +kernel)) (hts (.instantiable RJx4a65c 3) (by decide +kernel)) (hts (.initialized RJx4a65c) (by decide +kernel)) hK hP hD hS hA rfl (fun j hj => by rcases (show j = 0 ∨ j = 1 ∨ j = 2 by omega) with rfl | rfl | rfl <;> rfl) (Nat.le_of_ble_eq_true rfl) (Nat.le_of_ble_eq_true rfl) dX5_places_0 (fun q1 H hP hD hS => ?_)
  have hP : va_P (dC, dI) vwCl [(q1, .inr (3, [.int 0, .null, .int 0]))] H := hP
  have hD : va_D A [(q1, .inr (3, [.int 0, .null, .int 0]))] := hD
  refine W.widen (k := 1) (n := 3) (by omega) (by omega) ?_
  refine lv_dup hx hb dX5_places_3 rfl ?_
  have hPc := hP.sub (ws' := [(q1, .inr (3, [.int 0, .null, .int 0]))]) [0] rfl
  have hDc := hD.sub (ws' := [(q1, .inr (3, [.int 0, .null, .int 0]))]) [0] (by decide) rfl
  have hKc := hK.sub (tys' := []) [] rfl
  have hFc := va_free (wc := [(q1, .inr (3, [.int 0, .null, .int 0]))]) hD hS hA [0] rfl
  refine va_callv (va_runI (As := []) (rest := [.ref q1]) ⟨hx, hb, hml, hown, hts⟩ (kx_Jx4a65c_init_da8c8_0 l dC dI ge5 gea gv5 gva gde gic gi0 q1 H.size) (cwI 0 hts gX5_places_Jx4a65c_init_da8c8 rfl rfl rfl (hts (.initialized RJx4a65c) (by decide +kernel)) (hts (.methodLink RX5 19 yJx4a65c_init_da8c8) (by decide +kernel)) (hts (.instanceMethod yJx4a65c_init_da8c8) (by decide +kernel)) rfl (by decide +kernel) ⟨Nat.le_of_ble_eq_true rfl, Nat.le_of_ble_eq_true rfl⟩) ⟨fun a U g mk q => by obtain ⟨q0, q1, qP, qK, qD, qG⟩ := q; exact ⟨q0, q1, qP, va_K.moved (u := U) (U := U.calling g mk a) (Vm.Alike.refl U.vm) qK, qD, gv.fb qG⟩, fun U hU hW => ⟨rfl, by rw [hU], by rw [hU]; exact hPc, va_K.moved hW.alike hKc, hDc.weaken (fun _ _ _ _ => trivial), gv.pass hW hU hS hFc hG⟩⟩ rfl rfl hl.1 rfl (lv_room (Nat.le_of_ble_eq_true rfl)) dX5_places_4 ⟨Nat.le_of_ble_eq_true rfl, Nat.le_of_ble_eq_true rfl⟩) hS (fun q _ h => hFc q h) hFc (fun u t H1 locs ht hvm hw hB hz1 hk1 hS => ?_)
  obtain ⟨hP1, hK1, hD1⟩ := hB
  rw [ht] at hP1
  have hK1 := va_K.moved hvm.symm hK1
  obtain ⟨hP, hD⟩ := va_join (wr := []) (w1 := [(q1, .inr (3, [.int 0, .ref gde, .int 0]))]) hP hD [0] [] rfl rfl (by decide) (by decide) hk1 hFc hP1 hD1
  generalize H1 = H at hP hS ⊢
  have hP : va_P (dC, dI) vwCl [(q1, .inr (3, [.int 0, .ref gde, .int 0]))] H := hP
  have hD : va_D A [(q1, .inr (3, [.int 0, .ref gde, .int 0]))] := hD
  refine lv_astore_n (lv' := [(2, .ref q1), (0, .ref ge5), (1, .ref ge5)]) hx hb dX5_places_7 rfl hl (by decide) rfl (fun ls hl => ?_)
  refine lv_iconst (v := 0) hx hb dX5_places_8 (by decide) ?_
  refine lv_istore_n (lv' := [(3, .int 0), (2, .ref q1), (0, .ref ge5), (1, .ref ge5)]) hx hb dX5_places_9 rfl hl (by decide) rfl (fun ls hl => ?_)
  refine lv_iload_n hx hb dX5_places_10 rfl (lv_at hl 0 rfl) ?_
  refine lv_aload_n hx hb dX5_places_11 rfl (lv_at hl 2 rfl) ?_
  have hPc := hP.sub (ws' := []) [] rfl
  have hDc := hD.sub (ws' := []) [] (by decide) rfl
  have hKc := hK.sub (tys' := []) [] rfl
  have hFc := va_free (wc := []) hD hS hA [] rfl
  refine va_calli (va_runV (As := []) (rest := [.int 0]) ⟨hx, hb, hml, hown, hts⟩ (kx_J0_length_8abf5_0 l dC dI ge5 gea gv5 gva gde gic gi0 H.size) (cwV 0 hts gX5_places_J0_length_8abf5 rfl rfl rfl (by decide +kernel) ⟨Nat.le_of_ble_eq_true rfl, Nat.le_of_ble_eq_true rfl⟩) ⟨fun a U g mk q => by obtain ⟨q0, q1, qP, qK, qD, qG⟩ := q; exact ⟨q0, q1, qP, va_K.moved (u := U) (U := U.calling g mk a) (Vm.Alike.refl U.vm) qK, qD, gv.fb qG⟩, (by obtain ⟨cell, k1, k2, k3, -⟩ := g_o5.kept hS.2.1; exact ⟨cell, k1, k2, k3⟩), fun U hU hW => ⟨rfl, by rw [hU], by rw [hU]; exact hPc, va_K.moved hW.alike hKc, hDc.weaken (fun _ _ _ _ => trivial), gv.pass hW hU hS hFc hG⟩⟩ rfl rfl hl.1 rfl (lv_room (Nat.le_of_ble_eq_true rfl)) dX5_places_12 ⟨Nat.le_of_ble_eq_true rfl, Nat.le_of_ble_eq_true rfl⟩) hS (fun q _ h => hFc q h) hFc (fun r9 u t H1 locs ht hvm hw hB hz1 hk1 hS => ?_)
  obtain rfl := hw
  obtain ⟨hP1, hK1, hD1⟩ := hB
  rw [ht] at hP1
  have hK1 := va_K.moved hvm.symm hK1
  obtain ⟨hP, hD⟩ := va_join (wr := [(q1, .inr (3, [.int 0, .ref gde, .int 0]))]) (w1 := []) hP hD [] [0] rfl rfl (by decide) (by decide) hk1 hFc hP1 hD1
  generalize H1 = H at hP hS ⊢
  have hP : va_P (dC, dI) vwCl [(q1, .inr (3, [.int 0, .ref gde, .int 0]))] H := hP
  have hD : va_D A [(q1, .inr (3, [.int 0, .ref gde, .int 0]))] := hD
  refine lv_icmp_gt (tgt := 42) hx hb dX5_places_15 (by decide) (fun c9 => absurd c9 (by decide)) (fun _ => ?_)
  refine lv_aload_n hx hb dX5_places_18 rfl (lv_at hl 3 rfl) ?_
  refine lv_aload_n hx hb dX5_places_19 rfl (lv_at hl 2 rfl) ?_
  refine lv_iload_n hx hb dX5_places_20 rfl (lv_at hl 0 rfl) ?_
  have hPc := hP.sub (ws' := []) [] rfl
  have hDc := hD.sub (ws' := []) [] (by decide) rfl
  have hKc := hK.sub (tys' := []) [] rfl
  have hFc := va_free (wc := []) hD hS hA [] rfl
  refine va_calli (va_runS (As := [.ref ge5, .ref ge5, .int 0]) (rest := []) ⟨hx, hb, hml, hown, hts⟩ (kx_X5_stands_0 l dC dI ge5 gea gv5 gva gde gic gi0 H.size) (cwS 3 hts gX5_places_X5_stands rfl rfl rfl (by decide +kernel) ⟨Nat.le_of_ble_eq_true rfl, Nat.le_of_ble_eq_true rfl⟩) ⟨fun a U g mk q => by obtain ⟨q0, q1, qP, qK, qD, qG⟩ := q; exact ⟨q0, q1, qP, va_K.moved (u := U) (U := U.calling g mk a) (Vm.Alike.refl U.vm) qK, qD, gv.fb qG⟩, fun U hU hW => ⟨rfl, by rw [hU], by rw [hU]; exact hPc, va_K.moved hW.alike hKc, hDc.weaken (fun _ _ _ _ => trivial), gv.pass hW hU hS hFc hG⟩⟩ rfl rfl hl.1 rfl (lv_room (Nat.le_of_ble_eq_true rfl)) dX5_places_21 ⟨Nat.le_of_ble_eq_true rfl, Nat.le_of_ble_eq_true rfl⟩) hS (fun q _ h => hFc q h) hFc (fun r9 u t H1 locs ht hvm hw hB hz1 hk1 hS => ?_)
  obtain rfl := hw
  obtain ⟨hP1, hK1, hD1⟩ := hB
  rw [ht] at hP1
  have hK1 := va_K.moved hvm.symm hK1
  obtain ⟨hP, hD⟩ := va_join (wr := [(q1, .inr (3, [.int 0, .ref gde, .int 0]))]) (w1 := []) hP hD [] [0] rfl rfl (by decide) (by decide) hk1 hFc hP1 hD1
  generalize H1 = H at hP hS ⊢
  have hP : va_P (dC, dI) vwCl [(q1, .inr (3, [.int 0, .ref gde, .int 0]))] H := hP
  have hD : va_D A [(q1, .inr (3, [.int 0, .ref gde, .int 0]))] := hD
  refine lv_if_eq (tgt := 36) hx hb dX5_places_24 (by decide) (fun c9 => absurd c9 (by decide)) (fun _ => ?_)
  refine lv_aload_n hx hb dX5_places_27 rfl (lv_at hl 1 rfl) ?_
  refine lv_iload_n hx hb dX5_places_28 rfl (lv_at hl 0 rfl) ?_
  have hPc := hP.sub (ws' := []) [] rfl
  have hDc := hD.sub (ws' := []) [] (by decide) rfl
  have hKc := hK.sub (tys' := []) [] rfl
  have hFc := va_free (wc := []) hD hS hA [] rfl
  refine va_callr (va_runS (As := [.int 0]) (rest := [.ref q1]) ⟨hx, hb, hml, hown, hts⟩ (kx_J6_valueOf_2dffe_0 l dC dI ge5 gea gv5 gva gde gic gi0 H.size) (va_cwS 1 hts gX5_places_J6_valueOf_2dffe rfl rfl rfl (by decide +kernel) ⟨Nat.le_of_ble_eq_true rfl, Nat.le_of_ble_eq_true rfl⟩) ⟨fun a U g mk q => by obtain ⟨q0, q1, qP, qK, qD, qG⟩ := q; exact ⟨q0, q1, qP, va_K.moved (u := U) (U := U.calling g mk a) (Vm.Alike.refl U.vm) qK, qD, gv.fb qG⟩, fun U hU hW => ⟨rfl, by rw [hU], by rw [hU]; exact hPc, va_K.moved hW.alike hKc, hDc.weaken (fun _ _ _ _ => trivial), gv.pass hW hU hS hFc hG⟩⟩ rfl rfl hl.1 rfl (lv_room (Nat.le_of_ble_eq_true rfl)) dX5_places_29 ⟨Nat.le_of_ble_eq_true rfl, Nat.le_of_ble_eq_true rfl⟩) hS (fun q _ h => hFc q h) hFc (fun u ra t H1 locs ht hvm hw hB hz1 hk1 hS => ?_)
  obtain ⟨hra, hP1, hK1, hD1⟩ := hB
  rw [hra]
  rw [ht] at hP1
  have hK1 := va_K.moved hvm.symm hK1
  obtain ⟨hP, hD⟩ := va_join (wr := [(q1, .inr (3, [.int 0, .ref gde, .int 0]))]) (w1 := []) hP hD [] [0] rfl rfl (by decide) (by decide) hk1 hFc hP1 hD1
  generalize H1 = H at hP hS ⊢
  have hP : va_P (dC, dI) vwCl [(q1, .inr (3, [.int 0, .ref gde, .int 0]))] H := hP
  have hD : va_D A [(q1, .inr (3, [.int 0, .ref gde, .int 0]))] := hD
  have hPc := hP.sub (ws' := [(q1, .inr (3, [.int 0, .ref gde, .int 0]))]) [0] rfl
  have hDc := hD.sub (ws' := [(q1, .inr (3, [.int 0, .ref gde, .int 0]))]) [0] (by decide) rfl
  have hKc := hK.sub (tys' := []) [] rfl
  have hFc := va_free (wc := [(q1, .inr (3, [.int 0, .ref gde, .int 0]))]) hD hS hA [0] rfl
  refine va_calli (va_runV (As := [.ref gi0]) (rest := []) ⟨hx, hb, hml, hown, hts⟩ (kx_Jx4a65c_add_9ea2d_0 l dC dI ge5 gea gv5 gva gde gic gi0 q1 H.size) (cwV 1 hts gX5_places_Jx4a65c_add_9ea2d rfl rfl rfl (by decide +kernel) ⟨Nat.le_of_ble_eq_true rfl, Nat.le_of_ble_eq_true rfl⟩) ⟨fun a U g mk q => by obtain ⟨q0, q1, qP, qK, qD, qG⟩ := q; exact ⟨q0, q1, qP, va_K.moved (u := U) (U := U.calling g mk a) (Vm.Alike.refl U.vm) qK, qD, gv.fb qG⟩, va_recv hKc hPc (ci := 3) (q0 := 0) rfl rfl, fun U hU hW => ⟨rfl, by rw [hU], by rw [hU]; exact hPc, va_K.moved hW.alike hKc, hDc.weaken (fun _ _ _ _ => trivial), gv.pass hW hU hS hFc hG⟩⟩ rfl rfl hl.1 rfl (lv_room (Nat.le_of_ble_eq_true rfl)) dX5_places_32 ⟨Nat.le_of_ble_eq_true rfl, Nat.le_of_ble_eq_true rfl⟩) hS (fun q _ h => hFc q h) hFc (fun r9 u t H1 locs ht hvm hw hB hz1 hk1 hS => ?_)
  obtain rfl := hw
  obtain ⟨q2, cq3, hP1, hK1, hD1⟩ := hB
  rw [ht] at hP1
  have hK1 := va_K.moved hvm.symm hK1
  obtain ⟨hP, hD⟩ := va_join (wr := []) (w1 := [(q1, .inr (3, [.int 1, .ref q2, .int 1])), (q2, .inl (cq3, 10, .inr (.inr (.inr (.inr (va_up (fun _ => none) 0 (some gi0)))))))]) hP hD [0] [] rfl rfl (by decide) (by decide) hk1 hFc hP1 hD1
  have hK := hK.app (hK1.sub (tys' := [(cq3, .object "java/lang/Object")]) [0] rfl)
  generalize H1 = H at hP hS ⊢
  have hK : va_K (dC, dI) vwCl [(cq3, .object "java/lang/Object")] s := hK
  have hP : va_P (dC, dI) vwCl [(q1, .inr (3, [.int 1, .ref q2, .int 1])), (q2, .inl (cq3, 10, .inr (.inr (.inr (.inr (va_up (fun _ => none) 0 (some gi0)))))))] H := hP
  have hD : va_D A [(q1, .inr (3, [.int 1, .ref q2, .int 1])), (q2, .inl (cq3, 10, .inr (.inr (.inr (.inr (va_up (fun _ => none) 0 (some gi0)))))))] := hD
  refine W.widen (k := 2) (n := 13) (by omega) (by omega) ?_
  refine lv_pop hx hb dX5_places_35 rfl ?_
  refine lv_iinc (v := 1) (lv' := [(3, .int 1), (2, .ref q1), (0, .ref ge5), (1, .ref ge5)]) hx hb dX5_places_36 hl (k := 0) rfl (by decide) (by decide) rfl (fun ls hl => ?_)
  refine lv_goto (tgt := 10) hx hb dX5_places_39 (by decide) ?_
  refine lv_iload_n hx hb dX5_places_10 rfl (lv_at hl 0 rfl) ?_
  refine lv_aload_n hx hb dX5_places_11 rfl (lv_at hl 2 rfl) ?_
  have hPc := hP.sub (ws' := []) [] rfl
  have hDc := hD.sub (ws' := []) [] (by decide) rfl
  have hKc := hK.sub (tys' := []) [] rfl
  have hFc := va_free (wc := []) hD hS hA [] rfl
  refine va_calli (va_runV (As := []) (rest := [.int 1]) ⟨hx, hb, hml, hown, hts⟩ (kx_J0_length_8abf5_0 l dC dI ge5 gea gv5 gva gde gic gi0 H.size) (cwV 0 hts gX5_places_J0_length_8abf5 rfl rfl rfl (by decide +kernel) ⟨Nat.le_of_ble_eq_true rfl, Nat.le_of_ble_eq_true rfl⟩) ⟨fun a U g mk q => by obtain ⟨q0, q1, qP, qK, qD, qG⟩ := q; exact ⟨q0, q1, qP, va_K.moved (u := U) (U := U.calling g mk a) (Vm.Alike.refl U.vm) qK, qD, gv.fb qG⟩, (by obtain ⟨cell, k1, k2, k3, -⟩ := g_o5.kept hS.2.1; exact ⟨cell, k1, k2, k3⟩), fun U hU hW => ⟨rfl, by rw [hU], by rw [hU]; exact hPc, va_K.moved hW.alike hKc, hDc.weaken (fun _ _ _ _ => trivial), gv.pass hW hU hS hFc hG⟩⟩ rfl rfl hl.1 rfl (lv_room (Nat.le_of_ble_eq_true rfl)) dX5_places_12 ⟨Nat.le_of_ble_eq_true rfl, Nat.le_of_ble_eq_true rfl⟩) hS (fun q _ h => hFc q h) hFc (fun r9 u t H1 locs ht hvm hw hB hz1 hk1 hS => ?_)
  obtain rfl := hw
  obtain ⟨hP1, hK1, hD1⟩ := hB
  rw [ht] at hP1
  have hK1 := va_K.moved hvm.symm hK1
  obtain ⟨hP, hD⟩ := va_join (wr := [(q1, .inr (3, [.int 1, .ref q2, .int 1])), (q2, .inl (cq3, 10, .inr (.inr (.inr (.inr (va_up (fun _ => none) 0 (some gi0)))))))]) (w1 := []) hP hD [] [0, 1] rfl rfl (by decide) (by decide) hk1 hFc hP1 hD1
  generalize H1 = H at hP hS ⊢
  have hP : va_P (dC, dI) vwCl [(q1, .inr (3, [.int 1, .ref q2, .int 1])), (q2, .inl (cq3, 10, .inr (.inr (.inr (.inr (va_up (fun _ => none) 0 (some gi0)))))))] H := hP
  have hD : va_D A [(q1, .inr (3, [.int 1, .ref q2, .int 1])), (q2, .inl (cq3, 10, .inr (.inr (.inr (.inr (va_up (fun _ => none) 0 (some gi0)))))))] := hD
  refine lv_icmp_gt (tgt := 42) hx hb dX5_places_15 (by decide) (fun _ => ?_) (fun c9 => absurd (by decide) c9)
  refine lv_aload_n hx hb dX5_places_42 rfl (lv_at hl 1 rfl) ?_
  exact W.aret (v := .ref q1) hx hb hr (Or.inl ⟨_, rfl⟩) (Or.inr ⟨_, rfl⟩) (fun t ht hW => ⟨⟨(), q1, rfl, trivial, q1, q2, cq3, rfl, by rw [ht]; exact hP, va_K.moved hW.alike hK, hD⟩, hS.F ht⟩) hS.2.2 dX5_places_43
set_option maxHeartbeats 4000000 in
set_option maxRecDepth 100000 in
theorem kx_Jx4a65c_size_8abf5_0 (l : Launch) (dC : Nat → ClassId) (dI : Nat → Nat → Nat) (h0 : Nat) (z0 : Nat) (sz : Nat) : Met l yJx4a65c_size_8abf5 wsJx4a65c_size_8abf5 ({ frames := 0, cells := 0, slots := 0, locals := 0 }) (va_Pc [.ref h0] (fun U => U.heap.size = sz ∧ va_P (dC, dI) vwCl [(h0, .inr (3, [.int 1, .ref z0, .int 1]))] U.heap ∧ va_K (dC, dI) vwCl [] U ∧ va_D (fun _ => True) [(h0, .inr (3, [.int 1, .ref z0, .int 1]))])) (va_Qi (fun (r : Int32) (_ : Unit) => r = 1) (fun (_ : Unit) (t : State) => va_P (dC, dI) vwCl [(h0, .inr (3, [.int 1, .ref z0, .int 1]))] t.heap ∧ va_K (dC, dI) vwCl [] t ∧ va_D (va_A [(h0, .inr (3, [.int 1, .ref z0, .int 1]))] sz) [(h0, .inr (3, [.int 1, .ref z0, .int 1]))]) (va_A [(h0, .inr (3, [.int 1, .ref z0, .int 1]))] sz)) 0 0 (va_A [(h0, .inr (3, [.int 1, .ref z0, .int 1]))] sz) := by
  refine Met.ofW (cc := cJx4a65c_size_8abf5) (maxL := 1) (ret := (some .int)) (by decide) rfl ?_
  intro p e s m args below meth c s₁ B hml hv
  obtain ⟨rfl, hsz, hP, hK, hD0⟩ := hv
  have hx := B.exec
  have hb := B.bytes
  have hr := B.returns
  have hts := atoms_spec (ws := wsJx4a65c_size_8abf5) B.pre
  have hown : s.vm.findClass RJx4a65c = some m.cls := findClass_of_methodNamed B.named
  have hlocks := B.notSynchronized
  subst hsz
  have hD := hD0.self (sz := s.heap.size)
  generalize hAe : va_A [(h0, .inr (3, [.int 1, .ref z0, .int 1]))] s.heap.size = A at hD ⊢
  have hA : ∀ q : Nat, s.heap.size ≤ q → A q := fun q h => by rw [← hAe]; exact Or.inr h
  have hS : va_S A s.heap s.heap [] := va_S.rf
  have hP : va_P (dC, dI) vwCl [(h0, .inr (3, [.int 1, .ref z0, .int 1]))] s.heap := hP
  have hl := lv_entry ([.ref h0]) (n := 1) (Nat.le_of_ble_eq_true rfl)
  rw [lg_entry_eq]
  generalize (lg_sl ([.ref h0]) ++ List.replicate (1 - (lg_sl ([.ref h0])).length) Slot.unset).toArray = ls at hl ⊢
  have hl : lv_has ls 1 [(0, .ref h0)] := hl
  refine lv_aload_n hx hb dJx4a65c_size_8abf5_0 rfl (lv_at hl 0 rfl) ?_
  refine va_get (D := (dC, dI)) (ci := 3) (v := .int 1) (C := RJx4a65c) (T := TJx4a65c) (N := 3) hx hb hts (by decide +kernel) hown hK hP 0 rfl rfl 2 (by decide) (hts (.fieldLink RJx4a65c 48 "java/util/ArrayList" "size" "I") (by decide +kernel)) (fun _ h9 => h9) rfl dJx4a65c_size_8abf5_1 ?_
  exact W.iret (v := 1) hx hb hr (fun t ht hW => ⟨⟨1, (), rfl, rfl, by rw [ht]; exact hP, va_K.moved hW.alike hK, hD⟩, hS.F ht⟩) hS.2.2 dJx4a65c_size_8abf5_4
set_option maxHeartbeats 4000000 in
set_option maxRecDepth 100000 in
theorem kx_X5_count_0 (l : Launch) (dC : Nat → ClassId) (dI : Nat → Nat → Nat) (ge5 gea gv5 gva gde gic gi0 : Nat) (h0 : Nat) (h1 : Nat) (z0 : Nat) (z1 : Nat) (k0 : ClassId) (sz : Nat) (i0 : Int32) (i0_l : (0 : Int) ≤ i0.toInt) (i0_u : i0.toInt ≤ (3 : Int)) (i1 : Int32) (i1_l : (0 : Int) ≤ i1.toInt) (i1_u : i1.toInt ≤ (3 : Int)) : Met l yX5_count wsX5_count ({ frames := 6, cells := 2, slots := 13, locals := 140 }) (va_Pc [.ref h0, .int i0, .int i1] (fun U => U.heap.size = sz ∧ va_P (dC, dI) vwCl [(h0, .inr (9, [.int 0, .ref h1, .ref z0, .ref z1, .int 0, .int 0, .int 0])), (h1, .inl (k0, 4, .inr (.inr (.inr (.inr (va_up (va_up (va_up (va_up (fun _ => none) 0 (some ge5)) 1 (some ge5)) 2 (some ge5)) 3 (some ge5)))))))] U.heap ∧ va_K (dC, dI) vwCl [(k0, .object "java/lang/String")] U ∧ va_D (fun _ => True) [(h0, .inr (9, [.int 0, .ref h1, .ref z0, .ref z1, .int 0, .int 0, .int 0])), (h1, .inl (k0, 4, .inr (.inr (.inr (.inr (va_up (va_up (va_up (va_up (fun _ => none) 0 (some ge5)) 1 (some ge5)) 2 (some ge5)) 3 (some ge5)))))))] ∧ gv ge5 gea gv5 gva gde gic gi0 (va_A [(h0, .inr (9, [.int 0, .ref h1, .ref z0, .ref z1, .int 0, .int 0, .int 0])), (h1, .inl (k0, 4, .inr (.inr (.inr (.inr (va_up (va_up (va_up (va_up (fun _ => none) 0 (some ge5)) 1 (some ge5)) 2 (some ge5)) 3 (some ge5)))))))] sz) U U.heap)) (va_Qi (fun (r : Int32) (_ : Unit) => r = 1) (fun (_ : Unit) (t : State) => ∃ q1 : Nat, ∃ q2 : Nat, ∃ cq3 : ClassId, va_P (dC, dI) vwCl [(h0, .inr (9, [.int 0, .ref h1, .ref z0, .ref z1, .int 0, .int 0, .int 0]))] t.heap ∧ va_K (dC, dI) vwCl [(k0, .object "java/lang/String"), (cq3, .object "java/lang/Object")] t ∧ va_D (va_A [(h0, .inr (9, [.int 0, .ref h1, .ref z0, .ref z1, .int 0, .int 0, .int 0])), (h1, .inl (k0, 4, .inr (.inr (.inr (.inr (va_up (va_up (va_up (va_up (fun _ => none) 0 (some ge5)) 1 (some ge5)) 2 (some ge5)) 3 (some ge5)))))))] sz) [(h0, .inr (9, [.int 0, .ref h1, .ref z0, .ref z1, .int 0, .int 0, .int 0]))]) (va_A [(h0, .inr (9, [.int 0, .ref h1, .ref z0, .ref z1, .int 0, .int 0, .int 0])), (h1, .inl (k0, 4, .inr (.inr (.inr (.inr (va_up (va_up (va_up (va_up (fun _ => none) 0 (some ge5)) 1 (some ge5)) 2 (some ge5)) 3 (some ge5)))))))] sz)) 2 13 (va_A [(h0, .inr (9, [.int 0, .ref h1, .ref z0, .ref z1, .int 0, .int 0, .int 0])), (h1, .inl (k0, 4, .inr (.inr (.inr (.inr (va_up (va_up (va_up (va_up (fun _ => none) 0 (some ge5)) 1 (some ge5)) 2 (some ge5)) 3 (some ge5)))))))] sz) := by
  refine Met.ofW (cc := cX5_count) (maxL := 3) (ret := (some .int)) (by decide) rfl ?_
  intro p e s m args below meth c s₁ B hml hv
  obtain ⟨rfl, hsz, hP, hK, hD0, hG⟩ := hv
  have hx := B.exec
  have hb := B.bytes
  have hr := B.returns
  have hts := atoms_spec (ws := wsX5_count) B.pre
  have hown : s.vm.findClass RX5 = some m.cls := findClass_of_methodNamed B.named
  have hlocks := B.notSynchronized
  subst hsz
  have hD := hD0.self (sz := s.heap.size)
  generalize hAe : va_A [(h0, .inr (9, [.int 0, .ref h1, .ref z0, .ref z1, .int 0, .int 0, .int 0])), (h1, .inl (k0, 4, .inr (.inr (.inr (.inr (va_up (va_up (va_up (va_up (fun _ => none) 0 (some ge5)) 1 (some ge5)) 2 (some ge5)) 3 (some ge5)))))))] s.heap.size = A at hD hG ⊢
  obtain ⟨⟨g_AO_Text, g_AO_String, g_AO_Object, g_nm_RX1_20, g_nm_RX0_17, g_nm_RX3_31, g_nm_RX2_44, g_nm_RL_121, g_nf_RL_13, g_nf_RL_47, g_ca_IO, g_ca_IA, g_ca_IS, g_ca_IntObj, g_ca_StrObj, g_de_RT, g_de_EX, g_de_TH, g_nc_IA_IO, g_nc_IS_IO, g_nc_IS_IA⟩, ⟨g_s3, g_s5, g_sa, g_x278, g_x280, g_x282, g_x284, g_x286, g_x180, g_x238, g_x250⟩, ⟨g_o5, g_c5, g_v5, g_t5, g_oa, g_ca, g_va, g_ta, g_zc, g_zd, g_td, g_zf, g_zU, g_zN, g_zh, g_zk, g_tk, g_oi, g_vi⟩⟩ := id hG
  have hA : ∀ q : Nat, s.heap.size ≤ q → A q := fun q h => by rw [← hAe]; exact Or.inr h
  have hS : va_S A s.heap s.heap [] := va_S.rf
  have hP : va_P (dC, dI) vwCl [(h0, .inr (9, [.int 0, .ref h1, .ref z0, .ref z1, .int 0, .int 0, .int 0])), (h1, .inl (k0, 4, .inr (.inr (.inr (.inr (va_up (va_up (va_up (va_up (fun _ => none) 0 (some ge5)) 1 (some ge5)) 2 (some ge5)) 3 (some ge5)))))))] s.heap := hP
  have hl := lv_entry ([.ref h0, .int i0, .int i1]) (n := 3) (Nat.le_of_ble_eq_true rfl)
  rw [lg_entry_eq]
  generalize (lg_sl ([.ref h0, .int i0, .int i1]) ++ List.replicate (3 - (lg_sl ([.ref h0, .int i0, .int i1])).length) Slot.unset).toArray = ls at hl ⊢
  have hl : lv_has ls 3 [(0, .ref h0), (1, .int i0), (2, .int i1)] := hl
  refine lv_aload_n hx hb dX5_count_0 rfl (lv_at hl 0 rfl) ?_
  refine lv_iload_n hx hb dX5_count_1 rfl (lv_at hl 1 rfl) ?_
  have hPc := hP.sub (ws' := []) [] rfl
  have hDc := hD.sub (ws' := []) [] (by decide) rfl
  have hKc := hK.sub (tys' := []) [] rfl
  have hFc := va_free (wc := []) hD hS hA [] rfl
  refine va_calli (va_runS (As := [.int i0]) (rest := [.ref h0]) ⟨hx, hb, hml, hown, hts⟩ (kx_X5_isNo_1 l dC dI s.heap.size i0 i0_l i0_u) (cwS 1 hts gX5_count_X5_isNo rfl rfl rfl (by decide +kernel) ⟨Nat.le_of_ble_eq_true rfl, Nat.le_of_ble_eq_true rfl⟩) ⟨fun a U g mk q => by obtain ⟨q0, q1, qP, qK, qD⟩ := q; exact ⟨q0, q1, qP, va_K.moved (u := U) (U := U.calling g mk a) (Vm.Alike.refl U.vm) qK, qD⟩, fun U hU hW => ⟨rfl, by rw [hU], by rw [hU]; exact hPc, va_K.moved hW.alike hKc, hDc.weaken (fun _ _ _ _ => trivial)⟩⟩ rfl rfl hl.1 rfl (lv_room (Nat.le_of_ble_eq_true rfl)) dX5_count_2 ⟨Nat.le_of_ble_eq_true rfl, Nat.le_of_ble_eq_true rfl⟩) hS (fun q _ h => hFc q h) hFc (fun r9 u t H1 locs ht hvm hw hB hz1 hk1 hS => ?_)
  obtain rfl := hw
  obtain ⟨hP1, hK1, hD1⟩ := hB
  rw [ht] at hP1
  have hK1 := va_K.moved hvm.symm hK1
  obtain ⟨hP, hD⟩ := va_join (wr := [(h0, .inr (9, [.int 0, .ref h1, .ref z0, .ref z1, .int 0, .int 0, .int 0])), (h1, .inl (k0, 4, .inr (.inr (.inr (.inr (va_up (va_up (va_up (va_up (fun _ => none) 0 (some ge5)) 1 (some ge5)) 2 (some ge5)) 3 (some ge5)))))))]) (w1 := []) hP hD [] [0, 1] rfl rfl (by decide) (by decide) hk1 hFc hP1 hD1
  generalize H1 = H at hP hS ⊢
  have hP : va_P (dC, dI) vwCl [(h0, .inr (9, [.int 0, .ref h1, .ref z0, .ref z1, .int 0, .int 0, .int 0])), (h1, .inl (k0, 4, .inr (.inr (.inr (.inr (va_up (va_up (va_up (va_up (fun _ => none) 0 (some ge5)) 1 (some ge5)) 2 (some ge5)) 3 (some ge5)))))))] H := hP
  have hD : va_D A [(h0, .inr (9, [.int 0, .ref h1, .ref z0, .ref z1, .int 0, .int 0, .int 0])), (h1, .inl (k0, 4, .inr (.inr (.inr (.inr (va_up (va_up (va_up (va_up (fun _ => none) 0 (some ge5)) 1 (some ge5)) 2 (some ge5)) 3 (some ge5)))))))] := hD
  refine lv_if_ne (tgt := 15) hx hb dX5_count_5 (by decide) (fun c9 => absurd (by decide) c9) (fun _ => ?_)
  refine lv_iload_n hx hb dX5_count_8 rfl (lv_at hl 2 rfl) ?_
  have hPc := hP.sub (ws' := []) [] rfl
  have hDc := hD.sub (ws' := []) [] (by decide) rfl
  have hKc := hK.sub (tys' := []) [] rfl
  have hFc := va_free (wc := []) hD hS hA [] rfl
  refine va_calli (va_runS (As := [.int i1]) (rest := [.ref h0]) ⟨hx, hb, hml, hown, hts⟩ (kx_X5_isNo_1 l dC dI H.size i1 i1_l i1_u) (cwS 1 hts gX5_count_X5_isNo rfl rfl rfl (by decide +kernel) ⟨Nat.le_of_ble_eq_true rfl, Nat.le_of_ble_eq_true rfl⟩) ⟨fun a U g mk q => by obtain ⟨q0, q1, qP, qK, qD⟩ := q; exact ⟨q0, q1, qP, va_K.moved (u := U) (U := U.calling g mk a) (Vm.Alike.refl U.vm) qK, qD⟩, fun U hU hW => ⟨rfl, by rw [hU], by rw [hU]; exact hPc, va_K.moved hW.alike hKc, hDc.weaken (fun _ _ _ _ => trivial)⟩⟩ rfl rfl hl.1 rfl (lv_room (Nat.le_of_ble_eq_true rfl)) dX5_count_9 ⟨Nat.le_of_ble_eq_true rfl, Nat.le_of_ble_eq_true rfl⟩) hS (fun q _ h => hFc q h) hFc (fun r9 u t H1 locs ht hvm hw hB hz1 hk1 hS => ?_)
  obtain rfl := hw
  obtain ⟨hP1, hK1, hD1⟩ := hB
  rw [ht] at hP1
  have hK1 := va_K.moved hvm.symm hK1
  obtain ⟨hP, hD⟩ := va_join (wr := [(h0, .inr (9, [.int 0, .ref h1, .ref z0, .ref z1, .int 0, .int 0, .int 0])), (h1, .inl (k0, 4, .inr (.inr (.inr (.inr (va_up (va_up (va_up (va_up (fun _ => none) 0 (some ge5)) 1 (some ge5)) 2 (some ge5)) 3 (some ge5)))))))]) (w1 := []) hP hD [] [0, 1] rfl rfl (by decide) (by decide) hk1 hFc hP1 hD1
  generalize H1 = H at hP hS ⊢
  have hP : va_P (dC, dI) vwCl [(h0, .inr (9, [.int 0, .ref h1, .ref z0, .ref z1, .int 0, .int 0, .int 0])), (h1, .inl (k0, 4, .inr (.inr (.inr (.inr (va_up (va_up (va_up (va_up (fun _ => none) 0 (some ge5)) 1 (some ge5)) 2 (some ge5)) 3 (some ge5)))))))] H := hP
  have hD : va_D A [(h0, .inr (9, [.int 0, .ref h1, .ref z0, .ref z1, .int 0, .int 0, .int 0])), (h1, .inl (k0, 4, .inr (.inr (.inr (.inr (va_up (va_up (va_up (va_up (fun _ => none) 0 (some ge5)) 1 (some ge5)) 2 (some ge5)) 3 (some ge5)))))))] := hD
  refine lv_if_eq (tgt := 19) hx hb dX5_count_12 (by decide) (fun _ => ?_) (fun c9 => absurd (by decide) c9)
  refine lv_iconst (v := 0) hx hb dX5_count_19 (by decide) ?_
  refine lv_iconst (v := 0) hx hb dX5_count_20 (by decide) ?_
  refine lv_iconst (v := 0) hx hb dX5_count_21 (by decide) ?_
  have hPc := hP.sub (ws' := [(h0, .inr (9, [.int 0, .ref h1, .ref z0, .ref z1, .int 0, .int 0, .int 0]))]) [0] rfl
  have hDc := hD.sub (ws' := [(h0, .inr (9, [.int 0, .ref h1, .ref z0, .ref z1, .int 0, .int 0, .int 0]))]) [0] (by decide) rfl
  have hKc := hK.sub (tys' := []) [] rfl
  have hFc := va_free (wc := [(h0, .inr (9, [.int 0, .ref h1, .ref z0, .ref z1, .int 0, .int 0, .int 0]))]) hD hS hA [0] rfl
  refine va_calli (va_runV (As := [.int 0, .int 0, .int 0]) (rest := []) ⟨hx, hb, hml, hown, hts⟩ (kx_X5_fails_1 l dC dI h0 h1 z0 z1 H.size) (cwV 3 hts gX5_count_X5_fails rfl rfl rfl (by decide +kernel) ⟨Nat.le_of_ble_eq_true rfl, Nat.le_of_ble_eq_true rfl⟩) ⟨fun a U g mk q => by obtain ⟨q0, q1, qP, qK, qD⟩ := q; exact ⟨q0, q1, qP, va_K.moved (u := U) (U := U.calling g mk a) (Vm.Alike.refl U.vm) qK, qD⟩, va_recv hKc hPc (ci := 9) (q0 := 0) rfl rfl, fun U hU hW => ⟨rfl, by rw [hU], by rw [hU]; exact hPc, va_K.moved hW.alike hKc, hDc.weaken (fun _ _ _ _ => trivial)⟩⟩ rfl rfl hl.1 rfl (lv_room (Nat.le_of_ble_eq_true rfl)) dX5_count_22 ⟨Nat.le_of_ble_eq_true rfl, Nat.le_of_ble_eq_true rfl⟩) hS (fun q _ h => hFc q h) hFc (fun r9 u t H1 locs ht hvm hw hB hz1 hk1 hS => ?_)
  obtain rfl := hw
  obtain ⟨hP1, hK1, hD1⟩ := hB
  rw [ht] at hP1
  have hK1 := va_K.moved hvm.symm hK1
  obtain ⟨hP, hD⟩ := va_join (wr := [(h1, .inl (k0, 4, .inr (.inr (.inr (.inr (va_up (va_up (va_up (va_up (fun _ => none) 0 (some ge5)) 1 (some ge5)) 2 (some ge5)) 3 (some ge5)))))))]) (w1 := [(h0, .inr (9, [.int 0, .ref h1, .ref z0, .ref z1, .int 0, .int 0, .int 0]))]) hP hD [0] [1] rfl rfl (by decide) (by decide) hk1 hFc hP1 hD1
  generalize H1 = H at hP hS ⊢
  have hP : va_P (dC, dI) vwCl [(h1, .inl (k0, 4, .inr (.inr (.inr (.inr (va_up (va_up (va_up (va_up (fun _ => none) 0 (some ge5)) 1 (some ge5)) 2 (some ge5)) 3 (some ge5))))))), (h0, .inr (9, [.int 0, .ref h1, .ref z0, .ref z1, .int 0, .int 0, .int 0]))] H := hP
  have hD : va_D A [(h1, .inl (k0, 4, .inr (.inr (.inr (.inr (va_up (va_up (va_up (va_up (fun _ => none) 0 (some ge5)) 1 (some ge5)) 2 (some ge5)) 3 (some ge5))))))), (h0, .inr (9, [.int 0, .ref h1, .ref z0, .ref z1, .int 0, .int 0, .int 0]))] := hD
  refine lv_if_eq (tgt := 32) hx hb dX5_count_25 (by decide) (fun _ => ?_) (fun c9 => absurd (by decide) c9)
  refine lv_aload_n hx hb dX5_count_32 rfl (lv_at hl 0 rfl) ?_
  refine va_get (D := (dC, dI)) (ci := 9) (v := .ref h1) (C := RX5) (T := TX5) (N := 7) hx hb hts (by decide +kernel) hown hK hP 1 rfl rfl 1 (by decide) (hts (.fieldLink RX5 11 "RewriteropeModel" "ropes" "[Ljava/lang/String;") (by decide +kernel)) (fun _ h9 => h9) rfl dX5_count_33 ?_
  refine lv_iload_n hx hb dX5_count_36 rfl (lv_at hl 1 rfl) ?_
  refine va_aldq (D := (dC, dI)) hx hb hK hP 0 0 rfl rfl (kz_in4 i0_l i0_u) dX5_count_37 ?_
  rw [show (va_up (va_up (va_up (va_up (fun _ => none) 0 (some ge5)) 1 (some ge5)) 2 (some ge5)) 3 (some ge5)) i0.toNatClampNeg = some ge5 from (kz_ix4 (P := fun z => (va_up (va_up (va_up (va_up (fun _ => none) 0 (some ge5)) 1 (some ge5)) 2 (some ge5)) 3 (some ge5)) z.toNatClampNeg = some ge5) rfl rfl rfl rfl i0_l i0_u)]
  refine W.eq (g2 := F0 m 38 ls [.ref ge5]) rfl ?_
  refine lv_aload_n hx hb dX5_count_38 rfl (lv_at hl 0 rfl) ?_
  refine va_get (D := (dC, dI)) (ci := 9) (v := .ref h1) (C := RX5) (T := TX5) (N := 7) hx hb hts (by decide +kernel) hown hK hP 1 rfl rfl 1 (by decide) (hts (.fieldLink RX5 11 "RewriteropeModel" "ropes" "[Ljava/lang/String;") (by decide +kernel)) (fun _ h9 => h9) rfl dX5_count_39 ?_
  refine lv_iload_n hx hb dX5_count_42 rfl (lv_at hl 2 rfl) ?_
  refine va_aldq (D := (dC, dI)) hx hb hK hP 0 0 rfl rfl (kz_in4 i1_l i1_u) dX5_count_43 ?_
  rw [show (va_up (va_up (va_up (va_up (fun _ => none) 0 (some ge5)) 1 (some ge5)) 2 (some ge5)) 3 (some ge5)) i1.toNatClampNeg = some ge5 from (kz_ix4 (P := fun z => (va_up (va_up (va_up (va_up (fun _ => none) 0 (some ge5)) 1 (some ge5)) 2 (some ge5)) 3 (some ge5)) z.toNatClampNeg = some ge5) rfl rfl rfl rfl i1_l i1_u)]
  refine W.eq (g2 := F0 m 44 ls [.ref ge5, .ref ge5]) rfl ?_
  have hPc := hP.sub (ws' := []) [] rfl
  have hDc := hD.sub (ws' := []) [] (by decide) rfl
  have hKc := hK.sub (tys' := []) [] rfl
  have hFc := va_free (wc := []) hD hS hA [] rfl
  refine va_callr (va_runS (As := [.ref ge5, .ref ge5]) (rest := []) ⟨hx, hb, hml, hown, hts⟩ (kx_X5_places_0 l dC dI ge5 gea gv5 gva gde gic gi0 H.size) (cwS 2 hts gX5_count_X5_places rfl rfl rfl (by decide +kernel) ⟨Nat.le_of_ble_eq_true rfl, Nat.le_of_ble_eq_true rfl⟩) ⟨fun a U g mk q => by obtain ⟨q0, q1, qP, qK, qD, qG⟩ := q; exact ⟨q0, q1, qP, va_K.moved (u := U) (U := U.calling g mk a) (Vm.Alike.refl U.vm) qK, qD, gv.fb qG⟩, fun U hU hW => ⟨rfl, by rw [hU], by rw [hU]; exact hPc, va_K.moved hW.alike hKc, hDc.weaken (fun _ _ _ _ => trivial), gv.pass hW hU hS hFc hG⟩⟩ rfl rfl hl.1 rfl (lv_room (Nat.le_of_ble_eq_true rfl)) dX5_count_44 ⟨Nat.le_of_ble_eq_true rfl, Nat.le_of_ble_eq_true rfl⟩) hS (fun q _ h => hFc q h) hFc (fun u ra t H1 locs ht hvm hw hB hz1 hk1 hS => ?_)
  obtain ⟨q1, q2, cq3, hra, hP1, hK1, hD1⟩ := hB
  rw [hra]
  rw [ht] at hP1
  have hK1 := va_K.moved hvm.symm hK1
  obtain ⟨hP, hD⟩ := va_join (wr := [(h1, .inl (k0, 4, .inr (.inr (.inr (.inr (va_up (va_up (va_up (va_up (fun _ => none) 0 (some ge5)) 1 (some ge5)) 2 (some ge5)) 3 (some ge5))))))), (h0, .inr (9, [.int 0, .ref h1, .ref z0, .ref z1, .int 0, .int 0, .int 0]))]) (w1 := [(q1, .inr (3, [.int 1, .ref q2, .int 1])), (q2, .inl (cq3, 10, .inr (.inr (.inr (.inr (va_up (fun _ => none) 0 (some gi0)))))))]) hP hD [] [0, 1] rfl rfl (by decide) (by decide) hk1 hFc hP1 hD1
  have hK := hK.app (hK1.sub (tys' := [(cq3, .object "java/lang/Object")]) [0] rfl)
  generalize H1 = H at hP hS ⊢
  have hK : va_K (dC, dI) vwCl [(k0, .object "java/lang/String"), (cq3, .object "java/lang/Object")] s := hK
  have hP : va_P (dC, dI) vwCl [(h1, .inl (k0, 4, .inr (.inr (.inr (.inr (va_up (va_up (va_up (va_up (fun _ => none) 0 (some ge5)) 1 (some ge5)) 2 (some ge5)) 3 (some ge5))))))), (h0, .inr (9, [.int 0, .ref h1, .ref z0, .ref z1, .int 0, .int 0, .int 0])), (q1, .inr (3, [.int 1, .ref q2, .int 1])), (q2, .inl (cq3, 10, .inr (.inr (.inr (.inr (va_up (fun _ => none) 0 (some gi0)))))))] H := hP
  have hD : va_D A [(h1, .inl (k0, 4, .inr (.inr (.inr (.inr (va_up (va_up (va_up (va_up (fun _ => none) 0 (some ge5)) 1 (some ge5)) 2 (some ge5)) 3 (some ge5))))))), (h0, .inr (9, [.int 0, .ref h1, .ref z0, .ref z1, .int 0, .int 0, .int 0])), (q1, .inr (3, [.int 1, .ref q2, .int 1])), (q2, .inl (cq3, 10, .inr (.inr (.inr (.inr (va_up (fun _ => none) 0 (some gi0)))))))] := hD
  refine W.widen (k := 2) (n := 13) (by omega) (by omega) ?_
  have hPc := hP.sub (ws' := [(q1, .inr (3, [.int 1, .ref q2, .int 1]))]) [2] rfl
  have hDc := hD.sub (ws' := [(q1, .inr (3, [.int 1, .ref q2, .int 1]))]) [2] (by decide) rfl
  have hKc := hK.sub (tys' := []) [] rfl
  have hFc := va_free (wc := [(q1, .inr (3, [.int 1, .ref q2, .int 1]))]) hD hS hA [2] rfl
  refine va_calli (va_runV (As := []) (rest := []) ⟨hx, hb, hml, hown, hts⟩ (kx_Jx4a65c_size_8abf5_0 l dC dI q1 q2 H.size) (cwV 0 hts gX5_count_Jx4a65c_size_8abf5 rfl rfl rfl (by decide +kernel) ⟨Nat.le_of_ble_eq_true rfl, Nat.le_of_ble_eq_true rfl⟩) ⟨fun a U g mk q => by obtain ⟨q0, q1, qP, qK, qD⟩ := q; exact ⟨q0, q1, qP, va_K.moved (u := U) (U := U.calling g mk a) (Vm.Alike.refl U.vm) qK, qD⟩, va_recv hKc hPc (ci := 3) (q0 := 0) rfl rfl, fun U hU hW => ⟨rfl, by rw [hU], by rw [hU]; exact hPc, va_K.moved hW.alike hKc, hDc.weaken (fun _ _ _ _ => trivial)⟩⟩ rfl rfl hl.1 rfl (lv_room (Nat.le_of_ble_eq_true rfl)) dX5_count_47 ⟨Nat.le_of_ble_eq_true rfl, Nat.le_of_ble_eq_true rfl⟩) hS (fun q _ h => hFc q h) hFc (fun r9 u t H1 locs ht hvm hw hB hz1 hk1 hS => ?_)
  obtain rfl := hw
  obtain ⟨hP1, hK1, hD1⟩ := hB
  rw [ht] at hP1
  have hK1 := va_K.moved hvm.symm hK1
  obtain ⟨hP, hD⟩ := va_join (wr := [(h1, .inl (k0, 4, .inr (.inr (.inr (.inr (va_up (va_up (va_up (va_up (fun _ => none) 0 (some ge5)) 1 (some ge5)) 2 (some ge5)) 3 (some ge5))))))), (h0, .inr (9, [.int 0, .ref h1, .ref z0, .ref z1, .int 0, .int 0, .int 0])), (q2, .inl (cq3, 10, .inr (.inr (.inr (.inr (va_up (fun _ => none) 0 (some gi0)))))))]) (w1 := [(q1, .inr (3, [.int 1, .ref q2, .int 1]))]) hP hD [2] [0, 1, 3] rfl rfl (by decide) (by decide) hk1 hFc hP1 hD1
  generalize H1 = H at hP hS ⊢
  have hP : va_P (dC, dI) vwCl [(h1, .inl (k0, 4, .inr (.inr (.inr (.inr (va_up (va_up (va_up (va_up (fun _ => none) 0 (some ge5)) 1 (some ge5)) 2 (some ge5)) 3 (some ge5))))))), (h0, .inr (9, [.int 0, .ref h1, .ref z0, .ref z1, .int 0, .int 0, .int 0])), (q2, .inl (cq3, 10, .inr (.inr (.inr (.inr (va_up (fun _ => none) 0 (some gi0))))))), (q1, .inr (3, [.int 1, .ref q2, .int 1]))] H := hP
  have hD : va_D A [(h1, .inl (k0, 4, .inr (.inr (.inr (.inr (va_up (va_up (va_up (va_up (fun _ => none) 0 (some ge5)) 1 (some ge5)) 2 (some ge5)) 3 (some ge5))))))), (h0, .inr (9, [.int 0, .ref h1, .ref z0, .ref z1, .int 0, .int 0, .int 0])), (q2, .inl (cq3, 10, .inr (.inr (.inr (.inr (va_up (fun _ => none) 0 (some gi0))))))), (q1, .inr (3, [.int 1, .ref q2, .int 1]))] := hD
  have hP := hP.sub (ws' := [(h0, .inr (9, [.int 0, .ref h1, .ref z0, .ref z1, .int 0, .int 0, .int 0])), (h1, .inl (k0, 4, .inr (.inr (.inr (.inr (va_up (va_up (va_up (va_up (fun _ => none) 0 (some ge5)) 1 (some ge5)) 2 (some ge5)) 3 (some ge5))))))), (q1, .inr (3, [.int 1, .ref q2, .int 1])), (q2, .inl (cq3, 10, .inr (.inr (.inr (.inr (va_up (fun _ => none) 0 (some gi0)))))))]) [1, 0, 3, 2] rfl
  have hD := hD.sub (ws' := [(h0, .inr (9, [.int 0, .ref h1, .ref z0, .ref z1, .int 0, .int 0, .int 0])), (h1, .inl (k0, 4, .inr (.inr (.inr (.inr (va_up (va_up (va_up (va_up (fun _ => none) 0 (some ge5)) 1 (some ge5)) 2 (some ge5)) 3 (some ge5))))))), (q1, .inr (3, [.int 1, .ref q2, .int 1])), (q2, .inl (cq3, 10, .inr (.inr (.inr (.inr (va_up (fun _ => none) 0 (some gi0)))))))]) [1, 0, 3, 2] (by decide) rfl
  have hP := hP.sub (ws' := [(h0, .inr (9, [.int 0, .ref h1, .ref z0, .ref z1, .int 0, .int 0, .int 0]))]) [0] rfl
  have hD := hD.sub (ws' := [(h0, .inr (9, [.int 0, .ref h1, .ref z0, .ref z1, .int 0, .int 0, .int 0]))]) [0] (by decide) rfl
  exact W.iret (v := 1) hx hb hr (fun t ht hW => ⟨⟨1, (), rfl, rfl, q1, q2, cq3, by rw [ht]; exact hP, va_K.moved hW.alike hK, hD⟩, hS.F ht⟩) hS.2.2 dX5_count_50
set_option maxHeartbeats 4000000 in
set_option maxRecDepth 100000 in
theorem kx_X3_count_16 (l : Launch) (hst : l.stackTraces = false) (dC : Nat → ClassId) (dI : Nat → Nat → Nat) (ge5 gea gv5 gva gde gic gi0 : Nat) (h0 : Nat) (z0 : Nat) (z1 : Nat) (z2 : Nat) (z3 : Nat) (z4 : Nat) (z5 : Nat) (sz : Nat) (i0 : Int32) (i0_l : (0 : Int) ≤ i0.toInt) (i0_u : i0.toInt ≤ (3 : Int)) (i1 : Int32) (i1_l : ((-2147483648) : Int) ≤ i1.toInt) (i1_u : i1.toInt ≤ ((-1) : Int)) : vx_Met l yX3_count wsX3_count ({ frames := 7, cells := 1, slots := 6, locals := 140 }) (va_Pc [.ref h0, .int i0, .int i1] (fun U => U.heap.size = sz ∧ va_P (dC, dI) vwCl [(h0, .inr (7, [.ref z0, .ref z1, .ref z2, .ref z3, .ref z4, .ref z5, .int 0, .int 0, .int 0]))] U.heap ∧ va_K (dC, dI) vwCl [] U ∧ va_D (fun _ => True) [(h0, .inr (7, [.ref z0, .ref z1, .ref z2, .ref z3, .ref z4, .ref z5, .int 0, .int 0, .int 0]))] ∧ gv ge5 gea gv5 gva gde gic gi0 (va_A [(h0, .inr (7, [.ref z0, .ref z1, .ref z2, .ref z3, .ref z4, .ref z5, .int 0, .int 0, .int 0]))] sz) U U.heap)) (va_Qi (fun (_ : Int32) (_ : Unit) => False) (fun _ _ => True) (va_A [(h0, .inr (7, [.ref z0, .ref z1, .ref z2, .ref z3, .ref z4, .ref z5, .int 0, .int 0, .int 0]))] sz)) (vx_X (fun _ : Unit => True) (fun (E : String) (_ : Unit) (t : State) => E = "java/lang/IndexOutOfBoundsException" ∧ va_P (dC, dI) vwCl [(h0, .inr (7, [.ref z0, .ref z1, .ref z2, .ref z3, .ref z4, .ref z5, .int 0, .int 0, .int 0]))] t.heap ∧ va_K (dC, dI) vwCl [] t ∧ va_D (va_A [(h0, .inr (7, [.ref z0, .ref z1, .ref z2, .ref z3, .ref z4, .ref z5, .int 0, .int 0, .int 0]))] sz) [(h0, .inr (7, [.ref z0, .ref z1, .ref z2, .ref z3, .ref z4, .ref z5, .int 0, .int 0, .int 0]))]) (va_A [(h0, .inr (7, [.ref z0, .ref z1, .ref z2, .ref z3, .ref z4, .ref z5, .int 0, .int 0, .int 0]))] sz)) 1 6 (va_A [(h0, .inr (7, [.ref z0, .ref z1, .ref z2, .ref z3, .ref z4, .ref z5, .int 0, .int 0, .int 0]))] sz) := by
  refine vx_ofW (cc := cX3_count) (maxL := 5) (ret := (some .int)) (by decide) rfl ?_
  intro p e s m args below meth c s₁ B hml ht9 hv
  obtain ⟨rfl, hsz, hP, hK, hD0, hG⟩ := hv
  have hx := B.exec
  have hb := B.bytes
  have hr := B.returns
  have hts := atoms_spec (ws := wsX3_count) B.pre
  have hown : s.vm.findClass RX3 = some m.cls := findClass_of_methodNamed B.named
  have hlocks := B.notSynchronized
  subst hsz
  have hD := hD0.self (sz := s.heap.size)
  generalize hAe : va_A [(h0, .inr (7, [.ref z0, .ref z1, .ref z2, .ref z3, .ref z4, .ref z5, .int 0, .int 0, .int 0]))] s.heap.size = A at hD hG ⊢
  obtain ⟨⟨g_AO_Text, g_AO_String, g_AO_Object, g_nm_RX1_20, g_nm_RX0_17, g_nm_RX3_31, g_nm_RX2_44, g_nm_RL_121, g_nf_RL_13, g_nf_RL_47, g_ca_IO, g_ca_IA, g_ca_IS, g_ca_IntObj, g_ca_StrObj, g_de_RT, g_de_EX, g_de_TH, g_nc_IA_IO, g_nc_IS_IO, g_nc_IS_IA⟩, ⟨g_s3, g_s5, g_sa, g_x278, g_x280, g_x282, g_x284, g_x286, g_x180, g_x238, g_x250⟩, ⟨g_o5, g_c5, g_v5, g_t5, g_oa, g_ca, g_va, g_ta, g_zc, g_zd, g_td, g_zf, g_zU, g_zN, g_zh, g_zk, g_tk, g_oi, g_vi⟩⟩ := id hG
  have hA : ∀ q : Nat, s.heap.size ≤ q → A q := fun q h => by rw [← hAe]; exact Or.inr h
  have hS : va_S A s.heap s.heap [] := va_S.rf
  have hP : va_P (dC, dI) vwCl [(h0, .inr (7, [.ref z0, .ref z1, .ref z2, .ref z3, .ref z4, .ref z5, .int 0, .int 0, .int 0]))] s.heap := hP
  have hl := lv_entry ([.ref h0, .int i0, .int i1]) (n := 5) (Nat.le_of_ble_eq_true rfl)
  rw [lg_entry_eq]
  generalize (lg_sl ([.ref h0, .int i0, .int i1]) ++ List.replicate (5 - (lg_sl ([.ref h0, .int i0, .int i1])).length) Slot.unset).toArray = ls at hl ⊢
  have hl : lv_has ls 5 [(0, .ref h0), (1, .int i0), (2, .int i1)] := hl
  refine lv_iload_n hx hb dX3_count_0 rfl (lv_at hl 1 rfl) ?_
  have hPc := hP.sub (ws' := []) [] rfl
  have hDc := hD.sub (ws' := []) [] (by decide) rfl
  have hKc := hK.sub (tys' := []) [] rfl
  have hFc := va_free (wc := []) hD hS hA [] rfl
  refine va_callv (va_runS (As := [.int i0]) (rest := []) ⟨hx, hb, hml, hown, hts⟩ (kx_X3_needRope_4 l dC dI s.heap.size i0 i0_l i0_u) (cwS 1 hts gX3_count_X3_needRope rfl rfl rfl (by decide +kernel) ⟨Nat.le_of_ble_eq_true rfl, Nat.le_of_ble_eq_true rfl⟩) ⟨fun a U g mk q => by obtain ⟨q0, q1, qP, qK, qD⟩ := q; exact ⟨q0, q1, qP, va_K.moved (u := U) (U := U.calling g mk a) (Vm.Alike.refl U.vm) qK, qD⟩, fun U hU hW => ⟨rfl, by rw [hU], by rw [hU]; exact hPc, va_K.moved hW.alike hKc, hDc.weaken (fun _ _ _ _ => trivial)⟩⟩ rfl rfl hl.1 rfl (lv_room (Nat.le_of_ble_eq_true rfl)) dX3_count_1 ⟨Nat.le_of_ble_eq_true rfl, Nat.le_of_ble_eq_true rfl⟩) hS (fun q _ h => hFc q h) hFc (fun u t H1 locs ht hvm hw hB hz1 hk1 hS => ?_)
  obtain ⟨hP1, hK1, hD1⟩ := hB
  rw [ht] at hP1
  have hK1 := va_K.moved hvm.symm hK1
  obtain ⟨hP, hD⟩ := va_join (wr := [(h0, .inr (7, [.ref z0, .ref z1, .ref z2, .ref z3, .ref z4, .ref z5, .int 0, .int 0, .int 0]))]) (w1 := []) hP hD [] [0] rfl rfl (by decide) (by decide) hk1 hFc hP1 hD1
  generalize H1 = H at hP hS ⊢
  have hP : va_P (dC, dI) vwCl [(h0, .inr (7, [.ref z0, .ref z1, .ref z2, .ref z3, .ref z4, .ref z5, .int 0, .int 0, .int 0]))] H := hP
  have hD : va_D A [(h0, .inr (7, [.ref z0, .ref z1, .ref z2, .ref z3, .ref z4, .ref z5, .int 0, .int 0, .int 0]))] := hD
  refine lv_iload_n hx hb dX3_count_4 rfl (lv_at hl 2 rfl) ?_
  have hPc := hP.sub (ws' := []) [] rfl
  have hDc := hD.sub (ws' := []) [] (by decide) rfl
  have hKc := hK.sub (tys' := []) [] rfl
  have hFc := va_free (wc := []) hD hS hA [] rfl
  refine vx_callv (vx_runS (As := [.int i1]) (rest := []) ⟨hx, hb, hml, hown, hts⟩ (kx_X3_needRope_5 l hst dC dI ge5 gea gv5 gva gde gic gi0 H.size i1 i1_l i1_u) (cwS 1 hts gX3_count_X3_needRope rfl rfl rfl (by decide +kernel) ⟨Nat.le_of_ble_eq_true rfl, Nat.le_of_ble_eq_true rfl⟩) ⟨fun a U g mk q => by obtain ⟨q0, q1, qP, qK, qD, qG⟩ := q; exact ⟨q0, q1, qP, va_K.moved (u := U) (U := U.calling g mk a) (Vm.Alike.refl U.vm) qK, qD, gv.fb qG⟩, fun U hU hW => ⟨rfl, by rw [hU], by rw [hU]; exact hPc, va_K.moved hW.alike hKc, hDc.weaken (fun _ _ _ _ => trivial), gv.pass hW hU hS hFc hG⟩⟩ rfl rfl hl.1 rfl (lv_room (Nat.le_of_ble_eq_true rfl)) dX3_count_5 ⟨Nat.le_of_ble_eq_true rfl, Nat.le_of_ble_eq_true rfl⟩) hS (fun q _ h => hFc q h) hFc (fun q _ h => hFc q h) (fun E ce q9 u t H1 locs ht hvm hpx hB hz1 hk1 hS hce hcv hcl => ?_) (fun u t H1 locs ht hvm hw hB hz1 hk1 hS => hw.elim)
  obtain ⟨rfl, hP1, hK1, hD1⟩ := hB
  rw [ht] at hP1
  have hK1 := va_K.moved hvm.symm hK1
  obtain ⟨hP, hD⟩ := va_join (wr := [(h0, .inr (7, [.ref z0, .ref z1, .ref z2, .ref z3, .ref z4, .ref z5, .int 0, .int 0, .int 0]))]) (w1 := []) hP hD [] [0] rfl rfl (by decide) (by decide) hk1 hFc hP1 hD1
  generalize H1 = H at hP hS hce ⊢
  have hP : va_P (dC, dI) vwCl [(h0, .inr (7, [.ref z0, .ref z1, .ref z2, .ref z3, .ref z4, .ref z5, .int 0, .int 0, .int 0]))] H := hP
  have hD : va_D A [(h0, .inr (7, [.ref z0, .ref z1, .ref z2, .ref z3, .ref z4, .ref z5, .int 0, .int 0, .int 0]))] := hD
  exact vx_out (fun x hx9 => (ht9 x hx9).elim) hlocks hce hcv hcl (fun t ht hW => ⟨(), trivial, ⟨rfl, by rw [ht]; exact hP, va_K.moved hW hK, hD⟩, hS.F ht⟩) hS.2.2 (by omega) (by omega)
set_option maxHeartbeats 4000000 in
set_option maxRecDepth 100000 in
theorem kx_L_count_1 (l : Launch) (hst : l.stackTraces = false) (dC : Nat → ClassId) (dI : Nat → Nat → Nat) (ge5 gea gv5 gva gde gic gi0 : Nat) (h0 : Nat) (z0 : Nat) (z1 : Nat) (z2 : Nat) (z3 : Nat) (z4 : Nat) (z5 : Nat) (z6 : Nat) (sz : Nat) (i0 : Int32) (i0_l : (0 : Int) ≤ i0.toInt) (i0_u : i0.toInt ≤ (3 : Int)) (i1 : Int32) (i1_l : ((-2147483648) : Int) ≤ i1.toInt) (i1_u : i1.toInt ≤ ((-1) : Int)) : Met l yL_count wsL_count ({ frames := 8, cells := 1, slots := 6, locals := 164 }) (va_Pc [.ref h0, .int i0, .int i1, .ref z0] (fun U => U.heap.size = sz ∧ va_P (dC, dI) vwCl [(h0, .inr (7, [.ref z1, .ref z2, .ref z3, .ref z4, .ref z5, .ref z6, .int 0, .int 0, .int 0]))] U.heap ∧ va_K (dC, dI) vwCl [] U ∧ va_D (fun _ => True) [(h0, .inr (7, [.ref z1, .ref z2, .ref z3, .ref z4, .ref z5, .ref z6, .int 0, .int 0, .int 0]))] ∧ gv ge5 gea gv5 gva gde gic gi0 (va_A [(h0, .inr (7, [.ref z1, .ref z2, .ref z3, .ref z4, .ref z5, .ref z6, .int 0, .int 0, .int 0]))] sz) U U.heap)) (va_Qi (fun (r : Int32) (_ : Unit) => r = 1) (fun (_ : Unit) (t : State) => va_P (dC, dI) vwCl [(h0, .inr (7, [.ref z1, .ref z2, .ref z3, .ref z4, .ref z5, .ref z6, .int 0, .int 0, .int 0]))] t.heap ∧ va_K (dC, dI) vwCl [] t ∧ va_D (va_A [(h0, .inr (7, [.ref z1, .ref z2, .ref z3, .ref z4, .ref z5, .ref z6, .int 0, .int 0, .int 0]))] sz) [(h0, .inr (7, [.ref z1, .ref z2, .ref z3, .ref z4, .ref z5, .ref z6, .int 0, .int 0, .int 0]))]) (va_A [(h0, .inr (7, [.ref z1, .ref z2, .ref z3, .ref z4, .ref z5, .ref z6, .int 0, .int 0, .int 0]))] sz)) 1 6 (va_A [(h0, .inr (7, [.ref z1, .ref z2, .ref z3, .ref z4, .ref z5, .ref z6, .int 0, .int 0, .int 0]))] sz) := by
  refine kz_ofWH (cc := cL_count) (maxL := 5) (ret := (some .int)) (hh := [(0, 11, 14, 19)]) (by decide) rfl ?_
  intro p e s m args below meth c s₁ B hml hv
  obtain ⟨rfl, hsz, hP, hK, hD0, hG⟩ := hv
  have hx := B.exec
  have hb := B.bytes
  have hr := B.returns
  have hts := atoms_spec (ws := wsL_count) B.pre
  have hown : s.vm.findClass RL = some m.cls := findClass_of_methodNamed B.named
  have htab := vx_table (x := yL_count) B (hts (.codeWith yL_count cL_count 5 (some .int) [(0, 11, 14, 19)]) (by decide +kernel))
  have hlocks := B.notSynchronized
  subst hsz
  have hD := hD0.self (sz := s.heap.size)
  generalize hAe : va_A [(h0, .inr (7, [.ref z1, .ref z2, .ref z3, .ref z4, .ref z5, .ref z6, .int 0, .int 0, .int 0]))] s.heap.size = A at hD hG ⊢
  obtain ⟨⟨g_AO_Text, g_AO_String, g_AO_Object, g_nm_RX1_20, g_nm_RX0_17, g_nm_RX3_31, g_nm_RX2_44, g_nm_RL_121, g_nf_RL_13, g_nf_RL_47, g_ca_IO, g_ca_IA, g_ca_IS, g_ca_IntObj, g_ca_StrObj, g_de_RT, g_de_EX, g_de_TH, g_nc_IA_IO, g_nc_IS_IO, g_nc_IS_IA⟩, ⟨g_s3, g_s5, g_sa, g_x278, g_x280, g_x282, g_x284, g_x286, g_x180, g_x238, g_x250⟩, ⟨g_o5, g_c5, g_v5, g_t5, g_oa, g_ca, g_va, g_ta, g_zc, g_zd, g_td, g_zf, g_zU, g_zN, g_zh, g_zk, g_tk, g_oi, g_vi⟩⟩ := id hG
  have hA : ∀ q : Nat, s.heap.size ≤ q → A q := fun q h => by rw [← hAe]; exact Or.inr h
  have hS : va_S A s.heap s.heap [] := va_S.rf
  have hP : va_P (dC, dI) vwCl [(h0, .inr (7, [.ref z1, .ref z2, .ref z3, .ref z4, .ref z5, .ref z6, .int 0, .int 0, .int 0]))] s.heap := hP
  have hl := lv_entry ([.ref h0, .int i0, .int i1, .ref z0]) (n := 5) (Nat.le_of_ble_eq_true rfl)
  rw [lg_entry_eq]
  generalize (lg_sl ([.ref h0, .int i0, .int i1, .ref z0]) ++ List.replicate (5 - (lg_sl ([.ref h0, .int i0, .int i1, .ref z0])).length) Slot.unset).toArray = ls at hl ⊢
  have hl : lv_has ls 5 [(0, .ref h0), (1, .int i0), (2, .int i1), (3, .ref z0)] := hl
  refine lv_aload_n hx hb dL_count_0 rfl (lv_at hl 3 rfl) ?_
  refine lv_aload_n hx hb dL_count_1 rfl (lv_at hl 0 rfl) ?_
  refine lv_iload_n hx hb dL_count_2 rfl (lv_at hl 1 rfl) ?_
  refine lv_iload_n hx hb dL_count_3 rfl (lv_at hl 2 rfl) ?_
  have hPc := hP.sub (ws' := [(h0, .inr (7, [.ref z1, .ref z2, .ref z3, .ref z4, .ref z5, .ref z6, .int 0, .int 0, .int 0]))]) [0] rfl
  have hDc := hD.sub (ws' := [(h0, .inr (7, [.ref z1, .ref z2, .ref z3, .ref z4, .ref z5, .ref z6, .int 0, .int 0, .int 0]))]) [0] (by decide) rfl
  have hKc := hK.sub (tys' := []) [] rfl
  have hFc := va_free (wc := [(h0, .inr (7, [.ref z1, .ref z2, .ref z3, .ref z4, .ref z5, .ref z6, .int 0, .int 0, .int 0]))]) hD hS hA [0] rfl
  refine vx_calli (vx_runV (As := [.int i0, .int i1]) (rest := [.ref z0]) ⟨hx, hb, hml, hown, hts⟩ (kx_X3_count_16 l hst dC dI ge5 gea gv5 gva gde gic gi0 h0 z1 z2 z3 z4 z5 z6 s.heap.size i0 i0_l i0_u i1 i1_l i1_u) (cwV 2 hts gL_count_X3_count rfl rfl rfl (by decide +kernel) ⟨Nat.le_of_ble_eq_true rfl, Nat.le_of_ble_eq_true rfl⟩) ⟨fun a U g mk q => by obtain ⟨q0, q1, qP, qK, qD, qG⟩ := q; exact ⟨q0, q1, qP, va_K.moved (u := U) (U := U.calling g mk a) (Vm.Alike.refl U.vm) qK, qD, gv.fb qG⟩, va_recv hKc hPc (ci := 7) (q0 := 0) rfl rfl, fun U hU hW => ⟨rfl, by rw [hU], by rw [hU]; exact hPc, va_K.moved hW.alike hKc, hDc.weaken (fun _ _ _ _ => trivial), gv.pass hW hU hS hFc hG⟩⟩ rfl rfl hl.1 rfl (lv_room (Nat.le_of_ble_eq_true rfl)) dL_count_4 ⟨Nat.le_of_ble_eq_true rfl, Nat.le_of_ble_eq_true rfl⟩) hS (fun q _ h => hFc q h) hFc (fun q _ h => hFc q h) (fun E ce q9 u t H1 locs ht hvm hpx hB hz1 hk1 hS hce hcv hcl => ?_) (fun r9 u t H1 locs ht hvm hw hB hz1 hk1 hS => hw.elim)
  obtain ⟨rfl, hP1, hK1, hD1⟩ := hB
  rw [ht] at hP1
  have hK1 := va_K.moved hvm.symm hK1
  obtain ⟨hP, hD⟩ := va_join (wr := []) (w1 := [(h0, .inr (7, [.ref z1, .ref z2, .ref z3, .ref z4, .ref z5, .ref z6, .int 0, .int 0, .int 0]))]) hP hD [0] [] rfl rfl (by decide) (by decide) hk1 hFc hP1 hD1
  generalize H1 = H at hP hS hce ⊢
  have hP : va_P (dC, dI) vwCl [(h0, .inr (7, [.ref z1, .ref z2, .ref z3, .ref z4, .ref z5, .ref z6, .int 0, .int 0, .int 0]))] H := hP
  have hD : va_D A [(h0, .inr (7, [.ref z1, .ref z2, .ref z3, .ref z4, .ref z5, .ref z6, .int 0, .int 0, .int 0]))] := hD
  refine vx_catch (own := RL) (name := "java/lang/IndexOutOfBoundsException") hown (tableOf []) ⟨0, 11, 14, 19⟩ (tableOf []) (by rw [htab]; rfl) (fun z hz => nomatch hz) (by decide +kernel) (by decide) (hts (.classLink RL 19 "java/lang/IndexOutOfBoundsException") (by decide +kernel)) (va_Nw.use rfl g_ca_IO) hce hcv hcl ?_
  refine W.eq (g2 := F0 m 14 ls [.ref q9]) rfl ?_
  refine lv_astore (lv' := [(4, .ref q9), (0, .ref h0), (1, .int i0), (2, .int i1), (3, .ref z0)]) hx hb dL_count_14 hl (by decide) rfl (fun ls hl => ?_)
  refine lv_iconst (v := 1) hx hb dL_count_16 (by decide) ?_
  exact W.iret (v := 1) hx hb hr (fun t ht hW => ⟨⟨1, (), rfl, rfl, by rw [ht]; exact hP, va_K.moved hW.alike hK, hD⟩, hS.F ht⟩) hS.2.2 dL_count_17
set_option maxHeartbeats 4000000 in
set_option maxRecDepth 100000 in
theorem kx_X5_count_1 (l : Launch) (dC : Nat → ClassId) (dI : Nat → Nat → Nat) (h0 : Nat) (z0 : Nat) (z1 : Nat) (z2 : Nat) (sz : Nat) (i0 : Int32) (i0_l : (0 : Int) ≤ i0.toInt) (i0_u : i0.toInt ≤ (3 : Int)) (i1 : Int32) (i1_l : ((-2147483648) : Int) ≤ i1.toInt) (i1_u : i1.toInt ≤ ((-1) : Int)) : Met l yX5_count wsX5_count ({ frames := 2, cells := 0, slots := 0, locals := 42 }) (va_Pc [.ref h0, .int i0, .int i1] (fun U => U.heap.size = sz ∧ va_P (dC, dI) vwCl [(h0, .inr (9, [.int 0, .ref z0, .ref z1, .ref z2, .int 0, .int 0, .int 0]))] U.heap ∧ va_K (dC, dI) vwCl [] U ∧ va_D (fun _ => True) [(h0, .inr (9, [.int 0, .ref z0, .ref z1, .ref z2, .int 0, .int 0, .int 0]))])) (va_Qi (fun (r : Int32) (_ : Unit) => r = 0) (fun (_ : Unit) (t : State) => va_P (dC, dI) vwCl [(h0, .inr (9, [.int 1, .ref z0, .ref z1, .ref z2, .int 0, .int 0, .int 0]))] t.heap ∧ va_K (dC, dI) vwCl [] t ∧ va_D (va_A [(h0, .inr (9, [.int 0, .ref z0, .ref z1, .ref z2, .int 0, .int 0, .int 0]))] sz) [(h0, .inr (9, [.int 1, .ref z0, .ref z1, .ref z2, .int 0, .int 0, .int 0]))]) (va_A [(h0, .inr (9, [.int 0, .ref z0, .ref z1, .ref z2, .int 0, .int 0, .int 0]))] sz)) 0 0 (va_A [(h0, .inr (9, [.int 0, .ref z0, .ref z1, .ref z2, .int 0, .int 0, .int 0]))] sz) := by
  refine Met.ofW (cc := cX5_count) (maxL := 3) (ret := (some .int)) (by decide) rfl ?_
  intro p e s m args below meth c s₁ B hml hv
  obtain ⟨rfl, hsz, hP, hK, hD0⟩ := hv
  have hx := B.exec
  have hb := B.bytes
  have hr := B.returns
  have hts := atoms_spec (ws := wsX5_count) B.pre
  have hown : s.vm.findClass RX5 = some m.cls := findClass_of_methodNamed B.named
  have hlocks := B.notSynchronized
  subst hsz
  have hD := hD0.self (sz := s.heap.size)
  generalize hAe : va_A [(h0, .inr (9, [.int 0, .ref z0, .ref z1, .ref z2, .int 0, .int 0, .int 0]))] s.heap.size = A at hD ⊢
  have hA : ∀ q : Nat, s.heap.size ≤ q → A q := fun q h => by rw [← hAe]; exact Or.inr h
  have hS : va_S A s.heap s.heap [] := va_S.rf
  have hP : va_P (dC, dI) vwCl [(h0, .inr (9, [.int 0, .ref z0, .ref z1, .ref z2, .int 0, .int 0, .int 0]))] s.heap := hP
  have hl := lv_entry ([.ref h0, .int i0, .int i1]) (n := 3) (Nat.le_of_ble_eq_true rfl)
  rw [lg_entry_eq]
  generalize (lg_sl ([.ref h0, .int i0, .int i1]) ++ List.replicate (3 - (lg_sl ([.ref h0, .int i0, .int i1])).length) Slot.unset).toArray = ls at hl ⊢
  have hl : lv_has ls 3 [(0, .ref h0), (1, .int i0), (2, .int i1)] := hl
  refine lv_aload_n hx hb dX5_count_0 rfl (lv_at hl 0 rfl) ?_
  refine lv_iload_n hx hb dX5_count_1 rfl (lv_at hl 1 rfl) ?_
  have hPc := hP.sub (ws' := []) [] rfl
  have hDc := hD.sub (ws' := []) [] (by decide) rfl
  have hKc := hK.sub (tys' := []) [] rfl
  have hFc := va_free (wc := []) hD hS hA [] rfl
  refine va_calli (va_runS (As := [.int i0]) (rest := [.ref h0]) ⟨hx, hb, hml, hown, hts⟩ (kx_X5_isNo_1 l dC dI s.heap.size i0 i0_l i0_u) (cwS 1 hts gX5_count_X5_isNo rfl rfl rfl (by decide +kernel) ⟨Nat.le_of_ble_eq_true rfl, Nat.le_of_ble_eq_true rfl⟩) ⟨fun a U g mk q => by obtain ⟨q0, q1, qP, qK, qD⟩ := q; exact ⟨q0, q1, qP, va_K.moved (u := U) (U := U.calling g mk a) (Vm.Alike.refl U.vm) qK, qD⟩, fun U hU hW => ⟨rfl, by rw [hU], by rw [hU]; exact hPc, va_K.moved hW.alike hKc, hDc.weaken (fun _ _ _ _ => trivial)⟩⟩ rfl rfl hl.1 rfl (lv_room (Nat.le_of_ble_eq_true rfl)) dX5_count_2 ⟨Nat.le_of_ble_eq_true rfl, Nat.le_of_ble_eq_true rfl⟩) hS (fun q _ h => hFc q h) hFc (fun r9 u t H1 locs ht hvm hw hB hz1 hk1 hS => ?_)
  obtain rfl := hw
  obtain ⟨hP1, hK1, hD1⟩ := hB
  rw [ht] at hP1
  have hK1 := va_K.moved hvm.symm hK1
  obtain ⟨hP, hD⟩ := va_join (wr := [(h0, .inr (9, [.int 0, .ref z0, .ref z1, .ref z2, .int 0, .int 0, .int 0]))]) (w1 := []) hP hD [] [0] rfl rfl (by decide) (by decide) hk1 hFc hP1 hD1
  generalize H1 = H at hP hS ⊢
  have hP : va_P (dC, dI) vwCl [(h0, .inr (9, [.int 0, .ref z0, .ref z1, .ref z2, .int 0, .int 0, .int 0]))] H := hP
  have hD : va_D A [(h0, .inr (9, [.int 0, .ref z0, .ref z1, .ref z2, .int 0, .int 0, .int 0]))] := hD
  refine lv_if_ne (tgt := 15) hx hb dX5_count_5 (by decide) (fun c9 => absurd (by decide) c9) (fun _ => ?_)
  refine lv_iload_n hx hb dX5_count_8 rfl (lv_at hl 2 rfl) ?_
  have hPc := hP.sub (ws' := []) [] rfl
  have hDc := hD.sub (ws' := []) [] (by decide) rfl
  have hKc := hK.sub (tys' := []) [] rfl
  have hFc := va_free (wc := []) hD hS hA [] rfl
  refine va_calli (va_runS (As := [.int i1]) (rest := [.ref h0]) ⟨hx, hb, hml, hown, hts⟩ (kx_X5_isNo_0 l dC dI H.size i1 i1_l i1_u) (cwS 1 hts gX5_count_X5_isNo rfl rfl rfl (by decide +kernel) ⟨Nat.le_of_ble_eq_true rfl, Nat.le_of_ble_eq_true rfl⟩) ⟨fun a U g mk q => by obtain ⟨q0, q1, qP, qK, qD⟩ := q; exact ⟨q0, q1, qP, va_K.moved (u := U) (U := U.calling g mk a) (Vm.Alike.refl U.vm) qK, qD⟩, fun U hU hW => ⟨rfl, by rw [hU], by rw [hU]; exact hPc, va_K.moved hW.alike hKc, hDc.weaken (fun _ _ _ _ => trivial)⟩⟩ rfl rfl hl.1 rfl (lv_room (Nat.le_of_ble_eq_true rfl)) dX5_count_9 ⟨Nat.le_of_ble_eq_true rfl, Nat.le_of_ble_eq_true rfl⟩) hS (fun q _ h => hFc q h) hFc (fun r9 u t H1 locs ht hvm hw hB hz1 hk1 hS => ?_)
  obtain rfl := hw
  obtain ⟨hP1, hK1, hD1⟩ := hB
  rw [ht] at hP1
  have hK1 := va_K.moved hvm.symm hK1
  obtain ⟨hP, hD⟩ := va_join (wr := [(h0, .inr (9, [.int 0, .ref z0, .ref z1, .ref z2, .int 0, .int 0, .int 0]))]) (w1 := []) hP hD [] [0] rfl rfl (by decide) (by decide) hk1 hFc hP1 hD1
  generalize H1 = H at hP hS ⊢
  have hP : va_P (dC, dI) vwCl [(h0, .inr (9, [.int 0, .ref z0, .ref z1, .ref z2, .int 0, .int 0, .int 0]))] H := hP
  have hD : va_D A [(h0, .inr (9, [.int 0, .ref z0, .ref z1, .ref z2, .int 0, .int 0, .int 0]))] := hD
  refine lv_if_eq (tgt := 19) hx hb dX5_count_12 (by decide) (fun c9 => absurd c9 (by decide)) (fun _ => ?_)
  refine lv_iconst (v := 1) hx hb dX5_count_15 (by decide) ?_
  refine lv_goto (tgt := 20) hx hb dX5_count_16 (by decide) ?_
  refine lv_iconst (v := 0) hx hb dX5_count_20 (by decide) ?_
  refine lv_iconst (v := 0) hx hb dX5_count_21 (by decide) ?_
  have hPc := hP.sub (ws' := [(h0, .inr (9, [.int 0, .ref z0, .ref z1, .ref z2, .int 0, .int 0, .int 0]))]) [0] rfl
  have hDc := hD.sub (ws' := [(h0, .inr (9, [.int 0, .ref z0, .ref z1, .ref z2, .int 0, .int 0, .int 0]))]) [0] (by decide) rfl
  have hKc := hK.sub (tys' := []) [] rfl
  have hFc := va_free (wc := [(h0, .inr (9, [.int 0, .ref z0, .ref z1, .ref z2, .int 0, .int 0, .int 0]))]) hD hS hA [0] rfl
  refine va_calli (va_runV (As := [.int 1, .int 0, .int 0]) (rest := []) ⟨hx, hb, hml, hown, hts⟩ (kx_X5_fails_0 l dC dI h0 z0 z1 z2 H.size) (cwV 3 hts gX5_count_X5_fails rfl rfl rfl (by decide +kernel) ⟨Nat.le_of_ble_eq_true rfl, Nat.le_of_ble_eq_true rfl⟩) ⟨fun a U g mk q => by obtain ⟨q0, q1, qP, qK, qD⟩ := q; exact ⟨q0, q1, qP, va_K.moved (u := U) (U := U.calling g mk a) (Vm.Alike.refl U.vm) qK, qD⟩, va_recv hKc hPc (ci := 9) (q0 := 0) rfl rfl, fun U hU hW => ⟨rfl, by rw [hU], by rw [hU]; exact hPc, va_K.moved hW.alike hKc, hDc.weaken (fun _ _ _ _ => trivial)⟩⟩ rfl rfl hl.1 rfl (lv_room (Nat.le_of_ble_eq_true rfl)) dX5_count_22 ⟨Nat.le_of_ble_eq_true rfl, Nat.le_of_ble_eq_true rfl⟩) hS (fun q _ h => hFc q h) hFc (fun r9 u t H1 locs ht hvm hw hB hz1 hk1 hS => ?_)
  obtain rfl := hw
  obtain ⟨hP1, hK1, hD1⟩ := hB
  rw [ht] at hP1
  have hK1 := va_K.moved hvm.symm hK1
  obtain ⟨hP, hD⟩ := va_join (wr := []) (w1 := [(h0, .inr (9, [.int 1, .ref z0, .ref z1, .ref z2, .int 0, .int 0, .int 0]))]) hP hD [0] [] rfl rfl (by decide) (by decide) hk1 hFc hP1 hD1
  generalize H1 = H at hP hS ⊢
  have hP : va_P (dC, dI) vwCl [(h0, .inr (9, [.int 1, .ref z0, .ref z1, .ref z2, .int 0, .int 0, .int 0]))] H := hP
  have hD : va_D A [(h0, .inr (9, [.int 1, .ref z0, .ref z1, .ref z2, .int 0, .int 0, .int 0]))] := hD
  refine lv_if_eq (tgt := 32) hx hb dX5_count_25 (by decide) (fun c9 => absurd c9 (by decide)) (fun _ => ?_)
  refine lv_iconst (v := 0) hx hb dX5_count_28 (by decide) ?_
  refine lv_goto (tgt := 50) hx hb dX5_count_29 (by decide) ?_
  exact W.iret (v := 0) hx hb hr (fun t ht hW => ⟨⟨0, (), rfl, rfl, by rw [ht]; exact hP, va_K.moved hW.alike hK, hD⟩, hS.F ht⟩) hS.2.2 dX5_count_50
set_option maxHeartbeats 4000000 in
set_option maxRecDepth 100000 in
theorem kx_X3_count_17 (l : Launch) (hst : l.stackTraces = false) (dC : Nat → ClassId) (dI : Nat → Nat → Nat) (ge5 gea gv5 gva gde gic gi0 : Nat) (h0 : Nat) (z0 : Nat) (z1 : Nat) (z2 : Nat) (z3 : Nat) (z4 : Nat) (z5 : Nat) (sz : Nat) (i0 : Int32) (i0_l : (0 : Int) ≤ i0.toInt) (i0_u : i0.toInt ≤ (3 : Int)) (i1 : Int32) (i1_l : (4 : Int) ≤ i1.toInt) (i1_u : i1.toInt ≤ (2147483647 : Int)) : vx_Met l yX3_count wsX3_count ({ frames := 7, cells := 1, slots := 6, locals := 140 }) (va_Pc [.ref h0, .int i0, .int i1] (fun U => U.heap.size = sz ∧ va_P (dC, dI) vwCl [(h0, .inr (7, [.ref z0, .ref z1, .ref z2, .ref z3, .ref z4, .ref z5, .int 0, .int 0, .int 0]))] U.heap ∧ va_K (dC, dI) vwCl [] U ∧ va_D (fun _ => True) [(h0, .inr (7, [.ref z0, .ref z1, .ref z2, .ref z3, .ref z4, .ref z5, .int 0, .int 0, .int 0]))] ∧ gv ge5 gea gv5 gva gde gic gi0 (va_A [(h0, .inr (7, [.ref z0, .ref z1, .ref z2, .ref z3, .ref z4, .ref z5, .int 0, .int 0, .int 0]))] sz) U U.heap)) (va_Qi (fun (_ : Int32) (_ : Unit) => False) (fun _ _ => True) (va_A [(h0, .inr (7, [.ref z0, .ref z1, .ref z2, .ref z3, .ref z4, .ref z5, .int 0, .int 0, .int 0]))] sz)) (vx_X (fun _ : Unit => True) (fun (E : String) (_ : Unit) (t : State) => E = "java/lang/IndexOutOfBoundsException" ∧ va_P (dC, dI) vwCl [(h0, .inr (7, [.ref z0, .ref z1, .ref z2, .ref z3, .ref z4, .ref z5, .int 0, .int 0, .int 0]))] t.heap ∧ va_K (dC, dI) vwCl [] t ∧ va_D (va_A [(h0, .inr (7, [.ref z0, .ref z1, .ref z2, .ref z3, .ref z4, .ref z5, .int 0, .int 0, .int 0]))] sz) [(h0, .inr (7, [.ref z0, .ref z1, .ref z2, .ref z3, .ref z4, .ref z5, .int 0, .int 0, .int 0]))]) (va_A [(h0, .inr (7, [.ref z0, .ref z1, .ref z2, .ref z3, .ref z4, .ref z5, .int 0, .int 0, .int 0]))] sz)) 1 6 (va_A [(h0, .inr (7, [.ref z0, .ref z1, .ref z2, .ref z3, .ref z4, .ref z5, .int 0, .int 0, .int 0]))] sz) := by
  refine vx_ofW (cc := cX3_count) (maxL := 5) (ret := (some .int)) (by decide) rfl ?_
  intro p e s m args below meth c s₁ B hml ht9 hv
  obtain ⟨rfl, hsz, hP, hK, hD0, hG⟩ := hv
  have hx := B.exec
  have hb := B.bytes
  have hr := B.returns
  have hts := atoms_spec (ws := wsX3_count) B.pre
  have hown : s.vm.findClass RX3 = some m.cls := findClass_of_methodNamed B.named
  have hlocks := B.notSynchronized
  subst hsz
  have hD := hD0.self (sz := s.heap.size)
  generalize hAe : va_A [(h0, .inr (7, [.ref z0, .ref z1, .ref z2, .ref z3, .ref z4, .ref z5, .int 0, .int 0, .int 0]))] s.heap.size = A at hD hG ⊢
  obtain ⟨⟨g_AO_Text, g_AO_String, g_AO_Object, g_nm_RX1_20, g_nm_RX0_17, g_nm_RX3_31, g_nm_RX2_44, g_nm_RL_121, g_nf_RL_13, g_nf_RL_47, g_ca_IO, g_ca_IA, g_ca_IS, g_ca_IntObj, g_ca_StrObj, g_de_RT, g_de_EX, g_de_TH, g_nc_IA_IO, g_nc_IS_IO, g_nc_IS_IA⟩, ⟨g_s3, g_s5, g_sa, g_x278, g_x280, g_x282, g_x284, g_x286, g_x180, g_x238, g_x250⟩, ⟨g_o5, g_c5, g_v5, g_t5, g_oa, g_ca, g_va, g_ta, g_zc, g_zd, g_td, g_zf, g_zU, g_zN, g_zh, g_zk, g_tk, g_oi, g_vi⟩⟩ := id hG
  have hA : ∀ q : Nat, s.heap.size ≤ q → A q := fun q h => by rw [← hAe]; exact Or.inr h
  have hS : va_S A s.heap s.heap [] := va_S.rf
  have hP : va_P (dC, dI) vwCl [(h0, .inr (7, [.ref z0, .ref z1, .ref z2, .ref z3, .ref z4, .ref z5, .int 0, .int 0, .int 0]))] s.heap := hP
  have hl := lv_entry ([.ref h0, .int i0, .int i1]) (n := 5) (Nat.le_of_ble_eq_true rfl)
  rw [lg_entry_eq]
  generalize (lg_sl ([.ref h0, .int i0, .int i1]) ++ List.replicate (5 - (lg_sl ([.ref h0, .int i0, .int i1])).length) Slot.unset).toArray = ls at hl ⊢
  have hl : lv_has ls 5 [(0, .ref h0), (1, .int i0), (2, .int i1)] := hl
  refine lv_iload_n hx hb dX3_count_0 rfl (lv_at hl 1 rfl) ?_
  have hPc := hP.sub (ws' := []) [] rfl
  have hDc := hD.sub (ws' := []) [] (by decide) rfl
  have hKc := hK.sub (tys' := []) [] rfl
  have hFc := va_free (wc := []) hD hS hA [] rfl
  refine va_callv (va_runS (As := [.int i0]) (rest := []) ⟨hx, hb, hml, hown, hts⟩ (kx_X3_needRope_4 l dC dI s.heap.size i0 i0_l i0_u) (cwS 1 hts gX3_count_X3_needRope rfl rfl rfl (by decide +kernel) ⟨Nat.le_of_ble_eq_true rfl, Nat.le_of_ble_eq_true rfl⟩) ⟨fun a U g mk q => by obtain ⟨q0, q1, qP, qK, qD⟩ := q; exact ⟨q0, q1, qP, va_K.moved (u := U) (U := U.calling g mk a) (Vm.Alike.refl U.vm) qK, qD⟩, fun U hU hW => ⟨rfl, by rw [hU], by rw [hU]; exact hPc, va_K.moved hW.alike hKc, hDc.weaken (fun _ _ _ _ => trivial)⟩⟩ rfl rfl hl.1 rfl (lv_room (Nat.le_of_ble_eq_true rfl)) dX3_count_1 ⟨Nat.le_of_ble_eq_true rfl, Nat.le_of_ble_eq_true rfl⟩) hS (fun q _ h => hFc q h) hFc (fun u t H1 locs ht hvm hw hB hz1 hk1 hS => ?_)
  obtain ⟨hP1, hK1, hD1⟩ := hB
  rw [ht] at hP1
  have hK1 := va_K.moved hvm.symm hK1
  obtain ⟨hP, hD⟩ := va_join (wr := [(h0, .inr (7, [.ref z0, .ref z1, .ref z2, .ref z3, .ref z4, .ref z5, .int 0, .int 0, .int 0]))]) (w1 := []) hP hD [] [0] rfl rfl (by decide) (by decide) hk1 hFc hP1 hD1
  generalize H1 = H at hP hS ⊢
  have hP : va_P (dC, dI) vwCl [(h0, .inr (7, [.ref z0, .ref z1, .ref z2, .ref z3, .ref z4, .ref z5, .int 0, .int 0, .int 0]))] H := hP
  have hD : va_D A [(h0, .inr (7, [.ref z0, .ref z1, .ref z2, .ref z3, .ref z4, .ref z5, .int 0, .int 0, .int 0]))] := hD
  refine lv_iload_n hx hb dX3_count_4 rfl (lv_at hl 2 rfl) ?_
  have hPc := hP.sub (ws' := []) [] rfl
  have hDc := hD.sub (ws' := []) [] (by decide) rfl
  have hKc := hK.sub (tys' := []) [] rfl
  have hFc := va_free (wc := []) hD hS hA [] rfl
  refine vx_callv (vx_runS (As := [.int i1]) (rest := []) ⟨hx, hb, hml, hown, hts⟩ (kx_X3_needRope_6 l hst dC dI ge5 gea gv5 gva gde gic gi0 H.size i1 i1_l i1_u) (cwS 1 hts gX3_count_X3_needRope rfl rfl rfl (by decide +kernel) ⟨Nat.le_of_ble_eq_true rfl, Nat.le_of_ble_eq_true rfl⟩) ⟨fun a U g mk q => by obtain ⟨q0, q1, qP, qK, qD, qG⟩ := q; exact ⟨q0, q1, qP, va_K.moved (u := U) (U := U.calling g mk a) (Vm.Alike.refl U.vm) qK, qD, gv.fb qG⟩, fun U hU hW => ⟨rfl, by rw [hU], by rw [hU]; exact hPc, va_K.moved hW.alike hKc, hDc.weaken (fun _ _ _ _ => trivial), gv.pass hW hU hS hFc hG⟩⟩ rfl rfl hl.1 rfl (lv_room (Nat.le_of_ble_eq_true rfl)) dX3_count_5 ⟨Nat.le_of_ble_eq_true rfl, Nat.le_of_ble_eq_true rfl⟩) hS (fun q _ h => hFc q h) hFc (fun q _ h => hFc q h) (fun E ce q9 u t H1 locs ht hvm hpx hB hz1 hk1 hS hce hcv hcl => ?_) (fun u t H1 locs ht hvm hw hB hz1 hk1 hS => hw.elim)
  obtain ⟨rfl, hP1, hK1, hD1⟩ := hB
  rw [ht] at hP1
  have hK1 := va_K.moved hvm.symm hK1
  obtain ⟨hP, hD⟩ := va_join (wr := [(h0, .inr (7, [.ref z0, .ref z1, .ref z2, .ref z3, .ref z4, .ref z5, .int 0, .int 0, .int 0]))]) (w1 := []) hP hD [] [0] rfl rfl (by decide) (by decide) hk1 hFc hP1 hD1
  generalize H1 = H at hP hS hce ⊢
  have hP : va_P (dC, dI) vwCl [(h0, .inr (7, [.ref z0, .ref z1, .ref z2, .ref z3, .ref z4, .ref z5, .int 0, .int 0, .int 0]))] H := hP
  have hD : va_D A [(h0, .inr (7, [.ref z0, .ref z1, .ref z2, .ref z3, .ref z4, .ref z5, .int 0, .int 0, .int 0]))] := hD
  exact vx_out (fun x hx9 => (ht9 x hx9).elim) hlocks hce hcv hcl (fun t ht hW => ⟨(), trivial, ⟨rfl, by rw [ht]; exact hP, va_K.moved hW hK, hD⟩, hS.F ht⟩) hS.2.2 (by omega) (by omega)
set_option maxHeartbeats 4000000 in
set_option maxRecDepth 100000 in
theorem kx_L_count_2 (l : Launch) (hst : l.stackTraces = false) (dC : Nat → ClassId) (dI : Nat → Nat → Nat) (ge5 gea gv5 gva gde gic gi0 : Nat) (h0 : Nat) (z0 : Nat) (z1 : Nat) (z2 : Nat) (z3 : Nat) (z4 : Nat) (z5 : Nat) (z6 : Nat) (sz : Nat) (i0 : Int32) (i0_l : (0 : Int) ≤ i0.toInt) (i0_u : i0.toInt ≤ (3 : Int)) (i1 : Int32) (i1_l : (4 : Int) ≤ i1.toInt) (i1_u : i1.toInt ≤ (2147483647 : Int)) : Met l yL_count wsL_count ({ frames := 8, cells := 1, slots := 6, locals := 164 }) (va_Pc [.ref h0, .int i0, .int i1, .ref z0] (fun U => U.heap.size = sz ∧ va_P (dC, dI) vwCl [(h0, .inr (7, [.ref z1, .ref z2, .ref z3, .ref z4, .ref z5, .ref z6, .int 0, .int 0, .int 0]))] U.heap ∧ va_K (dC, dI) vwCl [] U ∧ va_D (fun _ => True) [(h0, .inr (7, [.ref z1, .ref z2, .ref z3, .ref z4, .ref z5, .ref z6, .int 0, .int 0, .int 0]))] ∧ gv ge5 gea gv5 gva gde gic gi0 (va_A [(h0, .inr (7, [.ref z1, .ref z2, .ref z3, .ref z4, .ref z5, .ref z6, .int 0, .int 0, .int 0]))] sz) U U.heap)) (va_Qi (fun (r : Int32) (_ : Unit) => r = 1) (fun (_ : Unit) (t : State) => va_P (dC, dI) vwCl [(h0, .inr (7, [.ref z1, .ref z2, .ref z3, .ref z4, .ref z5, .ref z6, .int 0, .int 0, .int 0]))] t.heap ∧ va_K (dC, dI) vwCl [] t ∧ va_D (va_A [(h0, .inr (7, [.ref z1, .ref z2, .ref z3, .ref z4, .ref z5, .ref z6, .int 0, .int 0, .int 0]))] sz) [(h0, .inr (7, [.ref z1, .ref z2, .ref z3, .ref z4, .ref z5, .ref z6, .int 0, .int 0, .int 0]))]) (va_A [(h0, .inr (7, [.ref z1, .ref z2, .ref z3, .ref z4, .ref z5, .ref z6, .int 0, .int 0, .int 0]))] sz)) 1 6 (va_A [(h0, .inr (7, [.ref z1, .ref z2, .ref z3, .ref z4, .ref z5, .ref z6, .int 0, .int 0, .int 0]))] sz) := by
  refine kz_ofWH (cc := cL_count) (maxL := 5) (ret := (some .int)) (hh := [(0, 11, 14, 19)]) (by decide) rfl ?_
  intro p e s m args below meth c s₁ B hml hv
  obtain ⟨rfl, hsz, hP, hK, hD0, hG⟩ := hv
  have hx := B.exec
  have hb := B.bytes
  have hr := B.returns
  have hts := atoms_spec (ws := wsL_count) B.pre
  have hown : s.vm.findClass RL = some m.cls := findClass_of_methodNamed B.named
  have htab := vx_table (x := yL_count) B (hts (.codeWith yL_count cL_count 5 (some .int) [(0, 11, 14, 19)]) (by decide +kernel))
  have hlocks := B.notSynchronized
  subst hsz
  have hD := hD0.self (sz := s.heap.size)
  generalize hAe : va_A [(h0, .inr (7, [.ref z1, .ref z2, .ref z3, .ref z4, .ref z5, .ref z6, .int 0, .int 0, .int 0]))] s.heap.size = A at hD hG ⊢
  obtain ⟨⟨g_AO_Text, g_AO_String, g_AO_Object, g_nm_RX1_20, g_nm_RX0_17, g_nm_RX3_31, g_nm_RX2_44, g_nm_RL_121, g_nf_RL_13, g_nf_RL_47, g_ca_IO, g_ca_IA, g_ca_IS, g_ca_IntObj, g_ca_StrObj, g_de_RT, g_de_EX, g_de_TH, g_nc_IA_IO, g_nc_IS_IO, g_nc_IS_IA⟩, ⟨g_s3, g_s5, g_sa, g_x278, g_x280, g_x282, g_x284, g_x286, g_x180, g_x238, g_x250⟩, ⟨g_o5, g_c5, g_v5, g_t5, g_oa, g_ca, g_va, g_ta, g_zc, g_zd, g_td, g_zf, g_zU, g_zN, g_zh, g_zk, g_tk, g_oi, g_vi⟩⟩ := id hG
  have hA : ∀ q : Nat, s.heap.size ≤ q → A q := fun q h => by rw [← hAe]; exact Or.inr h
  have hS : va_S A s.heap s.heap [] := va_S.rf
  have hP : va_P (dC, dI) vwCl [(h0, .inr (7, [.ref z1, .ref z2, .ref z3, .ref z4, .ref z5, .ref z6, .int 0, .int 0, .int 0]))] s.heap := hP
  have hl := lv_entry ([.ref h0, .int i0, .int i1, .ref z0]) (n := 5) (Nat.le_of_ble_eq_true rfl)
  rw [lg_entry_eq]
  generalize (lg_sl ([.ref h0, .int i0, .int i1, .ref z0]) ++ List.replicate (5 - (lg_sl ([.ref h0, .int i0, .int i1, .ref z0])).length) Slot.unset).toArray = ls at hl ⊢
  have hl : lv_has ls 5 [(0, .ref h0), (1, .int i0), (2, .int i1), (3, .ref z0)] := hl
  refine lv_aload_n hx hb dL_count_0 rfl (lv_at hl 3 rfl) ?_
  refine lv_aload_n hx hb dL_count_1 rfl (lv_at hl 0 rfl) ?_
  refine lv_iload_n hx hb dL_count_2 rfl (lv_at hl 1 rfl) ?_
  refine lv_iload_n hx hb dL_count_3 rfl (lv_at hl 2 rfl) ?_
  have hPc := hP.sub (ws' := [(h0, .inr (7, [.ref z1, .ref z2, .ref z3, .ref z4, .ref z5, .ref z6, .int 0, .int 0, .int 0]))]) [0] rfl
  have hDc := hD.sub (ws' := [(h0, .inr (7, [.ref z1, .ref z2, .ref z3, .ref z4, .ref z5, .ref z6, .int 0, .int 0, .int 0]))]) [0] (by decide) rfl
  have hKc := hK.sub (tys' := []) [] rfl
  have hFc := va_free (wc := [(h0, .inr (7, [.ref z1, .ref z2, .ref z3, .ref z4, .ref z5, .ref z6, .int 0, .int 0, .int 0]))]) hD hS hA [0] rfl
  refine vx_calli (vx_runV (As := [.int i0, .int i1]) (rest := [.ref z0]) ⟨hx, hb, hml, hown, hts⟩ (kx_X3_count_17 l hst dC dI ge5 gea gv5 gva gde gic gi0 h0 z1 z2 z3 z4 z5 z6 s.heap.size i0 i0_l i0_u i1 i1_l i1_u) (cwV 2 hts gL_count_X3_count rfl rfl rfl (by decide +kernel) ⟨Nat.le_of_ble_eq_true rfl, Nat.le_of_ble_eq_true rfl⟩) ⟨fun a U g mk q => by obtain ⟨q0, q1, qP, qK, qD, qG⟩ := q; exact ⟨q0, q1, qP, va_K.moved (u := U) (U := U.calling g mk a) (Vm.Alike.refl U.vm) qK, qD, gv.fb qG⟩, va_recv hKc hPc (ci := 7) (q0 := 0) rfl rfl, fun U hU hW => ⟨rfl, by rw [hU], by rw [hU]; exact hPc, va_K.moved hW.alike hKc, hDc.weaken (fun _ _ _ _ => trivial), gv.pass hW hU hS hFc hG⟩⟩ rfl rfl hl.1 rfl (lv_room (Nat.le_of_ble_eq_true rfl)) dL_count_4 ⟨Nat.le_of_ble_eq_true rfl, Nat.le_of_ble_eq_true rfl⟩) hS (fun q _ h => hFc q h) hFc (fun q _ h => hFc q h) (fun E ce q9 u t H1 locs ht hvm hpx hB hz1 hk1 hS hce hcv hcl => ?_) (fun r9 u t H1 locs ht hvm hw hB hz1 hk1 hS => hw.elim)
  obtain ⟨rfl, hP1, hK1, hD1⟩ := hB
  rw [ht] at hP1
  have hK1 := va_K.moved hvm.symm hK1
  obtain ⟨hP, hD⟩ := va_join (wr := []) (w1 := [(h0, .inr (7, [.ref z1, .ref z2, .ref z3, .ref z4, .ref z5, .ref z6, .int 0, .int 0, .int 0]))]) hP hD [0] [] rfl rfl (by decide) (by decide) hk1 hFc hP1 hD1
  generalize H1 = H at hP hS hce ⊢
  have hP : va_P (dC, dI) vwCl [(h0, .inr (7, [.ref z1, .ref z2, .ref z3, .ref z4, .ref z5, .ref z6, .int 0, .int 0, .int 0]))] H := hP
  have hD : va_D A [(h0, .inr (7, [.ref z1, .ref z2, .ref z3, .ref z4, .ref z5, .ref z6, .int 0, .int 0, .int 0]))] := hD
  refine vx_catch (own := RL) (name := "java/lang/IndexOutOfBoundsException") hown (tableOf []) ⟨0, 11, 14, 19⟩ (tableOf []) (by rw [htab]; rfl) (fun z hz => nomatch hz) (by decide +kernel) (by decide) (hts (.classLink RL 19 "java/lang/IndexOutOfBoundsException") (by decide +kernel)) (va_Nw.use rfl g_ca_IO) hce hcv hcl ?_
  refine W.eq (g2 := F0 m 14 ls [.ref q9]) rfl ?_
  refine lv_astore (lv' := [(4, .ref q9), (0, .ref h0), (1, .int i0), (2, .int i1), (3, .ref z0)]) hx hb dL_count_14 hl (by decide) rfl (fun ls hl => ?_)
  refine lv_iconst (v := 1) hx hb dL_count_16 (by decide) ?_
  exact W.iret (v := 1) hx hb hr (fun t ht hW => ⟨⟨1, (), rfl, rfl, by rw [ht]; exact hP, va_K.moved hW.alike hK, hD⟩, hS.F ht⟩) hS.2.2 dL_count_17
set_option maxHeartbeats 4000000 in
set_option maxRecDepth 100000 in
theorem kx_X5_count_2 (l : Launch) (dC : Nat → ClassId) (dI : Nat → Nat → Nat) (h0 : Nat) (z0 : Nat) (z1 : Nat) (z2 : Nat) (sz : Nat) (i0 : Int32) (i0_l : (0 : Int) ≤ i0.toInt) (i0_u : i0.toInt ≤ (3 : Int)) (i1 : Int32) (i1_l : (4 : Int) ≤ i1.toInt) (i1_u : i1.toInt ≤ (2147483647 : Int)) : Met l yX5_count wsX5_count ({ frames := 2, cells := 0, slots := 0, locals := 42 }) (va_Pc [.ref h0, .int i0, .int i1] (fun U => U.heap.size = sz ∧ va_P (dC, dI) vwCl [(h0, .inr (9, [.int 0, .ref z0, .ref z1, .ref z2, .int 0, .int 0, .int 0]))] U.heap ∧ va_K (dC, dI) vwCl [] U ∧ va_D (fun _ => True) [(h0, .inr (9, [.int 0, .ref z0, .ref z1, .ref z2, .int 0, .int 0, .int 0]))])) (va_Qi (fun (r : Int32) (_ : Unit) => r = 0) (fun (_ : Unit) (t : State) => va_P (dC, dI) vwCl [(h0, .inr (9, [.int 1, .ref z0, .ref z1, .ref z2, .int 0, .int 0, .int 0]))] t.heap ∧ va_K (dC, dI) vwCl [] t ∧ va_D (va_A [(h0, .inr (9, [.int 0, .ref z0, .ref z1, .ref z2, .int 0, .int 0, .int 0]))] sz) [(h0, .inr (9, [.int 1, .ref z0, .ref z1, .ref z2, .int 0, .int 0, .int 0]))]) (va_A [(h0, .inr (9, [.int 0, .ref z0, .ref z1, .ref z2, .int 0, .int 0, .int 0]))] sz)) 0 0 (va_A [(h0, .inr (9, [.int 0, .ref z0, .ref z1, .ref z2, .int 0, .int 0, .int 0]))] sz) := by
  refine Met.ofW (cc := cX5_count) (maxL := 3) (ret := (some .int)) (by decide) rfl ?_
  intro p e s m args below meth c s₁ B hml hv
  obtain ⟨rfl, hsz, hP, hK, hD0⟩ := hv
  have hx := B.exec
  have hb := B.bytes
  have hr := B.returns
  have hts := atoms_spec (ws := wsX5_count) B.pre
  have hown : s.vm.findClass RX5 = some m.cls := findClass_of_methodNamed B.named
  have hlocks := B.notSynchronized
  subst hsz
  have hD := hD0.self (sz := s.heap.size)
  generalize hAe : va_A [(h0, .inr (9, [.int 0, .ref z0, .ref z1, .ref z2, .int 0, .int 0, .int 0]))] s.heap.size = A at hD ⊢
  have hA : ∀ q : Nat, s.heap.size ≤ q → A q := fun q h => by rw [← hAe]; exact Or.inr h
  have hS : va_S A s.heap s.heap [] := va_S.rf
  have hP : va_P (dC, dI) vwCl [(h0, .inr (9, [.int 0, .ref z0, .ref z1, .ref z2, .int 0, .int 0, .int 0]))] s.heap := hP
  have hl := lv_entry ([.ref h0, .int i0, .int i1]) (n := 3) (Nat.le_of_ble_eq_true rfl)
  rw [lg_entry_eq]
  generalize (lg_sl ([.ref h0, .int i0, .int i1]) ++ List.replicate (3 - (lg_sl ([.ref h0, .int i0, .int i1])).length) Slot.unset).toArray = ls at hl ⊢
  have hl : lv_has ls 3 [(0, .ref h0), (1, .int i0), (2, .int i1)] := hl
  refine lv_aload_n hx hb dX5_count_0 rfl (lv_at hl 0 rfl) ?_
  refine lv_iload_n hx hb dX5_count_1 rfl (lv_at hl 1 rfl) ?_
  have hPc := hP.sub (ws' := []) [] rfl
  have hDc := hD.sub (ws' := []) [] (by decide) rfl
  have hKc := hK.sub (tys' := []) [] rfl
  have hFc := va_free (wc := []) hD hS hA [] rfl
  refine va_calli (va_runS (As := [.int i0]) (rest := [.ref h0]) ⟨hx, hb, hml, hown, hts⟩ (kx_X5_isNo_1 l dC dI s.heap.size i0 i0_l i0_u) (cwS 1 hts gX5_count_X5_isNo rfl rfl rfl (by decide +kernel) ⟨Nat.le_of_ble_eq_true rfl, Nat.le_of_ble_eq_true rfl⟩) ⟨fun a U g mk q => by obtain ⟨q0, q1, qP, qK, qD⟩ := q; exact ⟨q0, q1, qP, va_K.moved (u := U) (U := U.calling g mk a) (Vm.Alike.refl U.vm) qK, qD⟩, fun U hU hW => ⟨rfl, by rw [hU], by rw [hU]; exact hPc, va_K.moved hW.alike hKc, hDc.weaken (fun _ _ _ _ => trivial)⟩⟩ rfl rfl hl.1 rfl (lv_room (Nat.le_of_ble_eq_true rfl)) dX5_count_2 ⟨Nat.le_of_ble_eq_true rfl, Nat.le_of_ble_eq_true rfl⟩) hS (fun q _ h => hFc q h) hFc (fun r9 u t H1 locs ht hvm hw hB hz1 hk1 hS => ?_)
  obtain rfl := hw
  obtain ⟨hP1, hK1, hD1⟩ := hB
  rw [ht] at hP1
  have hK1 := va_K.moved hvm.symm hK1
  obtain ⟨hP, hD⟩ := va_join (wr := [(h0, .inr (9, [.int 0, .ref z0, .ref z1, .ref z2, .int 0, .int 0, .int 0]))]) (w1 := []) hP hD [] [0] rfl rfl (by decide) (by decide) hk1 hFc hP1 hD1
  generalize H1 = H at hP hS ⊢
  have hP : va_P (dC, dI) vwCl [(h0, .inr (9, [.int 0, .ref z0, .ref z1, .ref z2, .int 0, .int 0, .int 0]))] H := hP
  have hD : va_D A [(h0, .inr (9, [.int 0, .ref z0, .ref z1, .ref z2, .int 0, .int 0, .int 0]))] := hD
  refine lv_if_ne (tgt := 15) hx hb dX5_count_5 (by decide) (fun c9 => absurd (by decide) c9) (fun _ => ?_)
  refine lv_iload_n hx hb dX5_count_8 rfl (lv_at hl 2 rfl) ?_
  have hPc := hP.sub (ws' := []) [] rfl
  have hDc := hD.sub (ws' := []) [] (by decide) rfl
  have hKc := hK.sub (tys' := []) [] rfl
  have hFc := va_free (wc := []) hD hS hA [] rfl
  refine va_calli (va_runS (As := [.int i1]) (rest := [.ref h0]) ⟨hx, hb, hml, hown, hts⟩ (kx_X5_isNo_2 l dC dI H.size i1 i1_l i1_u) (cwS 1 hts gX5_count_X5_isNo rfl rfl rfl (by decide +kernel) ⟨Nat.le_of_ble_eq_true rfl, Nat.le_of_ble_eq_true rfl⟩) ⟨fun a U g mk q => by obtain ⟨q0, q1, qP, qK, qD⟩ := q; exact ⟨q0, q1, qP, va_K.moved (u := U) (U := U.calling g mk a) (Vm.Alike.refl U.vm) qK, qD⟩, fun U hU hW => ⟨rfl, by rw [hU], by rw [hU]; exact hPc, va_K.moved hW.alike hKc, hDc.weaken (fun _ _ _ _ => trivial)⟩⟩ rfl rfl hl.1 rfl (lv_room (Nat.le_of_ble_eq_true rfl)) dX5_count_9 ⟨Nat.le_of_ble_eq_true rfl, Nat.le_of_ble_eq_true rfl⟩) hS (fun q _ h => hFc q h) hFc (fun r9 u t H1 locs ht hvm hw hB hz1 hk1 hS => ?_)
  obtain rfl := hw
  obtain ⟨hP1, hK1, hD1⟩ := hB
  rw [ht] at hP1
  have hK1 := va_K.moved hvm.symm hK1
  obtain ⟨hP, hD⟩ := va_join (wr := [(h0, .inr (9, [.int 0, .ref z0, .ref z1, .ref z2, .int 0, .int 0, .int 0]))]) (w1 := []) hP hD [] [0] rfl rfl (by decide) (by decide) hk1 hFc hP1 hD1
  generalize H1 = H at hP hS ⊢
  have hP : va_P (dC, dI) vwCl [(h0, .inr (9, [.int 0, .ref z0, .ref z1, .ref z2, .int 0, .int 0, .int 0]))] H := hP
  have hD : va_D A [(h0, .inr (9, [.int 0, .ref z0, .ref z1, .ref z2, .int 0, .int 0, .int 0]))] := hD
  refine lv_if_eq (tgt := 19) hx hb dX5_count_12 (by decide) (fun c9 => absurd c9 (by decide)) (fun _ => ?_)
  refine lv_iconst (v := 1) hx hb dX5_count_15 (by decide) ?_
  refine lv_goto (tgt := 20) hx hb dX5_count_16 (by decide) ?_
  refine lv_iconst (v := 0) hx hb dX5_count_20 (by decide) ?_
  refine lv_iconst (v := 0) hx hb dX5_count_21 (by decide) ?_
  have hPc := hP.sub (ws' := [(h0, .inr (9, [.int 0, .ref z0, .ref z1, .ref z2, .int 0, .int 0, .int 0]))]) [0] rfl
  have hDc := hD.sub (ws' := [(h0, .inr (9, [.int 0, .ref z0, .ref z1, .ref z2, .int 0, .int 0, .int 0]))]) [0] (by decide) rfl
  have hKc := hK.sub (tys' := []) [] rfl
  have hFc := va_free (wc := [(h0, .inr (9, [.int 0, .ref z0, .ref z1, .ref z2, .int 0, .int 0, .int 0]))]) hD hS hA [0] rfl
  refine va_calli (va_runV (As := [.int 1, .int 0, .int 0]) (rest := []) ⟨hx, hb, hml, hown, hts⟩ (kx_X5_fails_0 l dC dI h0 z0 z1 z2 H.size) (cwV 3 hts gX5_count_X5_fails rfl rfl rfl (by decide +kernel) ⟨Nat.le_of_ble_eq_true rfl, Nat.le_of_ble_eq_true rfl⟩) ⟨fun a U g mk q => by obtain ⟨q0, q1, qP, qK, qD⟩ := q; exact ⟨q0, q1, qP, va_K.moved (u := U) (U := U.calling g mk a) (Vm.Alike.refl U.vm) qK, qD⟩, va_recv hKc hPc (ci := 9) (q0 := 0) rfl rfl, fun U hU hW => ⟨rfl, by rw [hU], by rw [hU]; exact hPc, va_K.moved hW.alike hKc, hDc.weaken (fun _ _ _ _ => trivial)⟩⟩ rfl rfl hl.1 rfl (lv_room (Nat.le_of_ble_eq_true rfl)) dX5_count_22 ⟨Nat.le_of_ble_eq_true rfl, Nat.le_of_ble_eq_true rfl⟩) hS (fun q _ h => hFc q h) hFc (fun r9 u t H1 locs ht hvm hw hB hz1 hk1 hS => ?_)
  obtain rfl := hw
  obtain ⟨hP1, hK1, hD1⟩ := hB
  rw [ht] at hP1
  have hK1 := va_K.moved hvm.symm hK1
  obtain ⟨hP, hD⟩ := va_join (wr := []) (w1 := [(h0, .inr (9, [.int 1, .ref z0, .ref z1, .ref z2, .int 0, .int 0, .int 0]))]) hP hD [0] [] rfl rfl (by decide) (by decide) hk1 hFc hP1 hD1
  generalize H1 = H at hP hS ⊢
  have hP : va_P (dC, dI) vwCl [(h0, .inr (9, [.int 1, .ref z0, .ref z1, .ref z2, .int 0, .int 0, .int 0]))] H := hP
  have hD : va_D A [(h0, .inr (9, [.int 1, .ref z0, .ref z1, .ref z2, .int 0, .int 0, .int 0]))] := hD
  refine lv_if_eq (tgt := 32) hx hb dX5_count_25 (by decide) (fun c9 => absurd c9 (by decide)) (fun _ => ?_)
  refine lv_iconst (v := 0) hx hb dX5_count_28 (by decide) ?_
  refine lv_goto (tgt := 50) hx hb dX5_count_29 (by decide) ?_
  exact W.iret (v := 0) hx hb hr (fun t ht hW => ⟨⟨0, (), rfl, rfl, by rw [ht]; exact hP, va_K.moved hW.alike hK, hD⟩, hS.F ht⟩) hS.2.2 dX5_count_50
set_option maxHeartbeats 4000000 in
set_option maxRecDepth 100000 in
theorem kx_X3_count_18 (l : Launch) (hst : l.stackTraces = false) (dC : Nat → ClassId) (dI : Nat → Nat → Nat) (ge5 gea gv5 gva gde gic gi0 : Nat) (h0 : Nat) (z0 : Nat) (z1 : Nat) (z2 : Nat) (z3 : Nat) (z4 : Nat) (z5 : Nat) (sz : Nat) (i0 : Int32) (i0_l : ((-2147483648) : Int) ≤ i0.toInt) (i0_u : i0.toInt ≤ ((-1) : Int)) (i1 : Int32) (i1_l : ((-2147483648) : Int) ≤ i1.toInt) (i1_u : i1.toInt ≤ (2147483647 : Int)) : vx_Met l yX3_count wsX3_count ({ frames := 7, cells := 1, slots := 6, locals := 140 }) (va_Pc [.ref h0, .int i0, .int i1] (fun U => U.heap.size = sz ∧ va_P (dC, dI) vwCl [(h0, .inr (7, [.ref z0, .ref z1, .ref z2, .ref z3, .ref z4, .ref z5, .int 0, .int 0, .int 0]))] U.heap ∧ va_K (dC, dI) vwCl [] U ∧ va_D (fun _ => True) [(h0, .inr (7, [.ref z0, .ref z1, .ref z2, .ref z3, .ref z4, .ref z5, .int 0, .int 0, .int 0]))] ∧ gv ge5 gea gv5 gva gde gic gi0 (va_A [(h0, .inr (7, [.ref z0, .ref z1, .ref z2, .ref z3, .ref z4, .ref z5, .int 0, .int 0, .int 0]))] sz) U U.heap)) (va_Qi (fun (_ : Int32) (_ : Unit) => False) (fun _ _ => True) (va_A [(h0, .inr (7, [.ref z0, .ref z1, .ref z2, .ref z3, .ref z4, .ref z5, .int 0, .int 0, .int 0]))] sz)) (vx_X (fun _ : Unit => True) (fun (E : String) (_ : Unit) (t : State) => E = "java/lang/IndexOutOfBoundsException" ∧ va_P (dC, dI) vwCl [(h0, .inr (7, [.ref z0, .ref z1, .ref z2, .ref z3, .ref z4, .ref z5, .int 0, .int 0, .int 0]))] t.heap ∧ va_K (dC, dI) vwCl [] t ∧ va_D (va_A [(h0, .inr (7, [.ref z0, .ref z1, .ref z2, .ref z3, .ref z4, .ref z5, .int 0, .int 0, .int 0]))] sz) [(h0, .inr (7, [.ref z0, .ref z1, .ref z2, .ref z3, .ref z4, .ref z5, .int 0, .int 0, .int 0]))]) (va_A [(h0, .inr (7, [.ref z0, .ref z1, .ref z2, .ref z3, .ref z4, .ref z5, .int 0, .int 0, .int 0]))] sz)) 1 6 (va_A [(h0, .inr (7, [.ref z0, .ref z1, .ref z2, .ref z3, .ref z4, .ref z5, .int 0, .int 0, .int 0]))] sz) := by
  refine vx_ofW (cc := cX3_count) (maxL := 5) (ret := (some .int)) (by decide) rfl ?_
  intro p e s m args below meth c s₁ B hml ht9 hv
  obtain ⟨rfl, hsz, hP, hK, hD0, hG⟩ := hv
  have hx := B.exec
  have hb := B.bytes
  have hr := B.returns
  have hts := atoms_spec (ws := wsX3_count) B.pre
  have hown : s.vm.findClass RX3 = some m.cls := findClass_of_methodNamed B.named
  have hlocks := B.notSynchronized
  subst hsz
  have hD := hD0.self (sz := s.heap.size)
  generalize hAe : va_A [(h0, .inr (7, [.ref z0, .ref z1, .ref z2, .ref z3, .ref z4, .ref z5, .int 0, .int 0, .int 0]))] s.heap.size = A at hD hG ⊢
  obtain ⟨⟨g_AO_Text, g_AO_String, g_AO_Object, g_nm_RX1_20, g_nm_RX0_17, g_nm_RX3_31, g_nm_RX2_44, g_nm_RL_121, g_nf_RL_13, g_nf_RL_47, g_ca_IO, g_ca_IA, g_ca_IS, g_ca_IntObj, g_ca_StrObj, g_de_RT, g_de_EX, g_de_TH, g_nc_IA_IO, g_nc_IS_IO, g_nc_IS_IA⟩, ⟨g_s3, g_s5, g_sa, g_x278, g_x280, g_x282, g_x284, g_x286, g_x180, g_x238, g_x250⟩, ⟨g_o5, g_c5, g_v5, g_t5, g_oa, g_ca, g_va, g_ta, g_zc, g_zd, g_td, g_zf, g_zU, g_zN, g_zh, g_zk, g_tk, g_oi, g_vi⟩⟩ := id hG
  have hA : ∀ q : Nat, s.heap.size ≤ q → A q := fun q h => by rw [← hAe]; exact Or.inr h
  have hS : va_S A s.heap s.heap [] := va_S.rf
  have hP : va_P (dC, dI) vwCl [(h0, .inr (7, [.ref z0, .ref z1, .ref z2, .ref z3, .ref z4, .ref z5, .int 0, .int 0, .int 0]))] s.heap := hP
  have hl := lv_entry ([.ref h0, .int i0, .int i1]) (n := 5) (Nat.le_of_ble_eq_true rfl)
  rw [lg_entry_eq]
  generalize (lg_sl ([.ref h0, .int i0, .int i1]) ++ List.replicate (5 - (lg_sl ([.ref h0, .int i0, .int i1])).length) Slot.unset).toArray = ls at hl ⊢
  have hl : lv_has ls 5 [(0, .ref h0), (1, .int i0), (2, .int i1)] := hl
  refine lv_iload_n hx hb dX3_count_0 rfl (lv_at hl 1 rfl) ?_
  have hPc := hP.sub (ws' := []) [] rfl
  have hDc := hD.sub (ws' := []) [] (by decide) rfl
  have hKc := hK.sub (tys' := []) [] rfl
  have hFc := va_free (wc := []) hD hS hA [] rfl
  refine vx_callv (vx_runS (As := [.int i0]) (rest := []) ⟨hx, hb, hml, hown, hts⟩ (kx_X3_needRope_5 l hst dC dI ge5 gea gv5 gva gde gic gi0 s.heap.size i0 i0_l i0_u) (cwS 1 hts gX3_count_X3_needRope rfl rfl rfl (by decide +kernel) ⟨Nat.le_of_ble_eq_true rfl, Nat.le_of_ble_eq_true rfl⟩) ⟨fun a U g mk q => by obtain ⟨q0, q1, qP, qK, qD, qG⟩ := q; exact ⟨q0, q1, qP, va_K.moved (u := U) (U := U.calling g mk a) (Vm.Alike.refl U.vm) qK, qD, gv.fb qG⟩, fun U hU hW => ⟨rfl, by rw [hU], by rw [hU]; exact hPc, va_K.moved hW.alike hKc, hDc.weaken (fun _ _ _ _ => trivial), gv.pass hW hU hS hFc hG⟩⟩ rfl rfl hl.1 rfl (lv_room (Nat.le_of_ble_eq_true rfl)) dX3_count_1 ⟨Nat.le_of_ble_eq_true rfl, Nat.le_of_ble_eq_true rfl⟩) hS (fun q _ h => hFc q h) hFc (fun q _ h => hFc q h) (fun E ce q9 u t H1 locs ht hvm hpx hB hz1 hk1 hS hce hcv hcl => ?_) (fun u t H1 locs ht hvm hw hB hz1 hk1 hS => hw.elim)
  obtain ⟨rfl, hP1, hK1, hD1⟩ := hB
  rw [ht] at hP1
  have hK1 := va_K.moved hvm.symm hK1
  obtain ⟨hP, hD⟩ := va_join (wr := [(h0, .inr (7, [.ref z0, .ref z1, .ref z2, .ref z3, .ref z4, .ref z5, .int 0, .int 0, .int 0]))]) (w1 := []) hP hD [] [0] rfl rfl (by decide) (by decide) hk1 hFc hP1 hD1
  generalize H1 = H at hP hS hce ⊢
  have hP : va_P (dC, dI) vwCl [(h0, .inr (7, [.ref z0, .ref z1, .ref z2, .ref z3, .ref z4, .ref z5, .int 0, .int 0, .int 0]))] H := hP
  have hD : va_D A [(h0, .inr (7, [.ref z0, .ref z1, .ref z2, .ref z3, .ref z4, .ref z5, .int 0, .int 0, .int 0]))] := hD
  exact vx_out (fun x hx9 => (ht9 x hx9).elim) hlocks hce hcv hcl (fun t ht hW => ⟨(), trivial, ⟨rfl, by rw [ht]; exact hP, va_K.moved hW hK, hD⟩, hS.F ht⟩) hS.2.2 (by omega) (by omega)
set_option maxHeartbeats 4000000 in
set_option maxRecDepth 100000 in
theorem kx_L_count_3 (l : Launch) (hst : l.stackTraces = false) (dC : Nat → ClassId) (dI : Nat → Nat → Nat) (ge5 gea gv5 gva gde gic gi0 : Nat) (h0 : Nat) (z0 : Nat) (z1 : Nat) (z2 : Nat) (z3 : Nat) (z4 : Nat) (z5 : Nat) (z6 : Nat) (sz : Nat) (i0 : Int32) (i0_l : ((-2147483648) : Int) ≤ i0.toInt) (i0_u : i0.toInt ≤ ((-1) : Int)) (i1 : Int32) (i1_l : ((-2147483648) : Int) ≤ i1.toInt) (i1_u : i1.toInt ≤ (2147483647 : Int)) : Met l yL_count wsL_count ({ frames := 8, cells := 1, slots := 6, locals := 164 }) (va_Pc [.ref h0, .int i0, .int i1, .ref z0] (fun U => U.heap.size = sz ∧ va_P (dC, dI) vwCl [(h0, .inr (7, [.ref z1, .ref z2, .ref z3, .ref z4, .ref z5, .ref z6, .int 0, .int 0, .int 0]))] U.heap ∧ va_K (dC, dI) vwCl [] U ∧ va_D (fun _ => True) [(h0, .inr (7, [.ref z1, .ref z2, .ref z3, .ref z4, .ref z5, .ref z6, .int 0, .int 0, .int 0]))] ∧ gv ge5 gea gv5 gva gde gic gi0 (va_A [(h0, .inr (7, [.ref z1, .ref z2, .ref z3, .ref z4, .ref z5, .ref z6, .int 0, .int 0, .int 0]))] sz) U U.heap)) (va_Qi (fun (r : Int32) (_ : Unit) => r = 1) (fun (_ : Unit) (t : State) => va_P (dC, dI) vwCl [(h0, .inr (7, [.ref z1, .ref z2, .ref z3, .ref z4, .ref z5, .ref z6, .int 0, .int 0, .int 0]))] t.heap ∧ va_K (dC, dI) vwCl [] t ∧ va_D (va_A [(h0, .inr (7, [.ref z1, .ref z2, .ref z3, .ref z4, .ref z5, .ref z6, .int 0, .int 0, .int 0]))] sz) [(h0, .inr (7, [.ref z1, .ref z2, .ref z3, .ref z4, .ref z5, .ref z6, .int 0, .int 0, .int 0]))]) (va_A [(h0, .inr (7, [.ref z1, .ref z2, .ref z3, .ref z4, .ref z5, .ref z6, .int 0, .int 0, .int 0]))] sz)) 1 6 (va_A [(h0, .inr (7, [.ref z1, .ref z2, .ref z3, .ref z4, .ref z5, .ref z6, .int 0, .int 0, .int 0]))] sz) := by
  refine kz_ofWH (cc := cL_count) (maxL := 5) (ret := (some .int)) (hh := [(0, 11, 14, 19)]) (by decide) rfl ?_
  intro p e s m args below meth c s₁ B hml hv
  obtain ⟨rfl, hsz, hP, hK, hD0, hG⟩ := hv
  have hx := B.exec
  have hb := B.bytes
  have hr := B.returns
  have hts := atoms_spec (ws := wsL_count) B.pre
  have hown : s.vm.findClass RL = some m.cls := findClass_of_methodNamed B.named
  have htab := vx_table (x := yL_count) B (hts (.codeWith yL_count cL_count 5 (some .int) [(0, 11, 14, 19)]) (by decide +kernel))
  have hlocks := B.notSynchronized
  subst hsz
  have hD := hD0.self (sz := s.heap.size)
  generalize hAe : va_A [(h0, .inr (7, [.ref z1, .ref z2, .ref z3, .ref z4, .ref z5, .ref z6, .int 0, .int 0, .int 0]))] s.heap.size = A at hD hG ⊢
  obtain ⟨⟨g_AO_Text, g_AO_String, g_AO_Object, g_nm_RX1_20, g_nm_RX0_17, g_nm_RX3_31, g_nm_RX2_44, g_nm_RL_121, g_nf_RL_13, g_nf_RL_47, g_ca_IO, g_ca_IA, g_ca_IS, g_ca_IntObj, g_ca_StrObj, g_de_RT, g_de_EX, g_de_TH, g_nc_IA_IO, g_nc_IS_IO, g_nc_IS_IA⟩, ⟨g_s3, g_s5, g_sa, g_x278, g_x280, g_x282, g_x284, g_x286, g_x180, g_x238, g_x250⟩, ⟨g_o5, g_c5, g_v5, g_t5, g_oa, g_ca, g_va, g_ta, g_zc, g_zd, g_td, g_zf, g_zU, g_zN, g_zh, g_zk, g_tk, g_oi, g_vi⟩⟩ := id hG
  have hA : ∀ q : Nat, s.heap.size ≤ q → A q := fun q h => by rw [← hAe]; exact Or.inr h
  have hS : va_S A s.heap s.heap [] := va_S.rf
  have hP : va_P (dC, dI) vwCl [(h0, .inr (7, [.ref z1, .ref z2, .ref z3, .ref z4, .ref z5, .ref z6, .int 0, .int 0, .int 0]))] s.heap := hP
  have hl := lv_entry ([.ref h0, .int i0, .int i1, .ref z0]) (n := 5) (Nat.le_of_ble_eq_true rfl)
  rw [lg_entry_eq]
  generalize (lg_sl ([.ref h0, .int i0, .int i1, .ref z0]) ++ List.replicate (5 - (lg_sl ([.ref h0, .int i0, .int i1, .ref z0])).length) Slot.unset).toArray = ls at hl ⊢
  have hl : lv_has ls 5 [(0, .ref h0), (1, .int i0), (2, .int i1), (3, .ref z0)] := hl
  refine lv_aload_n hx hb dL_count_0 rfl (lv_at hl 3 rfl) ?_
  refine lv_aload_n hx hb dL_count_1 rfl (lv_at hl 0 rfl) ?_
  refine lv_iload_n hx hb dL_count_2 rfl (lv_at hl 1 rfl) ?_
  refine lv_iload_n hx hb dL_count_3 rfl (lv_at hl 2 rfl) ?_
  have hPc := hP.sub (ws' := [(h0, .inr (7, [.ref z1, .ref z2, .ref z3, .ref z4, .ref z5, .ref z6, .int 0, .int 0, .int 0]))]) [0] rfl
  have hDc := hD.sub (ws' := [(h0, .inr (7, [.ref z1, .ref z2, .ref z3, .ref z4, .ref z5, .ref z6, .int 0, .int 0, .int 0]))]) [0] (by decide) rfl
  have hKc := hK.sub (tys' := []) [] rfl
  have hFc := va_free (wc := [(h0, .inr (7, [.ref z1, .ref z2, .ref z3, .ref z4, .ref z5, .ref z6, .int 0, .int 0, .int 0]))]) hD hS hA [0] rfl
  refine vx_calli (vx_runV (As := [.int i0, .int i1]) (rest := [.ref z0]) ⟨hx, hb, hml, hown, hts⟩ (kx_X3_count_18 l hst dC dI ge5 gea gv5 gva gde gic gi0 h0 z1 z2 z3 z4 z5 z6 s.heap.size i0 i0_l i0_u i1 i1_l i1_u) (cwV 2 hts gL_count_X3_count rfl rfl rfl (by decide +kernel) ⟨Nat.le_of_ble_eq_true rfl, Nat.le_of_ble_eq_true rfl⟩) ⟨fun a U g mk q => by obtain ⟨q0, q1, qP, qK, qD, qG⟩ := q; exact ⟨q0, q1, qP, va_K.moved (u := U) (U := U.calling g mk a) (Vm.Alike.refl U.vm) qK, qD, gv.fb qG⟩, va_recv hKc hPc (ci := 7) (q0 := 0) rfl rfl, fun U hU hW => ⟨rfl, by rw [hU], by rw [hU]; exact hPc, va_K.moved hW.alike hKc, hDc.weaken (fun _ _ _ _ => trivial), gv.pass hW hU hS hFc hG⟩⟩ rfl rfl hl.1 rfl (lv_room (Nat.le_of_ble_eq_true rfl)) dL_count_4 ⟨Nat.le_of_ble_eq_true rfl, Nat.le_of_ble_eq_true rfl⟩) hS (fun q _ h => hFc q h) hFc (fun q _ h => hFc q h) (fun E ce q9 u t H1 locs ht hvm hpx hB hz1 hk1 hS hce hcv hcl => ?_) (fun r9 u t H1 locs ht hvm hw hB hz1 hk1 hS => hw.elim)
  obtain ⟨rfl, hP1, hK1, hD1⟩ := hB
  rw [ht] at hP1
  have hK1 := va_K.moved hvm.symm hK1
  obtain ⟨hP, hD⟩ := va_join (wr := []) (w1 := [(h0, .inr (7, [.ref z1, .ref z2, .ref z3, .ref z4, .ref z5, .ref z6, .int 0, .int 0, .int 0]))]) hP hD [0] [] rfl rfl (by decide) (by decide) hk1 hFc hP1 hD1
  generalize H1 = H at hP hS hce ⊢
  have hP : va_P (dC, dI) vwCl [(h0, .inr (7, [.ref z1, .ref z2, .ref z3, .ref z4, .ref z5, .ref z6, .int 0, .int 0, .int 0]))] H := hP
  have hD : va_D A [(h0, .inr (7, [.ref z1, .ref z2, .ref z3, .ref z4, .ref z5, .ref z6, .int 0, .int 0, .int 0]))] := hD
  refine vx_catch (own := RL) (name := "java/lang/IndexOutOfBoundsException") hown (tableOf []) ⟨0, 11, 14, 19⟩ (tableOf []) (by rw [htab]; rfl) (fun z hz => nomatch hz) (by decide +kernel) (by decide) (hts (.classLink RL 19 "java/lang/IndexOutOfBoundsException") (by decide +kernel)) (va_Nw.use rfl g_ca_IO) hce hcv hcl ?_
  refine W.eq (g2 := F0 m 14 ls [.ref q9]) rfl ?_
  refine lv_astore (lv' := [(4, .ref q9), (0, .ref h0), (1, .int i0), (2, .int i1), (3, .ref z0)]) hx hb dL_count_14 hl (by decide) rfl (fun ls hl => ?_)
  refine lv_iconst (v := 1) hx hb dL_count_16 (by decide) ?_
  exact W.iret (v := 1) hx hb hr (fun t ht hW => ⟨⟨1, (), rfl, rfl, by rw [ht]; exact hP, va_K.moved hW.alike hK, hD⟩, hS.F ht⟩) hS.2.2 dL_count_17
set_option maxHeartbeats 4000000 in
set_option maxRecDepth 100000 in
theorem kx_X5_count_3 (l : Launch) (dC : Nat → ClassId) (dI : Nat → Nat → Nat) (h0 : Nat) (z0 : Nat) (z1 : Nat) (z2 : Nat) (sz : Nat) (i0 : Int32) (i0_l : ((-2147483648) : Int) ≤ i0.toInt) (i0_u : i0.toInt ≤ ((-1) : Int)) (i1 : Int32) (i1_l : ((-2147483648) : Int) ≤ i1.toInt) (i1_u : i1.toInt ≤ (2147483647 : Int)) : Met l yX5_count wsX5_count ({ frames := 2, cells := 0, slots := 0, locals := 42 }) (va_Pc [.ref h0, .int i0, .int i1] (fun U => U.heap.size = sz ∧ va_P (dC, dI) vwCl [(h0, .inr (9, [.int 0, .ref z0, .ref z1, .ref z2, .int 0, .int 0, .int 0]))] U.heap ∧ va_K (dC, dI) vwCl [] U ∧ va_D (fun _ => True) [(h0, .inr (9, [.int 0, .ref z0, .ref z1, .ref z2, .int 0, .int 0, .int 0]))])) (va_Qi (fun (r : Int32) (_ : Unit) => r = 0) (fun (_ : Unit) (t : State) => va_P (dC, dI) vwCl [(h0, .inr (9, [.int 1, .ref z0, .ref z1, .ref z2, .int 0, .int 0, .int 0]))] t.heap ∧ va_K (dC, dI) vwCl [] t ∧ va_D (va_A [(h0, .inr (9, [.int 0, .ref z0, .ref z1, .ref z2, .int 0, .int 0, .int 0]))] sz) [(h0, .inr (9, [.int 1, .ref z0, .ref z1, .ref z2, .int 0, .int 0, .int 0]))]) (va_A [(h0, .inr (9, [.int 0, .ref z0, .ref z1, .ref z2, .int 0, .int 0, .int 0]))] sz)) 0 0 (va_A [(h0, .inr (9, [.int 0, .ref z0, .ref z1, .ref z2, .int 0, .int 0, .int 0]))] sz) := by
  refine Met.ofW (cc := cX5_count) (maxL := 3) (ret := (some .int)) (by decide) rfl ?_
  intro p e s m args below meth c s₁ B hml hv
  obtain ⟨rfl, hsz, hP, hK, hD0⟩ := hv
  have hx := B.exec
  have hb := B.bytes
  have hr := B.returns
  have hts := atoms_spec (ws := wsX5_count) B.pre
  have hown : s.vm.findClass RX5 = some m.cls := findClass_of_methodNamed B.named
  have hlocks := B.notSynchronized
  subst hsz
  have hD := hD0.self (sz := s.heap.size)
  generalize hAe : va_A [(h0, .inr (9, [.int 0, .ref z0, .ref z1, .ref z2, .int 0, .int 0, .int 0]))] s.heap.size = A at hD ⊢
  have hA : ∀ q : Nat, s.heap.size ≤ q → A q := fun q h => by rw [← hAe]; exact Or.inr h
  have hS : va_S A s.heap s.heap [] := va_S.rf
  have hP : va_P (dC, dI) vwCl [(h0, .inr (9, [.int 0, .ref z0, .ref z1, .ref z2, .int 0, .int 0, .int 0]))] s.heap := hP
  have hl := lv_entry ([.ref h0, .int i0, .int i1]) (n := 3) (Nat.le_of_ble_eq_true rfl)
  rw [lg_entry_eq]
  generalize (lg_sl ([.ref h0, .int i0, .int i1]) ++ List.replicate (3 - (lg_sl ([.ref h0, .int i0, .int i1])).length) Slot.unset).toArray = ls at hl ⊢
  have hl : lv_has ls 3 [(0, .ref h0), (1, .int i0), (2, .int i1)] := hl
  refine lv_aload_n hx hb dX5_count_0 rfl (lv_at hl 0 rfl) ?_
  refine lv_iload_n hx hb dX5_count_1 rfl (lv_at hl 1 rfl) ?_
  have hPc := hP.sub (ws' := []) [] rfl
  have hDc := hD.sub (ws' := []) [] (by decide) rfl
  have hKc := hK.sub (tys' := []) [] rfl
  have hFc := va_free (wc := []) hD hS hA [] rfl
  refine va_calli (va_runS (As := [.int i0]) (rest := [.ref h0]) ⟨hx, hb, hml, hown, hts⟩ (kx_X5_isNo_0 l dC dI s.heap.size i0 i0_l i0_u) (cwS 1 hts gX5_count_X5_isNo rfl rfl rfl (by decide +kernel) ⟨Nat.le_of_ble_eq_true rfl, Nat.le_of_ble_eq_true rfl⟩) ⟨fun a U g mk q => by obtain ⟨q0, q1, qP, qK, qD⟩ := q; exact ⟨q0, q1, qP, va_K.moved (u := U) (U := U.calling g mk a) (Vm.Alike.refl U.vm) qK, qD⟩, fun U hU hW => ⟨rfl, by rw [hU], by rw [hU]; exact hPc, va_K.moved hW.alike hKc, hDc.weaken (fun _ _ _ _ => trivial)⟩⟩ rfl rfl hl.1 rfl (lv_room (Nat.le_of_ble_eq_true rfl)) dX5_count_2 ⟨Nat.le_of_ble_eq_true rfl, Nat.le_of_ble_eq_true rfl⟩) hS (fun q _ h => hFc q h) hFc (fun r9 u t H1 locs ht hvm hw hB hz1 hk1 hS => ?_)
  obtain rfl := hw
  obtain ⟨hP1, hK1, hD1⟩ := hB
  rw [ht] at hP1
  have hK1 := va_K.moved hvm.symm hK1
  obtain ⟨hP, hD⟩ := va_join (wr := [(h0, .inr (9, [.int 0, .ref z0, .ref z1, .ref z2, .int 0, .int 0, .int 0]))]) (w1 := []) hP hD [] [0] rfl rfl (by decide) (by decide) hk1 hFc hP1 hD1
  generalize H1 = H at hP hS ⊢
  have hP : va_P (dC, dI) vwCl [(h0, .inr (9, [.int 0, .ref z0, .ref z1, .ref z2, .int 0, .int 0, .int 0]))] H := hP
  have hD : va_D A [(h0, .inr (9, [.int 0, .ref z0, .ref z1, .ref z2, .int 0, .int 0, .int 0]))] := hD
  refine lv_if_ne (tgt := 15) hx hb dX5_count_5 (by decide) (fun _ => ?_) (fun c9 => absurd c9 (by decide))
  refine lv_iconst (v := 1) hx hb dX5_count_15 (by decide) ?_
  refine lv_goto (tgt := 20) hx hb dX5_count_16 (by decide) ?_
  refine lv_iconst (v := 0) hx hb dX5_count_20 (by decide) ?_
  refine lv_iconst (v := 0) hx hb dX5_count_21 (by decide) ?_
  have hPc := hP.sub (ws' := [(h0, .inr (9, [.int 0, .ref z0, .ref z1, .ref z2, .int 0, .int 0, .int 0]))]) [0] rfl
  have hDc := hD.sub (ws' := [(h0, .inr (9, [.int 0, .ref z0, .ref z1, .ref z2, .int 0, .int 0, .int 0]))]) [0] (by decide) rfl
  have hKc := hK.sub (tys' := []) [] rfl
  have hFc := va_free (wc := [(h0, .inr (9, [.int 0, .ref z0, .ref z1, .ref z2, .int 0, .int 0, .int 0]))]) hD hS hA [0] rfl
  refine va_calli (va_runV (As := [.int 1, .int 0, .int 0]) (rest := []) ⟨hx, hb, hml, hown, hts⟩ (kx_X5_fails_0 l dC dI h0 z0 z1 z2 H.size) (cwV 3 hts gX5_count_X5_fails rfl rfl rfl (by decide +kernel) ⟨Nat.le_of_ble_eq_true rfl, Nat.le_of_ble_eq_true rfl⟩) ⟨fun a U g mk q => by obtain ⟨q0, q1, qP, qK, qD⟩ := q; exact ⟨q0, q1, qP, va_K.moved (u := U) (U := U.calling g mk a) (Vm.Alike.refl U.vm) qK, qD⟩, va_recv hKc hPc (ci := 9) (q0 := 0) rfl rfl, fun U hU hW => ⟨rfl, by rw [hU], by rw [hU]; exact hPc, va_K.moved hW.alike hKc, hDc.weaken (fun _ _ _ _ => trivial)⟩⟩ rfl rfl hl.1 rfl (lv_room (Nat.le_of_ble_eq_true rfl)) dX5_count_22 ⟨Nat.le_of_ble_eq_true rfl, Nat.le_of_ble_eq_true rfl⟩) hS (fun q _ h => hFc q h) hFc (fun r9 u t H1 locs ht hvm hw hB hz1 hk1 hS => ?_)
  obtain rfl := hw
  obtain ⟨hP1, hK1, hD1⟩ := hB
  rw [ht] at hP1
  have hK1 := va_K.moved hvm.symm hK1
  obtain ⟨hP, hD⟩ := va_join (wr := []) (w1 := [(h0, .inr (9, [.int 1, .ref z0, .ref z1, .ref z2, .int 0, .int 0, .int 0]))]) hP hD [0] [] rfl rfl (by decide) (by decide) hk1 hFc hP1 hD1
  generalize H1 = H at hP hS ⊢
  have hP : va_P (dC, dI) vwCl [(h0, .inr (9, [.int 1, .ref z0, .ref z1, .ref z2, .int 0, .int 0, .int 0]))] H := hP
  have hD : va_D A [(h0, .inr (9, [.int 1, .ref z0, .ref z1, .ref z2, .int 0, .int 0, .int 0]))] := hD
  refine lv_if_eq (tgt := 32) hx hb dX5_count_25 (by decide) (fun c9 => absurd c9 (by decide)) (fun _ => ?_)
  refine lv_iconst (v := 0) hx hb dX5_count_28 (by decide) ?_
  refine lv_goto (tgt := 50) hx hb dX5_count_29 (by decide) ?_
  exact W.iret (v := 0) hx hb hr (fun t ht hW => ⟨⟨0, (), rfl, rfl, by rw [ht]; exact hP, va_K.moved hW.alike hK, hD⟩, hS.F ht⟩) hS.2.2 dX5_count_50
set_option maxHeartbeats 4000000 in
set_option maxRecDepth 100000 in
theorem kx_X3_count_19 (l : Launch) (hst : l.stackTraces = false) (dC : Nat → ClassId) (dI : Nat → Nat → Nat) (ge5 gea gv5 gva gde gic gi0 : Nat) (h0 : Nat) (z0 : Nat) (z1 : Nat) (z2 : Nat) (z3 : Nat) (z4 : Nat) (z5 : Nat) (sz : Nat) (i0 : Int32) (i0_l : (4 : Int) ≤ i0.toInt) (i0_u : i0.toInt ≤ (2147483647 : Int)) (i1 : Int32) (i1_l : ((-2147483648) : Int) ≤ i1.toInt) (i1_u : i1.toInt ≤ (2147483647 : Int)) : vx_Met l yX3_count wsX3_count ({ frames := 7, cells := 1, slots := 6, locals := 140 }) (va_Pc [.ref h0, .int i0, .int i1] (fun U => U.heap.size = sz ∧ va_P (dC, dI) vwCl [(h0, .inr (7, [.ref z0, .ref z1, .ref z2, .ref z3, .ref z4, .ref z5, .int 0, .int 0, .int 0]))] U.heap ∧ va_K (dC, dI) vwCl [] U ∧ va_D (fun _ => True) [(h0, .inr (7, [.ref z0, .ref z1, .ref z2, .ref z3, .ref z4, .ref z5, .int 0, .int 0, .int 0]))] ∧ gv ge5 gea gv5 gva gde gic gi0 (va_A [(h0, .inr (7, [.ref z0, .ref z1, .ref z2, .ref z3, .ref z4, .ref z5, .int 0, .int 0, .int 0]))] sz) U U.heap)) (va_Qi (fun (_ : Int32) (_ : Unit) => False) (fun _ _ => True) (va_A [(h0, .inr (7, [.ref z0, .ref z1, .ref z2, .ref z3, .ref z4, .ref z5, .int 0, .int 0, .int 0]))] sz)) (vx_X (fun _ : Unit => True) (fun (E : String) (_ : Unit) (t : State) => E = "java/lang/IndexOutOfBoundsException" ∧ va_P (dC, dI) vwCl [(h0, .inr (7, [.ref z0, .ref z1, .ref z2, .ref z3, .ref z4, .ref z5, .int 0, .int 0, .int 0]))] t.heap ∧ va_K (dC, dI) vwCl [] t ∧ va_D (va_A [(h0, .inr (7, [.ref z0, .ref z1, .ref z2, .ref z3, .ref z4, .ref z5, .int 0, .int 0, .int 0]))] sz) [(h0, .inr (7, [.ref z0, .ref z1, .ref z2, .ref z3, .ref z4, .ref z5, .int 0, .int 0, .int 0]))]) (va_A [(h0, .inr (7, [.ref z0, .ref z1, .ref z2, .ref z3, .ref z4, .ref z5, .int 0, .int 0, .int 0]))] sz)) 1 6 (va_A [(h0, .inr (7, [.ref z0, .ref z1, .ref z2, .ref z3, .ref z4, .ref z5, .int 0, .int 0, .int 0]))] sz) := by
  refine vx_ofW (cc := cX3_count) (maxL := 5) (ret := (some .int)) (by decide) rfl ?_
  intro p e s m args below meth c s₁ B hml ht9 hv
  obtain ⟨rfl, hsz, hP, hK, hD0, hG⟩ := hv
  have hx := B.exec
  have hb := B.bytes
  have hr := B.returns
  have hts := atoms_spec (ws := wsX3_count) B.pre
  have hown : s.vm.findClass RX3 = some m.cls := findClass_of_methodNamed B.named
  have hlocks := B.notSynchronized
  subst hsz
  have hD := hD0.self (sz := s.heap.size)
  generalize hAe : va_A [(h0, .inr (7, [.ref z0, .ref z1, .ref z2, .ref z3, .ref z4, .ref z5, .int 0, .int 0, .int 0]))] s.heap.size = A at hD hG ⊢
  obtain ⟨⟨g_AO_Text, g_AO_String, g_AO_Object, g_nm_RX1_20, g_nm_RX0_17, g_nm_RX3_31, g_nm_RX2_44, g_nm_RL_121, g_nf_RL_13, g_nf_RL_47, g_ca_IO, g_ca_IA, g_ca_IS, g_ca_IntObj, g_ca_StrObj, g_de_RT, g_de_EX, g_de_TH, g_nc_IA_IO, g_nc_IS_IO, g_nc_IS_IA⟩, ⟨g_s3, g_s5, g_sa, g_x278, g_x280, g_x282, g_x284, g_x286, g_x180, g_x238, g_x250⟩, ⟨g_o5, g_c5, g_v5, g_t5, g_oa, g_ca, g_va, g_ta, g_zc, g_zd, g_td, g_zf, g_zU, g_zN, g_zh, g_zk, g_tk, g_oi, g_vi⟩⟩ := id hG
  have hA : ∀ q : Nat, s.heap.size ≤ q → A q := fun q h => by rw [← hAe]; exact Or.inr h
  have hS : va_S A s.heap s.heap [] := va_S.rf
  have hP : va_P (dC, dI) vwCl [(h0, .inr (7, [.ref z0, .ref z1, .ref z2, .ref z3, .ref z4, .ref z5, .int 0, .int 0, .int 0]))] s.heap := hP
  have hl := lv_entry ([.ref h0, .int i0, .int i1]) (n := 5) (Nat.le_of_ble_eq_true rfl)
  rw [lg_entry_eq]
  generalize (lg_sl ([.ref h0, .int i0, .int i1]) ++ List.replicate (5 - (lg_sl ([.ref h0, .int i0, .int i1])).length) Slot.unset).toArray = ls at hl ⊢
  have hl : lv_has ls 5 [(0, .ref h0), (1, .int i0), (2, .int i1)] := hl
  refine lv_iload_n hx hb dX3_count_0 rfl (lv_at hl 1 rfl) ?_
  have hPc := hP.sub (ws' := []) [] rfl
  have hDc := hD.sub (ws' := []) [] (by decide) rfl
  have hKc := hK.sub (tys' := []) [] rfl
  have hFc := va_free (wc := []) hD hS hA [] rfl
  refine vx_callv (vx_runS (As := [.int i0]) (rest := []) ⟨hx, hb, hml, hown, hts⟩ (kx_X3_needRope_6 l hst dC dI ge5 gea gv5 gva gde gic gi0 s.heap.size i0 i0_l i0_u) (cwS 1 hts gX3_count_X3_needRope rfl rfl rfl (by decide +kernel) ⟨Nat.le_of_ble_eq_true rfl, Nat.le_of_ble_eq_true rfl⟩) ⟨fun a U g mk q => by obtain ⟨q0, q1, qP, qK, qD, qG⟩ := q; exact ⟨q0, q1, qP, va_K.moved (u := U) (U := U.calling g mk a) (Vm.Alike.refl U.vm) qK, qD, gv.fb qG⟩, fun U hU hW => ⟨rfl, by rw [hU], by rw [hU]; exact hPc, va_K.moved hW.alike hKc, hDc.weaken (fun _ _ _ _ => trivial), gv.pass hW hU hS hFc hG⟩⟩ rfl rfl hl.1 rfl (lv_room (Nat.le_of_ble_eq_true rfl)) dX3_count_1 ⟨Nat.le_of_ble_eq_true rfl, Nat.le_of_ble_eq_true rfl⟩) hS (fun q _ h => hFc q h) hFc (fun q _ h => hFc q h) (fun E ce q9 u t H1 locs ht hvm hpx hB hz1 hk1 hS hce hcv hcl => ?_) (fun u t H1 locs ht hvm hw hB hz1 hk1 hS => hw.elim)
  obtain ⟨rfl, hP1, hK1, hD1⟩ := hB
  rw [ht] at hP1
  have hK1 := va_K.moved hvm.symm hK1
  obtain ⟨hP, hD⟩ := va_join (wr := [(h0, .inr (7, [.ref z0, .ref z1, .ref z2, .ref z3, .ref z4, .ref z5, .int 0, .int 0, .int 0]))]) (w1 := []) hP hD [] [0] rfl rfl (by decide) (by decide) hk1 hFc hP1 hD1
  generalize H1 = H at hP hS hce ⊢
  have hP : va_P (dC, dI) vwCl [(h0, .inr (7, [.ref z0, .ref z1, .ref z2, .ref z3, .ref z4, .ref z5, .int 0, .int 0, .int 0]))] H := hP
  have hD : va_D A [(h0, .inr (7, [.ref z0, .ref z1, .ref z2, .ref z3, .ref z4, .ref z5, .int 0, .int 0, .int 0]))] := hD
  exact vx_out (fun x hx9 => (ht9 x hx9).elim) hlocks hce hcv hcl (fun t ht hW => ⟨(), trivial, ⟨rfl, by rw [ht]; exact hP, va_K.moved hW hK, hD⟩, hS.F ht⟩) hS.2.2 (by omega) (by omega)
set_option maxHeartbeats 4000000 in
set_option maxRecDepth 100000 in
theorem kx_L_count_4 (l : Launch) (hst : l.stackTraces = false) (dC : Nat → ClassId) (dI : Nat → Nat → Nat) (ge5 gea gv5 gva gde gic gi0 : Nat) (h0 : Nat) (z0 : Nat) (z1 : Nat) (z2 : Nat) (z3 : Nat) (z4 : Nat) (z5 : Nat) (z6 : Nat) (sz : Nat) (i0 : Int32) (i0_l : (4 : Int) ≤ i0.toInt) (i0_u : i0.toInt ≤ (2147483647 : Int)) (i1 : Int32) (i1_l : ((-2147483648) : Int) ≤ i1.toInt) (i1_u : i1.toInt ≤ (2147483647 : Int)) : Met l yL_count wsL_count ({ frames := 8, cells := 1, slots := 6, locals := 164 }) (va_Pc [.ref h0, .int i0, .int i1, .ref z0] (fun U => U.heap.size = sz ∧ va_P (dC, dI) vwCl [(h0, .inr (7, [.ref z1, .ref z2, .ref z3, .ref z4, .ref z5, .ref z6, .int 0, .int 0, .int 0]))] U.heap ∧ va_K (dC, dI) vwCl [] U ∧ va_D (fun _ => True) [(h0, .inr (7, [.ref z1, .ref z2, .ref z3, .ref z4, .ref z5, .ref z6, .int 0, .int 0, .int 0]))] ∧ gv ge5 gea gv5 gva gde gic gi0 (va_A [(h0, .inr (7, [.ref z1, .ref z2, .ref z3, .ref z4, .ref z5, .ref z6, .int 0, .int 0, .int 0]))] sz) U U.heap)) (va_Qi (fun (r : Int32) (_ : Unit) => r = 1) (fun (_ : Unit) (t : State) => va_P (dC, dI) vwCl [(h0, .inr (7, [.ref z1, .ref z2, .ref z3, .ref z4, .ref z5, .ref z6, .int 0, .int 0, .int 0]))] t.heap ∧ va_K (dC, dI) vwCl [] t ∧ va_D (va_A [(h0, .inr (7, [.ref z1, .ref z2, .ref z3, .ref z4, .ref z5, .ref z6, .int 0, .int 0, .int 0]))] sz) [(h0, .inr (7, [.ref z1, .ref z2, .ref z3, .ref z4, .ref z5, .ref z6, .int 0, .int 0, .int 0]))]) (va_A [(h0, .inr (7, [.ref z1, .ref z2, .ref z3, .ref z4, .ref z5, .ref z6, .int 0, .int 0, .int 0]))] sz)) 1 6 (va_A [(h0, .inr (7, [.ref z1, .ref z2, .ref z3, .ref z4, .ref z5, .ref z6, .int 0, .int 0, .int 0]))] sz) := by
  refine kz_ofWH (cc := cL_count) (maxL := 5) (ret := (some .int)) (hh := [(0, 11, 14, 19)]) (by decide) rfl ?_
  intro p e s m args below meth c s₁ B hml hv
  obtain ⟨rfl, hsz, hP, hK, hD0, hG⟩ := hv
  have hx := B.exec
  have hb := B.bytes
  have hr := B.returns
  have hts := atoms_spec (ws := wsL_count) B.pre
  have hown : s.vm.findClass RL = some m.cls := findClass_of_methodNamed B.named
  have htab := vx_table (x := yL_count) B (hts (.codeWith yL_count cL_count 5 (some .int) [(0, 11, 14, 19)]) (by decide +kernel))
  have hlocks := B.notSynchronized
  subst hsz
  have hD := hD0.self (sz := s.heap.size)
  generalize hAe : va_A [(h0, .inr (7, [.ref z1, .ref z2, .ref z3, .ref z4, .ref z5, .ref z6, .int 0, .int 0, .int 0]))] s.heap.size = A at hD hG ⊢
  obtain ⟨⟨g_AO_Text, g_AO_String, g_AO_Object, g_nm_RX1_20, g_nm_RX0_17, g_nm_RX3_31, g_nm_RX2_44, g_nm_RL_121, g_nf_RL_13, g_nf_RL_47, g_ca_IO, g_ca_IA, g_ca_IS, g_ca_IntObj, g_ca_StrObj, g_de_RT, g_de_EX, g_de_TH, g_nc_IA_IO, g_nc_IS_IO, g_nc_IS_IA⟩, ⟨g_s3, g_s5, g_sa, g_x278, g_x280, g_x282, g_x284, g_x286, g_x180, g_x238, g_x250⟩, ⟨g_o5, g_c5, g_v5, g_t5, g_oa, g_ca, g_va, g_ta, g_zc, g_zd, g_td, g_zf, g_zU, g_zN, g_zh, g_zk, g_tk, g_oi, g_vi⟩⟩ := id hG
  have hA : ∀ q : Nat, s.heap.size ≤ q → A q := fun q h => by rw [← hAe]; exact Or.inr h
  have hS : va_S A s.heap s.heap [] := va_S.rf
  have hP : va_P (dC, dI) vwCl [(h0, .inr (7, [.ref z1, .ref z2, .ref z3, .ref z4, .ref z5, .ref z6, .int 0, .int 0, .int 0]))] s.heap := hP
  have hl := lv_entry ([.ref h0, .int i0, .int i1, .ref z0]) (n := 5) (Nat.le_of_ble_eq_true rfl)
  rw [lg_entry_eq]
  generalize (lg_sl ([.ref h0, .int i0, .int i1, .ref z0]) ++ List.replicate (5 - (lg_sl ([.ref h0, .int i0, .int i1, .ref z0])).length) Slot.unset).toArray = ls at hl ⊢
  have hl : lv_has ls 5 [(0, .ref h0), (1, .int i0), (2, .int i1), (3, .ref z0)] := hl
  refine lv_aload_n hx hb dL_count_0 rfl (lv_at hl 3 rfl) ?_
  refine lv_aload_n hx hb dL_count_1 rfl (lv_at hl 0 rfl) ?_
  refine lv_iload_n hx hb dL_count_2 rfl (lv_at hl 1 rfl) ?_
  refine lv_iload_n hx hb dL_count_3 rfl (lv_at hl 2 rfl) ?_
  have hPc := hP.sub (ws' := [(h0, .inr (7, [.ref z1, .ref z2, .ref z3, .ref z4, .ref z5, .ref z6, .int 0, .int 0, .int 0]))]) [0] rfl
  have hDc := hD.sub (ws' := [(h0, .inr (7, [.ref z1, .ref z2, .ref z3, .ref z4, .ref z5, .ref z6, .int 0, .int 0, .int 0]))]) [0] (by decide) rfl
  have hKc := hK.sub (tys' := []) [] rfl
  have hFc := va_free (wc := [(h0, .inr (7, [.ref z1, .ref z2, .ref z3, .ref z4, .ref z5, .ref z6, .int 0, .int 0, .int 0]))]) hD hS hA [0] rfl
  refine vx_calli (vx_runV (As := [.int i0, .int i1]) (rest := [.ref z0]) ⟨hx, hb, hml, hown, hts⟩ (kx_X3_count_19 l hst dC dI ge5 gea gv5 gva gde gic gi0 h0 z1 z2 z3 z4 z5 z6 s.heap.size i0 i0_l i0_u i1 i1_l i1_u) (cwV 2 hts gL_count_X3_count rfl rfl rfl (by decide +kernel) ⟨Nat.le_of_ble_eq_true rfl, Nat.le_of_ble_eq_true rfl⟩) ⟨fun a U g mk q => by obtain ⟨q0, q1, qP, qK, qD, qG⟩ := q; exact ⟨q0, q1, qP, va_K.moved (u := U) (U := U.calling g mk a) (Vm.Alike.refl U.vm) qK, qD, gv.fb qG⟩, va_recv hKc hPc (ci := 7) (q0 := 0) rfl rfl, fun U hU hW => ⟨rfl, by rw [hU], by rw [hU]; exact hPc, va_K.moved hW.alike hKc, hDc.weaken (fun _ _ _ _ => trivial), gv.pass hW hU hS hFc hG⟩⟩ rfl rfl hl.1 rfl (lv_room (Nat.le_of_ble_eq_true rfl)) dL_count_4 ⟨Nat.le_of_ble_eq_true rfl, Nat.le_of_ble_eq_true rfl⟩) hS (fun q _ h => hFc q h) hFc (fun q _ h => hFc q h) (fun E ce q9 u t H1 locs ht hvm hpx hB hz1 hk1 hS hce hcv hcl => ?_) (fun r9 u t H1 locs ht hvm hw hB hz1 hk1 hS => hw.elim)
  obtain ⟨rfl, hP1, hK1, hD1⟩ := hB
  rw [ht] at hP1
  have hK1 := va_K.moved hvm.symm hK1
  obtain ⟨hP, hD⟩ := va_join (wr := []) (w1 := [(h0, .inr (7, [.ref z1, .ref z2, .ref z3, .ref z4, .ref z5, .ref z6, .int 0, .int 0, .int 0]))]) hP hD [0] [] rfl rfl (by decide) (by decide) hk1 hFc hP1 hD1
  generalize H1 = H at hP hS hce ⊢
  have hP : va_P (dC, dI) vwCl [(h0, .inr (7, [.ref z1, .ref z2, .ref z3, .ref z4, .ref z5, .ref z6, .int 0, .int 0, .int 0]))] H := hP
  have hD : va_D A [(h0, .inr (7, [.ref z1, .ref z2, .ref z3, .ref z4, .ref z5, .ref z6, .int 0, .int 0, .int 0]))] := hD
  refine vx_catch (own := RL) (name := "java/lang/IndexOutOfBoundsException") hown (tableOf []) ⟨0, 11, 14, 19⟩ (tableOf []) (by rw [htab]; rfl) (fun z hz => nomatch hz) (by decide +kernel) (by decide) (hts (.classLink RL 19 "java/lang/IndexOutOfBoundsException") (by decide +kernel)) (va_Nw.use rfl g_ca_IO) hce hcv hcl ?_
  refine W.eq (g2 := F0 m 14 ls [.ref q9]) rfl ?_
  refine lv_astore (lv' := [(4, .ref q9), (0, .ref h0), (1, .int i0), (2, .int i1), (3, .ref z0)]) hx hb dL_count_14 hl (by decide) rfl (fun ls hl => ?_)
  refine lv_iconst (v := 1) hx hb dL_count_16 (by decide) ?_
  exact W.iret (v := 1) hx hb hr (fun t ht hW => ⟨⟨1, (), rfl, rfl, by rw [ht]; exact hP, va_K.moved hW.alike hK, hD⟩, hS.F ht⟩) hS.2.2 dL_count_17
set_option maxHeartbeats 4000000 in
set_option maxRecDepth 100000 in
theorem kx_X5_count_4 (l : Launch) (dC : Nat → ClassId) (dI : Nat → Nat → Nat) (h0 : Nat) (z0 : Nat) (z1 : Nat) (z2 : Nat) (sz : Nat) (i0 : Int32) (i0_l : (4 : Int) ≤ i0.toInt) (i0_u : i0.toInt ≤ (2147483647 : Int)) (i1 : Int32) (i1_l : ((-2147483648) : Int) ≤ i1.toInt) (i1_u : i1.toInt ≤ (2147483647 : Int)) : Met l yX5_count wsX5_count ({ frames := 2, cells := 0, slots := 0, locals := 42 }) (va_Pc [.ref h0, .int i0, .int i1] (fun U => U.heap.size = sz ∧ va_P (dC, dI) vwCl [(h0, .inr (9, [.int 0, .ref z0, .ref z1, .ref z2, .int 0, .int 0, .int 0]))] U.heap ∧ va_K (dC, dI) vwCl [] U ∧ va_D (fun _ => True) [(h0, .inr (9, [.int 0, .ref z0, .ref z1, .ref z2, .int 0, .int 0, .int 0]))])) (va_Qi (fun (r : Int32) (_ : Unit) => r = 0) (fun (_ : Unit) (t : State) => va_P (dC, dI) vwCl [(h0, .inr (9, [.int 1, .ref z0, .ref z1, .ref z2, .int 0, .int 0, .int 0]))] t.heap ∧ va_K (dC, dI) vwCl [] t ∧ va_D (va_A [(h0, .inr (9, [.int 0, .ref z0, .ref z1, .ref z2, .int 0, .int 0, .int 0]))] sz) [(h0, .inr (9, [.int 1, .ref z0, .ref z1, .ref z2, .int 0, .int 0, .int 0]))]) (va_A [(h0, .inr (9, [.int 0, .ref z0, .ref z1, .ref z2, .int 0, .int 0, .int 0]))] sz)) 0 0 (va_A [(h0, .inr (9, [.int 0, .ref z0, .ref z1, .ref z2, .int 0, .int 0, .int 0]))] sz) := by
  refine Met.ofW (cc := cX5_count) (maxL := 3) (ret := (some .int)) (by decide) rfl ?_
  intro p e s m args below meth c s₁ B hml hv
  obtain ⟨rfl, hsz, hP, hK, hD0⟩ := hv
  have hx := B.exec
  have hb := B.bytes
  have hr := B.returns
  have hts := atoms_spec (ws := wsX5_count) B.pre
  have hown : s.vm.findClass RX5 = some m.cls := findClass_of_methodNamed B.named
  have hlocks := B.notSynchronized
  subst hsz
  have hD := hD0.self (sz := s.heap.size)
  generalize hAe : va_A [(h0, .inr (9, [.int 0, .ref z0, .ref z1, .ref z2, .int 0, .int 0, .int 0]))] s.heap.size = A at hD ⊢
  have hA : ∀ q : Nat, s.heap.size ≤ q → A q := fun q h => by rw [← hAe]; exact Or.inr h
  have hS : va_S A s.heap s.heap [] := va_S.rf
  have hP : va_P (dC, dI) vwCl [(h0, .inr (9, [.int 0, .ref z0, .ref z1, .ref z2, .int 0, .int 0, .int 0]))] s.heap := hP
  have hl := lv_entry ([.ref h0, .int i0, .int i1]) (n := 3) (Nat.le_of_ble_eq_true rfl)
  rw [lg_entry_eq]
  generalize (lg_sl ([.ref h0, .int i0, .int i1]) ++ List.replicate (3 - (lg_sl ([.ref h0, .int i0, .int i1])).length) Slot.unset).toArray = ls at hl ⊢
  have hl : lv_has ls 3 [(0, .ref h0), (1, .int i0), (2, .int i1)] := hl
  refine lv_aload_n hx hb dX5_count_0 rfl (lv_at hl 0 rfl) ?_
  refine lv_iload_n hx hb dX5_count_1 rfl (lv_at hl 1 rfl) ?_
  have hPc := hP.sub (ws' := []) [] rfl
  have hDc := hD.sub (ws' := []) [] (by decide) rfl
  have hKc := hK.sub (tys' := []) [] rfl
  have hFc := va_free (wc := []) hD hS hA [] rfl
  refine va_calli (va_runS (As := [.int i0]) (rest := [.ref h0]) ⟨hx, hb, hml, hown, hts⟩ (kx_X5_isNo_2 l dC dI s.heap.size i0 i0_l i0_u) (cwS 1 hts gX5_count_X5_isNo rfl rfl rfl (by decide +kernel) ⟨Nat.le_of_ble_eq_true rfl, Nat.le_of_ble_eq_true rfl⟩) ⟨fun a U g mk q => by obtain ⟨q0, q1, qP, qK, qD⟩ := q; exact ⟨q0, q1, qP, va_K.moved (u := U) (U := U.calling g mk a) (Vm.Alike.refl U.vm) qK, qD⟩, fun U hU hW => ⟨rfl, by rw [hU], by rw [hU]; exact hPc, va_K.moved hW.alike hKc, hDc.weaken (fun _ _ _ _ => trivial)⟩⟩ rfl rfl hl.1 rfl (lv_room (Nat.le_of_ble_eq_true rfl)) dX5_count_2 ⟨Nat.le_of_ble_eq_true rfl, Nat.le_of_ble_eq_true rfl⟩) hS (fun q _ h => hFc q h) hFc (fun r9 u t H1 locs ht hvm hw hB hz1 hk1 hS => ?_)
  obtain rfl := hw
  obtain ⟨hP1, hK1, hD1⟩ := hB
  rw [ht] at hP1
  have hK1 := va_K.moved hvm.symm hK1
  obtain ⟨hP, hD⟩ := va_join (wr := [(h0, .inr (9, [.int 0, .ref z0, .ref z1, .ref z2, .int 0, .int 0, .int 0]))]) (w1 := []) hP hD [] [0] rfl rfl (by decide) (by decide) hk1 hFc hP1 hD1
  generalize H1 = H at hP hS ⊢
  have hP : va_P (dC, dI) vwCl [(h0, .inr (9, [.int 0, .ref z0, .ref z1, .ref z2, .int 0, .int 0, .int 0]))] H := hP
  have hD : va_D A [(h0, .inr (9, [.int 0, .ref z0, .ref z1, .ref z2, .int 0, .int 0, .int 0]))] := hD
  refine lv_if_ne (tgt := 15) hx hb dX5_count_5 (by decide) (fun _ => ?_) (fun c9 => absurd c9 (by decide))
  refine lv_iconst (v := 1) hx hb dX5_count_15 (by decide) ?_
  refine lv_goto (tgt := 20) hx hb dX5_count_16 (by decide) ?_
  refine lv_iconst (v := 0) hx hb dX5_count_20 (by decide) ?_
  refine lv_iconst (v := 0) hx hb dX5_count_21 (by decide) ?_
  have hPc := hP.sub (ws' := [(h0, .inr (9, [.int 0, .ref z0, .ref z1, .ref z2, .int 0, .int 0, .int 0]))]) [0] rfl
  have hDc := hD.sub (ws' := [(h0, .inr (9, [.int 0, .ref z0, .ref z1, .ref z2, .int 0, .int 0, .int 0]))]) [0] (by decide) rfl
  have hKc := hK.sub (tys' := []) [] rfl
  have hFc := va_free (wc := [(h0, .inr (9, [.int 0, .ref z0, .ref z1, .ref z2, .int 0, .int 0, .int 0]))]) hD hS hA [0] rfl
  refine va_calli (va_runV (As := [.int 1, .int 0, .int 0]) (rest := []) ⟨hx, hb, hml, hown, hts⟩ (kx_X5_fails_0 l dC dI h0 z0 z1 z2 H.size) (cwV 3 hts gX5_count_X5_fails rfl rfl rfl (by decide +kernel) ⟨Nat.le_of_ble_eq_true rfl, Nat.le_of_ble_eq_true rfl⟩) ⟨fun a U g mk q => by obtain ⟨q0, q1, qP, qK, qD⟩ := q; exact ⟨q0, q1, qP, va_K.moved (u := U) (U := U.calling g mk a) (Vm.Alike.refl U.vm) qK, qD⟩, va_recv hKc hPc (ci := 9) (q0 := 0) rfl rfl, fun U hU hW => ⟨rfl, by rw [hU], by rw [hU]; exact hPc, va_K.moved hW.alike hKc, hDc.weaken (fun _ _ _ _ => trivial)⟩⟩ rfl rfl hl.1 rfl (lv_room (Nat.le_of_ble_eq_true rfl)) dX5_count_22 ⟨Nat.le_of_ble_eq_true rfl, Nat.le_of_ble_eq_true rfl⟩) hS (fun q _ h => hFc q h) hFc (fun r9 u t H1 locs ht hvm hw hB hz1 hk1 hS => ?_)
  obtain rfl := hw
  obtain ⟨hP1, hK1, hD1⟩ := hB
  rw [ht] at hP1
  have hK1 := va_K.moved hvm.symm hK1
  obtain ⟨hP, hD⟩ := va_join (wr := []) (w1 := [(h0, .inr (9, [.int 1, .ref z0, .ref z1, .ref z2, .int 0, .int 0, .int 0]))]) hP hD [0] [] rfl rfl (by decide) (by decide) hk1 hFc hP1 hD1
  generalize H1 = H at hP hS ⊢
  have hP : va_P (dC, dI) vwCl [(h0, .inr (9, [.int 1, .ref z0, .ref z1, .ref z2, .int 0, .int 0, .int 0]))] H := hP
  have hD : va_D A [(h0, .inr (9, [.int 1, .ref z0, .ref z1, .ref z2, .int 0, .int 0, .int 0]))] := hD
  refine lv_if_eq (tgt := 32) hx hb dX5_count_25 (by decide) (fun c9 => absurd c9 (by decide)) (fun _ => ?_)
  refine lv_iconst (v := 0) hx hb dX5_count_28 (by decide) ?_
  refine lv_goto (tgt := 50) hx hb dX5_count_29 (by decide) ?_
  exact W.iret (v := 0) hx hb hr (fun t ht hW => ⟨⟨0, (), rfl, rfl, by rw [ht]; exact hP, va_K.moved hW.alike hK, hD⟩, hS.F ht⟩) hS.2.2 dX5_count_50
set_option maxHeartbeats 4000000 in
set_option maxRecDepth 100000 in
theorem kx_X3_find_0 (l : Launch) (dC : Nat → ClassId) (dI : Nat → Nat → Nat) (h0 : Nat) (h1 : Nat) (h2 : Nat) (h3 : Nat) (h4 : Nat) (h5 : Nat) (z0 : Nat) (z1 : Nat) (z2 : Nat) (z3 : Nat) (z4 : Nat) (z5 : Nat) (z6 : Nat) (z7 : Nat) (z8 : Nat) (k0 : ClassId) (sz : Nat) : Met l yX3_find wsX3_find ({ frames := 1, cells := 0, slots := 0, locals := 23 }) (va_Pc [.ref h0, .int 0, .int 0, .int 0] (fun U => U.heap.size = sz ∧ va_P (dC, dI) vwCl [(h0, .inr (7, [.ref h1, .ref z0, .ref z1, .ref z2, .ref z3, .ref z4, .int 0, .int 0, .int 0])), (h1, .inl (k0, 4, .inr (.inr (.inr (.inr (va_up (va_up (va_up (va_up (fun _ => none) 0 (some h2)) 1 (some h3)) 2 (some h4)) 3 (some h5))))))), (h2, .inr (6, [.ref z5, .int 0])), (h3, .inr (6, [.ref z6, .int 0])), (h4, .inr (6, [.ref z7, .int 0])), (h5, .inr (6, [.ref z8, .int 0]))] U.heap ∧ va_K (dC, dI) vwCl [(k0, .object "Rewriterope$Text")] U ∧ va_D (fun _ => True) [(h0, .inr (7, [.ref h1, .ref z0, .ref z1, .ref z2, .ref z3, .ref z4, .int 0, .int 0, .int 0])), (h1, .inl (k0, 4, .inr (.inr (.inr (.inr (va_up (va_up (va_up (va_up (fun _ => none) 0 (some h2)) 1 (some h3)) 2 (some h4)) 3 (some h5))))))), (h2, .inr (6, [.ref z5, .int 0])), (h3, .inr (6, [.ref z6, .int 0])), (h4, .inr (6, [.ref z7, .int 0])), (h5, .inr (6, [.ref z8, .int 0]))])) (va_Qi (fun (r : Int32) (_ : Unit) => r = 0) (fun (_ : Unit) (t : State) => va_P (dC, dI) vwCl [(h0, .inr (7, [.ref h1, .ref z0, .ref z1, .ref z2, .ref z3, .ref z4, .int 0, .int 0, .int 0])), (h1, .inl (k0, 4, .inr (.inr (.inr (.inr (va_up (va_up (va_up (va_up (fun _ => none) 0 (some h2)) 1 (some h3)) 2 (some h4)) 3 (some h5))))))), (h2, .inr (6, [.ref z5, .int 0])), (h3, .inr (6, [.ref z6, .int 0])), (h4, .inr (6, [.ref z7, .int 0])), (h5, .inr (6, [.ref z8, .int 0]))] t.heap ∧ va_K (dC, dI) vwCl [(k0, .object "Rewriterope$Text")] t ∧ va_D (va_A [(h0, .inr (7, [.ref h1, .ref z0, .ref z1, .ref z2, .ref z3, .ref z4, .int 0, .int 0, .int 0])), (h1, .inl (k0, 4, .inr (.inr (.inr (.inr (va_up (va_up (va_up (va_up (fun _ => none) 0 (some h2)) 1 (some h3)) 2 (some h4)) 3 (some h5))))))), (h2, .inr (6, [.ref z5, .int 0])), (h3, .inr (6, [.ref z6, .int 0])), (h4, .inr (6, [.ref z7, .int 0])), (h5, .inr (6, [.ref z8, .int 0]))] sz) [(h0, .inr (7, [.ref h1, .ref z0, .ref z1, .ref z2, .ref z3, .ref z4, .int 0, .int 0, .int 0])), (h1, .inl (k0, 4, .inr (.inr (.inr (.inr (va_up (va_up (va_up (va_up (fun _ => none) 0 (some h2)) 1 (some h3)) 2 (some h4)) 3 (some h5))))))), (h2, .inr (6, [.ref z5, .int 0])), (h3, .inr (6, [.ref z6, .int 0])), (h4, .inr (6, [.ref z7, .int 0])), (h5, .inr (6, [.ref z8, .int 0]))]) (va_A [(h0, .inr (7, [.ref h1, .ref z0, .ref z1, .ref z2, .ref z3, .ref z4, .int 0, .int 0, .int 0])), (h1, .inl (k0, 4, .inr (.inr (.inr (.inr (va_up (va_up (va_up (va_up (fun _ => none) 0 (some h2)) 1 (some h3)) 2 (some h4)) 3 (some h5))))))), (h2, .inr (6, [.ref z5, .int 0])), (h3, .inr (6, [.ref z6, .int 0])), (h4, .inr (6, [.ref z7, .int 0])), (h5, .inr (6, [.ref z8, .int 0]))] sz)) 0 0 (va_A [(h0, .inr (7, [.ref h1, .ref z0, .ref z1, .ref z2, .ref z3, .ref z4, .int 0, .int 0, .int 0])), (h1, .inl (k0, 4, .inr (.inr (.inr (.inr (va_up (va_up (va_up (va_up (fun _ => none) 0 (some h2)) 1 (some h3)) 2 (some h4)) 3 (some h5))))))), (h2, .inr (6, [.ref z5, .int 0])), (h3, .inr (6, [.ref z6, .int 0])), (h4, .inr (6, [.ref z7, .int 0])), (h5, .inr (6, [.ref z8, .int 0]))] sz) := by
  refine Met.ofW (cc := cX3_find) (maxL := 7) (ret := (some .int)) (by decide) rfl ?_
  intro p e s m args below meth c s₁ B hml hv
  obtain ⟨rfl, hsz, hP, hK, hD0⟩ := hv
  have hx := B.exec
  have hb := B.bytes
  have hr := B.returns
  have hts := atoms_spec (ws := wsX3_find) B.pre
  have hown : s.vm.findClass RX3 = some m.cls := findClass_of_methodNamed B.named
  have hlocks := B.notSynchronized
  subst hsz
  have hD := hD0.self (sz := s.heap.size)
  generalize hAe : va_A [(h0, .inr (7, [.ref h1, .ref z0, .ref z1, .ref z2, .ref z3, .ref z4, .int 0, .int 0, .int 0])), (h1, .inl (k0, 4, .inr (.inr (.inr (.inr (va_up (va_up (va_up (va_up (fun _ => none) 0 (some h2)) 1 (some h3)) 2 (some h4)) 3 (some h5))))))), (h2, .inr (6, [.ref z5, .int 0])), (h3, .inr (6, [.ref z6, .int 0])), (h4, .inr (6, [.ref z7, .int 0])), (h5, .inr (6, [.ref z8, .int 0]))] s.heap.size = A at hD ⊢
  have hA : ∀ q : Nat, s.heap.size ≤ q → A q := fun q h => by rw [← hAe]; exact Or.inr h
  have hS : va_S A s.heap s.heap [] := va_S.rf
  have hP : va_P (dC, dI) vwCl [(h0, .inr (7, [.ref h1, .ref z0, .ref z1, .ref z2, .ref z3, .ref z4, .int 0, .int 0, .int 0])), (h1, .inl (k0, 4, .inr (.inr (.inr (.inr (va_up (va_up (va_up (va_up (fun _ => none) 0 (some h2)) 1 (some h3)) 2 (some h4)) 3 (some h5))))))), (h2, .inr (6, [.ref z5, .int 0])), (h3, .inr (6, [.ref z6, .int 0])), (h4, .inr (6, [.ref z7, .int 0])), (h5, .inr (6, [.ref z8, .int 0]))] s.heap := hP
  have hl := lv_entry ([.ref h0, .int 0, .int 0, .int 0]) (n := 7) (Nat.le_of_ble_eq_true rfl)
  rw [lg_entry_eq]
  generalize (lg_sl ([.ref h0, .int 0, .int 0, .int 0]) ++ List.replicate (7 - (lg_sl ([.ref h0, .int 0, .int 0, .int 0])).length) Slot.unset).toArray = ls at hl ⊢
  have hl : lv_has ls 7 [(0, .ref h0), (1, .int 0), (2, .int 0), (3, .int 0)] := hl
  refine lv_iload_n hx hb dX3_find_0 rfl (lv_at hl 1 rfl) ?_
  have hPc := hP.sub (ws' := []) [] rfl
  have hDc := hD.sub (ws' := []) [] (by decide) rfl
  have hKc := hK.sub (tys' := []) [] rfl
  have hFc := va_free (wc := []) hD hS hA [] rfl
  refine va_callv (va_runS (As := [.int 0]) (rest := []) ⟨hx, hb, hml, hown, hts⟩ (kx_X3_needRope_0 l dC dI s.heap.size) (cwS 1 hts gX3_find_X3_needRope rfl rfl rfl (by decide +kernel) ⟨Nat.le_of_ble_eq_true rfl, Nat.le_of_ble_eq_true rfl⟩) ⟨fun a U g mk q => by obtain ⟨q0, q1, qP, qK, qD⟩ := q; exact ⟨q0, q1, qP, va_K.moved (u := U) (U := U.calling g mk a) (Vm.Alike.refl U.vm) qK, qD⟩, fun U hU hW => ⟨rfl, by rw [hU], by rw [hU]; exact hPc, va_K.moved hW.alike hKc, hDc.weaken (fun _ _ _ _ => trivial)⟩⟩ rfl rfl hl.1 rfl (lv_room (Nat.le_of_ble_eq_true rfl)) dX3_find_1 ⟨Nat.le_of_ble_eq_true rfl, Nat.le_of_ble_eq_true rfl⟩) hS (fun q _ h => hFc q h) hFc (fun u t H1 locs ht hvm hw hB hz1 hk1 hS => ?_)
  obtain ⟨hP1, hK1, hD1⟩ := hB
  rw [ht] at hP1
  have hK1 := va_K.moved hvm.symm hK1
  obtain ⟨hP, hD⟩ := va_join (wr := [(h0, .inr (7, [.ref h1, .ref z0, .ref z1, .ref z2, .ref z3, .ref z4, .int 0, .int 0, .int 0])), (h1, .inl (k0, 4, .inr (.inr (.inr (.inr (va_up (va_up (va_up (va_up (fun _ => none) 0 (some h2)) 1 (some h3)) 2 (some h4)) 3 (some h5))))))), (h2, .inr (6, [.ref z5, .int 0])), (h3, .inr (6, [.ref z6, .int 0])), (h4, .inr (6, [.ref z7, .int 0])), (h5, .inr (6, [.ref z8, .int 0]))]) (w1 := []) hP hD [] [0, 1, 2, 3, 4, 5] rfl rfl (by decide) (by decide) hk1 hFc hP1 hD1
  generalize H1 = H at hP hS ⊢
  have hP : va_P (dC, dI) vwCl [(h0, .inr (7, [.ref h1, .ref z0, .ref z1, .ref z2, .ref z3, .ref z4, .int 0, .int 0, .int 0])), (h1, .inl (k0, 4, .inr (.inr (.inr (.inr (va_up (va_up (va_up (va_up (fun _ => none) 0 (some h2)) 1 (some h3)) 2 (some h4)) 3 (some h5))))))), (h2, .inr (6, [.ref z5, .int 0])), (h3, .inr (6, [.ref z6, .int 0])), (h4, .inr (6, [.ref z7, .int 0])), (h5, .inr (6, [.ref z8, .int 0]))] H := hP
  have hD : va_D A [(h0, .inr (7, [.ref h1, .ref z0, .ref z1, .ref z2, .ref z3, .ref z4, .int 0, .int 0, .int 0])), (h1, .inl (k0, 4, .inr (.inr (.inr (.inr (va_up (va_up (va_up (va_up (fun _ => none) 0 (some h2)) 1 (some h3)) 2 (some h4)) 3 (some h5))))))), (h2, .inr (6, [.ref z5, .int 0])), (h3, .inr (6, [.ref z6, .int 0])), (h4, .inr (6, [.ref z7, .int 0])), (h5, .inr (6, [.ref z8, .int 0]))] := hD
  refine lv_iload_n hx hb dX3_find_4 rfl (lv_at hl 2 rfl) ?_
  have hPc := hP.sub (ws' := []) [] rfl
  have hDc := hD.sub (ws' := []) [] (by decide) rfl
  have hKc := hK.sub (tys' := []) [] rfl
  have hFc := va_free (wc := []) hD hS hA [] rfl
  refine va_callv (va_runS (As := [.int 0]) (rest := []) ⟨hx, hb, hml, hown, hts⟩ (kx_X3_needRope_0 l dC dI H.size) (cwS 1 hts gX3_find_X3_needRope rfl rfl rfl (by decide +kernel) ⟨Nat.le_of_ble_eq_true rfl, Nat.le_of_ble_eq_true rfl⟩) ⟨fun a U g mk q => by obtain ⟨q0, q1, qP, qK, qD⟩ := q; exact ⟨q0, q1, qP, va_K.moved (u := U) (U := U.calling g mk a) (Vm.Alike.refl U.vm) qK, qD⟩, fun U hU hW => ⟨rfl, by rw [hU], by rw [hU]; exact hPc, va_K.moved hW.alike hKc, hDc.weaken (fun _ _ _ _ => trivial)⟩⟩ rfl rfl hl.1 rfl (lv_room (Nat.le_of_ble_eq_true rfl)) dX3_find_5 ⟨Nat.le_of_ble_eq_true rfl, Nat.le_of_ble_eq_true rfl⟩) hS (fun q _ h => hFc q h) hFc (fun u t H1 locs ht hvm hw hB hz1 hk1 hS => ?_)
  obtain ⟨hP1, hK1, hD1⟩ := hB
  rw [ht] at hP1
  have hK1 := va_K.moved hvm.symm hK1
  obtain ⟨hP, hD⟩ := va_join (wr := [(h0, .inr (7, [.ref h1, .ref z0, .ref z1, .ref z2, .ref z3, .ref z4, .int 0, .int 0, .int 0])), (h1, .inl (k0, 4, .inr (.inr (.inr (.inr (va_up (va_up (va_up (va_up (fun _ => none) 0 (some h2)) 1 (some h3)) 2 (some h4)) 3 (some h5))))))), (h2, .inr (6, [.ref z5, .int 0])), (h3, .inr (6, [.ref z6, .int 0])), (h4, .inr (6, [.ref z7, .int 0])), (h5, .inr (6, [.ref z8, .int 0]))]) (w1 := []) hP hD [] [0, 1, 2, 3, 4, 5] rfl rfl (by decide) (by decide) hk1 hFc hP1 hD1
  generalize H1 = H at hP hS ⊢
  have hP : va_P (dC, dI) vwCl [(h0, .inr (7, [.ref h1, .ref z0, .ref z1, .ref z2, .ref z3, .ref z4, .int 0, .int 0, .int 0])), (h1, .inl (k0, 4, .inr (.inr (.inr (.inr (va_up (va_up (va_up (va_up (fun _ => none) 0 (some h2)) 1 (some h3)) 2 (some h4)) 3 (some h5))))))), (h2, .inr (6, [.ref z5, .int 0])), (h3, .inr (6, [.ref z6, .int 0])), (h4, .inr (6, [.ref z7, .int 0])), (h5, .inr (6, [.ref z8, .int 0]))] H := hP
  have hD : va_D A [(h0, .inr (7, [.ref h1, .ref z0, .ref z1, .ref z2, .ref z3, .ref z4, .int 0, .int 0, .int 0])), (h1, .inl (k0, 4, .inr (.inr (.inr (.inr (va_up (va_up (va_up (va_up (fun _ => none) 0 (some h2)) 1 (some h3)) 2 (some h4)) 3 (some h5))))))), (h2, .inr (6, [.ref z5, .int 0])), (h3, .inr (6, [.ref z6, .int 0])), (h4, .inr (6, [.ref z7, .int 0])), (h5, .inr (6, [.ref z8, .int 0]))] := hD
  refine lv_iconst (v := (-1)) hx hb dX3_find_8 (by decide) ?_
  refine lv_istore (lv' := [(4, .int (-1)), (0, .ref h0), (1, .int 0), (2, .int 0), (3, .int 0)]) hx hb dX3_find_9 hl (by decide) rfl (fun ls hl => ?_)
  refine lv_iconst (v := 0) hx hb dX3_find_11 (by decide) ?_
  refine lv_istore (lv' := [(5, .int 0), (4, .int (-1)), (0, .ref h0), (1, .int 0), (2, .int 0), (3, .int 0)]) hx hb dX3_find_12 hl (by decide) rfl (fun ls hl => ?_)
  refine lv_iload hx hb dX3_find_14 (lv_at hl 0 rfl) ?_
  refine lv_aload_n hx hb dX3_find_16 rfl (lv_at hl 2 rfl) ?_
  refine va_get (D := (dC, dI)) (ci := 7) (v := .ref h1) (C := RX3) (T := TX3) (N := 9) hx hb hts (by decide +kernel) hown hK hP 0 rfl rfl 0 (by decide) (hts (.fieldLink RX3 11 "Rewriterope" "ropes" "[LRewriterope$Text;") (by decide +kernel)) (fun _ h9 => h9) rfl dX3_find_17 ?_
  refine lv_iload_n hx hb dX3_find_20 rfl (lv_at hl 3 rfl) ?_
  refine va_aldq (D := (dC, dI)) hx hb hK hP 1 0 rfl rfl (by unfold vp_in; decide) dX3_find_21 ?_
  refine W.eq (g2 := F0 m 22 ls [.ref h2, .int 0]) rfl ?_
  refine va_get (D := (dC, dI)) (ci := 6) (v := .int 0) (C := RX2) (T := TX2) (N := 2) hx hb hts (by decide +kernel) hown hK hP 2 rfl rfl 1 (by decide) (hts (.fieldLink RX3 65 "Rewriterope$Text" "length" "I") (by decide +kernel)) (fun _ h9 => h9) rfl dX3_find_22 ?_
  refine lv_icmp_gt (tgt := 80) hx hb dX3_find_25 (by decide) (fun c9 => absurd c9 (by decide)) (fun _ => ?_)
  refine lv_iload_n hx hb dX3_find_28 rfl (lv_at hl 5 rfl) ?_
  refine lv_if_ne (tgt := 38) hx hb dX3_find_29 (by decide) (fun c9 => absurd (by decide) c9) (fun _ => ?_)
  refine lv_iload hx hb dX3_find_32 (lv_at hl 1 rfl) ?_
  refine lv_iconst (v := (-1)) hx hb dX3_find_34 (by decide) ?_
  refine lv_icmp_ne (tgt := 42) hx hb dX3_find_35 (by decide) (fun c9 => absurd (by decide) c9) (fun _ => ?_)
  refine lv_iconst (v := 1) hx hb dX3_find_38 (by decide) ?_
  refine lv_goto (tgt := 43) hx hb dX3_find_39 (by decide) ?_
  refine lv_istore (lv' := [(6, .int 1), (5, .int 0), (4, .int (-1)), (0, .ref h0), (1, .int 0), (2, .int 0), (3, .int 0)]) hx hb dX3_find_43 hl (by decide) rfl (fun ls hl => ?_)
  refine lv_iload hx hb dX3_find_45 (lv_at hl 0 rfl) ?_
  refine lv_if_eq (tgt := 74) hx hb dX3_find_47 (by decide) (fun c9 => absurd c9 (by decide)) (fun _ => ?_)
  refine lv_aload_n hx hb dX3_find_50 rfl (lv_at hl 3 rfl) ?_
  refine va_get (D := (dC, dI)) (ci := 7) (v := .ref h1) (C := RX3) (T := TX3) (N := 9) hx hb hts (by decide +kernel) hown hK hP 0 rfl rfl 0 (by decide) (hts (.fieldLink RX3 11 "Rewriterope" "ropes" "[LRewriterope$Text;") (by decide +kernel)) (fun _ h9 => h9) rfl dX3_find_51 ?_
  refine lv_iload_n hx hb dX3_find_54 rfl (lv_at hl 4 rfl) ?_
  refine va_aldq (D := (dC, dI)) hx hb hK hP 1 0 rfl rfl (by unfold vp_in; decide) dX3_find_55 ?_
  refine W.eq (g2 := F0 m 56 ls [.ref h2]) rfl ?_
  refine lv_aload_n hx hb dX3_find_56 rfl (lv_at hl 3 rfl) ?_
  refine va_get (D := (dC, dI)) (ci := 7) (v := .ref h1) (C := RX3) (T := TX3) (N := 9) hx hb hts (by decide +kernel) hown hK hP 0 rfl rfl 0 (by decide) (hts (.fieldLink RX3 11 "Rewriterope" "ropes" "[LRewriterope$Text;") (by decide +kernel)) (fun _ h9 => h9) rfl dX3_find_57 ?_
  refine lv_iload_n hx hb dX3_find_60 rfl (lv_at hl 5 rfl) ?_
  refine va_aldq (D := (dC, dI)) hx hb hK hP 1 0 rfl rfl (by unfold vp_in; decide) dX3_find_61 ?_
  refine W.eq (g2 := F0 m 62 ls [.ref h2, .ref h2]) rfl ?_
  refine lv_iload hx hb dX3_find_62 (lv_at hl 1 rfl) ?_
  have hPc := hP.sub (ws' := [(h2, .inr (6, [.ref z5, .int 0]))]) [2] rfl
  have hDc := hD.sub (ws' := [(h2, .inr (6, [.ref z5, .int 0]))]) [2] (by decide) rfl
  have hKc := hK.sub (tys' := []) [] rfl
  have hFc := va_free (wc := [(h2, .inr (6, [.ref z5, .int 0]))]) hD hS hA [2] rfl
  refine va_calli (va_runV (As := [.ref h2, .int 0]) (rest := []) ⟨hx, hb, hml, hown, hts⟩ (kx_X2_holds_0 l dC dI h2 z5 H.size) (cwV 2 hts gX3_find_X2_holds rfl rfl rfl (by decide +kernel) ⟨Nat.le_of_ble_eq_true rfl, Nat.le_of_ble_eq_true rfl⟩) ⟨fun a U g mk q => by obtain ⟨q0, q1, qP, qK, qD⟩ := q; exact ⟨q0, q1, qP, va_K.moved (u := U) (U := U.calling g mk a) (Vm.Alike.refl U.vm) qK, qD⟩, va_recv hKc hPc (ci := 6) (q0 := 0) rfl rfl, fun U hU hW => ⟨rfl, by rw [hU], by rw [hU]; exact hPc, va_K.moved hW.alike hKc, hDc.weaken (fun _ _ _ _ => trivial)⟩⟩ rfl rfl hl.1 rfl (lv_room (Nat.le_of_ble_eq_true rfl)) dX3_find_64 ⟨Nat.le_of_ble_eq_true rfl, Nat.le_of_ble_eq_true rfl⟩) hS (fun q _ h => hFc q h) hFc (fun r9 u t H1 locs ht hvm hw hB hz1 hk1 hS => ?_)
  obtain rfl := hw
  obtain ⟨hP1, hK1, hD1⟩ := hB
  rw [ht] at hP1
  have hK1 := va_K.moved hvm.symm hK1
  obtain ⟨hP, hD⟩ := va_join (wr := [(h0, .inr (7, [.ref h1, .ref z0, .ref z1, .ref z2, .ref z3, .ref z4, .int 0, .int 0, .int 0])), (h1, .inl (k0, 4, .inr (.inr (.inr (.inr (va_up (va_up (va_up (va_up (fun _ => none) 0 (some h2)) 1 (some h3)) 2 (some h4)) 3 (some h5))))))), (h3, .inr (6, [.ref z6, .int 0])), (h4, .inr (6, [.ref z7, .int 0])), (h5, .inr (6, [.ref z8, .int 0]))]) (w1 := [(h2, .inr (6, [.ref z5, .int 0]))]) hP hD [2] [0, 1, 3, 4, 5] rfl rfl (by decide) (by decide) hk1 hFc hP1 hD1
  generalize H1 = H at hP hS ⊢
  have hP : va_P (dC, dI) vwCl [(h0, .inr (7, [.ref h1, .ref z0, .ref z1, .ref z2, .ref z3, .ref z4, .int 0, .int 0, .int 0])), (h1, .inl (k0, 4, .inr (.inr (.inr (.inr (va_up (va_up (va_up (va_up (fun _ => none) 0 (some h2)) 1 (some h3)) 2 (some h4)) 3 (some h5))))))), (h3, .inr (6, [.ref z6, .int 0])), (h4, .inr (6, [.ref z7, .int 0])), (h5, .inr (6, [.ref z8, .int 0])), (h2, .inr (6, [.ref z5, .int 0]))] H := hP
  have hD : va_D A [(h0, .inr (7, [.ref h1, .ref z0, .ref z1, .ref z2, .ref z3, .ref z4, .int 0, .int 0, .int 0])), (h1, .inl (k0, 4, .inr (.inr (.inr (.inr (va_up (va_up (va_up (va_up (fun _ => none) 0 (some h2)) 1 (some h3)) 2 (some h4)) 3 (some h5))))))), (h3, .inr (6, [.ref z6, .int 0])), (h4, .inr (6, [.ref z7, .int 0])), (h5, .inr (6, [.ref z8, .int 0])), (h2, .inr (6, [.ref z5, .int 0]))] := hD
  refine lv_if_eq (tgt := 74) hx hb dX3_find_67 (by decide) (fun c9 => absurd c9 (by decide)) (fun _ => ?_)
  refine lv_iload hx hb dX3_find_70 (lv_at hl 1 rfl) ?_
  refine lv_istore (lv' := [(4, .int 0), (6, .int 1), (5, .int 0), (0, .ref h0), (1, .int 0), (2, .int 0), (3, .int 0)]) hx hb dX3_find_72 hl (by decide) rfl (fun ls hl => ?_)
  refine lv_iinc (v := 1) (lv' := [(5, .int 1), (4, .int 0), (6, .int 1), (0, .ref h0), (1, .int 0), (2, .int 0), (3, .int 0)]) hx hb dX3_find_74 hl (k := 2) rfl (by decide) (by decide) rfl (fun ls hl => ?_)
  refine lv_goto (tgt := 14) hx hb dX3_find_77 (by decide) ?_
  refine lv_iload hx hb dX3_find_14 (lv_at hl 0 rfl) ?_
  refine lv_aload_n hx hb dX3_find_16 rfl (lv_at hl 3 rfl) ?_
  refine va_get (D := (dC, dI)) (ci := 7) (v := .ref h1) (C := RX3) (T := TX3) (N := 9) hx hb hts (by decide +kernel) hown hK hP 0 rfl rfl 0 (by decide) (hts (.fieldLink RX3 11 "Rewriterope" "ropes" "[LRewriterope$Text;") (by decide +kernel)) (fun _ h9 => h9) rfl dX3_find_17 ?_
  refine lv_iload_n hx hb dX3_find_20 rfl (lv_at hl 4 rfl) ?_
  refine va_aldq (D := (dC, dI)) hx hb hK hP 1 0 rfl rfl (by unfold vp_in; decide) dX3_find_21 ?_
  refine W.eq (g2 := F0 m 22 ls [.ref h2, .int 1]) rfl ?_
  refine va_get (D := (dC, dI)) (ci := 6) (v := .int 0) (C := RX2) (T := TX2) (N := 2) hx hb hts (by decide +kernel) hown hK hP 5 rfl rfl 1 (by decide) (hts (.fieldLink RX3 65 "Rewriterope$Text" "length" "I") (by decide +kernel)) (fun _ h9 => h9) rfl dX3_find_22 ?_
  refine lv_icmp_gt (tgt := 80) hx hb dX3_find_25 (by decide) (fun _ => ?_) (fun c9 => absurd (by decide) c9)
  refine lv_iload hx hb dX3_find_80 (lv_at hl 1 rfl) ?_
  have hP := hP.sub (ws' := [(h0, .inr (7, [.ref h1, .ref z0, .ref z1, .ref z2, .ref z3, .ref z4, .int 0, .int 0, .int 0])), (h1, .inl (k0, 4, .inr (.inr (.inr (.inr (va_up (va_up (va_up (va_up (fun _ => none) 0 (some h2)) 1 (some h3)) 2 (some h4)) 3 (some h5))))))), (h2, .inr (6, [.ref z5, .int 0])), (h3, .inr (6, [.ref z6, .int 0])), (h4, .inr (6, [.ref z7, .int 0])), (h5, .inr (6, [.ref z8, .int 0]))]) [0, 1, 5, 2, 3, 4] rfl
  have hD := hD.sub (ws' := [(h0, .inr (7, [.ref h1, .ref z0, .ref z1, .ref z2, .ref z3, .ref z4, .int 0, .int 0, .int 0])), (h1, .inl (k0, 4, .inr (.inr (.inr (.inr (va_up (va_up (va_up (va_up (fun _ => none) 0 (some h2)) 1 (some h3)) 2 (some h4)) 3 (some h5))))))), (h2, .inr (6, [.ref z5, .int 0])), (h3, .inr (6, [.ref z6, .int 0])), (h4, .inr (6, [.ref z7, .int 0])), (h5, .inr (6, [.ref z8, .int 0]))]) [0, 1, 5, 2, 3, 4] (by decide) rfl
  exact W.iret (v := 0) hx hb hr (fun t ht hW => ⟨⟨0, (), rfl, rfl, by rw [ht]; exact hP, va_K.moved hW.alike hK, hD⟩, hS.F ht⟩) hS.2.2 dX3_find_82
set_option maxHeartbeats 4000000 in
set_option maxRecDepth 100000 in
theorem kx_X3_find_1 (l : Launch) (dC : Nat → ClassId) (dI : Nat → Nat → Nat) (h0 : Nat) (h1 : Nat) (h2 : Nat) (h3 : Nat) (h4 : Nat) (h5 : Nat) (z0 : Nat) (z1 : Nat) (z2 : Nat) (z3 : Nat) (z4 : Nat) (z5 : Nat) (z6 : Nat) (z7 : Nat) (z8 : Nat) (k0 : ClassId) (sz : Nat) : Met l yX3_find wsX3_find ({ frames := 1, cells := 0, slots := 0, locals := 23 }) (va_Pc [.ref h0, .int 0, .int 1, .int 0] (fun U => U.heap.size = sz ∧ va_P (dC, dI) vwCl [(h0, .inr (7, [.ref h1, .ref z0, .ref z1, .ref z2, .ref z3, .ref z4, .int 0, .int 0, .int 0])), (h1, .inl (k0, 4, .inr (.inr (.inr (.inr (va_up (va_up (va_up (va_up (fun _ => none) 0 (some h2)) 1 (some h3)) 2 (some h4)) 3 (some h5))))))), (h2, .inr (6, [.ref z5, .int 0])), (h3, .inr (6, [.ref z6, .int 0])), (h4, .inr (6, [.ref z7, .int 0])), (h5, .inr (6, [.ref z8, .int 0]))] U.heap ∧ va_K (dC, dI) vwCl [(k0, .object "Rewriterope$Text")] U ∧ va_D (fun _ => True) [(h0, .inr (7, [.ref h1, .ref z0, .ref z1, .ref z2, .ref z3, .ref z4, .int 0, .int 0, .int 0])), (h1, .inl (k0, 4, .inr (.inr (.inr (.inr (va_up (va_up (va_up (va_up (fun _ => none) 0 (some h2)) 1 (some h3)) 2 (some h4)) 3 (some h5))))))), (h2, .inr (6, [.ref z5, .int 0])), (h3, .inr (6, [.ref z6, .int 0])), (h4, .inr (6, [.ref z7, .int 0])), (h5, .inr (6, [.ref z8, .int 0]))])) (va_Qi (fun (r : Int32) (_ : Unit) => r = 0) (fun (_ : Unit) (t : State) => va_P (dC, dI) vwCl [(h0, .inr (7, [.ref h1, .ref z0, .ref z1, .ref z2, .ref z3, .ref z4, .int 0, .int 0, .int 0])), (h1, .inl (k0, 4, .inr (.inr (.inr (.inr (va_up (va_up (va_up (va_up (fun _ => none) 0 (some h2)) 1 (some h3)) 2 (some h4)) 3 (some h5))))))), (h2, .inr (6, [.ref z5, .int 0])), (h3, .inr (6, [.ref z6, .int 0])), (h4, .inr (6, [.ref z7, .int 0])), (h5, .inr (6, [.ref z8, .int 0]))] t.heap ∧ va_K (dC, dI) vwCl [(k0, .object "Rewriterope$Text")] t ∧ va_D (va_A [(h0, .inr (7, [.ref h1, .ref z0, .ref z1, .ref z2, .ref z3, .ref z4, .int 0, .int 0, .int 0])), (h1, .inl (k0, 4, .inr (.inr (.inr (.inr (va_up (va_up (va_up (va_up (fun _ => none) 0 (some h2)) 1 (some h3)) 2 (some h4)) 3 (some h5))))))), (h2, .inr (6, [.ref z5, .int 0])), (h3, .inr (6, [.ref z6, .int 0])), (h4, .inr (6, [.ref z7, .int 0])), (h5, .inr (6, [.ref z8, .int 0]))] sz) [(h0, .inr (7, [.ref h1, .ref z0, .ref z1, .ref z2, .ref z3, .ref z4, .int 0, .int 0, .int 0])), (h1, .inl (k0, 4, .inr (.inr (.inr (.inr (va_up (va_up (va_up (va_up (fun _ => none) 0 (some h2)) 1 (some h3)) 2 (some h4)) 3 (some h5))))))), (h2, .inr (6, [.ref z5, .int 0])), (h3, .inr (6, [.ref z6, .int 0])), (h4, .inr (6, [.ref z7, .int 0])), (h5, .inr (6, [.ref z8, .int 0]))]) (va_A [(h0, .inr (7, [.ref h1, .ref z0, .ref z1, .ref z2, .ref z3, .ref z4, .int 0, .int 0, .int 0])), (h1, .inl (k0, 4, .inr (.inr (.inr (.inr (va_up (va_up (va_up (va_up (fun _ => none) 0 (some h2)) 1 (some h3)) 2 (some h4)) 3 (some h5))))))), (h2, .inr (6, [.ref z5, .int 0])), (h3, .inr (6, [.ref z6, .int 0])), (h4, .inr (6, [.ref z7, .int 0])), (h5, .inr (6, [.ref z8, .int 0]))] sz)) 0 0 (va_A [(h0, .inr (7, [.ref h1, .ref z0, .ref z1, .ref z2, .ref z3, .ref z4, .int 0, .int 0, .int 0])), (h1, .inl (k0, 4, .inr (.inr (.inr (.inr (va_up (va_up (va_up (va_up (fun _ => none) 0 (some h2)) 1 (some h3)) 2 (some h4)) 3 (some h5))))))), (h2, .inr (6, [.ref z5, .int 0])), (h3, .inr (6, [.ref z6, .int 0])), (h4, .inr (6, [.ref z7, .int 0])), (h5, .inr (6, [.ref z8, .int 0]))] sz) := by
  refine Met.ofW (cc := cX3_find) (maxL := 7) (ret := (some .int)) (by decide) rfl ?_
  intro p e s m args below meth c s₁ B hml hv
  obtain ⟨rfl, hsz, hP, hK, hD0⟩ := hv
  have hx := B.exec
  have hb := B.bytes
  have hr := B.returns
  have hts := atoms_spec (ws := wsX3_find) B.pre
  have hown : s.vm.findClass RX3 = some m.cls := findClass_of_methodNamed B.named
  have hlocks := B.notSynchronized
  subst hsz
  have hD := hD0.self (sz := s.heap.size)
  generalize hAe : va_A [(h0, .inr (7, [.ref h1, .ref z0, .ref z1, .ref z2, .ref z3, .ref z4, .int 0, .int 0, .int 0])), (h1, .inl (k0, 4, .inr (.inr (.inr (.inr (va_up (va_up (va_up (va_up (fun _ => none) 0 (some h2)) 1 (some h3)) 2 (some h4)) 3 (some h5))))))), (h2, .inr (6, [.ref z5, .int 0])), (h3, .inr (6, [.ref z6, .int 0])), (h4, .inr (6, [.ref z7, .int 0])), (h5, .inr (6, [.ref z8, .int 0]))] s.heap.size = A at hD ⊢
  have hA : ∀ q : Nat, s.heap.size ≤ q → A q := fun q h => by rw [← hAe]; exact Or.inr h
  have hS : va_S A s.heap s.heap [] := va_S.rf
  have hP : va_P (dC, dI) vwCl [(h0, .inr (7, [.ref h1, .ref z0, .ref z1, .ref z2, .ref z3, .ref z4, .int 0, .int 0, .int 0])), (h1, .inl (k0, 4, .inr (.inr (.inr (.inr (va_up (va_up (va_up (va_up (fun _ => none) 0 (some h2)) 1 (some h3)) 2 (some h4)) 3 (some h5))))))), (h2, .inr (6, [.ref z5, .int 0])), (h3, .inr (6, [.ref z6, .int 0])), (h4, .inr (6, [.ref z7, .int 0])), (h5, .inr (6, [.ref z8, .int 0]))] s.heap := hP
  have hl := lv_entry ([.ref h0, .int 0, .int 1, .int 0]) (n := 7) (Nat.le_of_ble_eq_true rfl)
  rw [lg_entry_eq]
  generalize (lg_sl ([.ref h0, .int 0, .int 1, .int 0]) ++ List.replicate (7 - (lg_sl ([.ref h0, .int 0, .int 1, .int 0])).length) Slot.unset).toArray = ls at hl ⊢
  have hl : lv_has ls 7 [(0, .ref h0), (1, .int 0), (2, .int 1), (3, .int 0)] := hl
  refine lv_iload_n hx hb dX3_find_0 rfl (lv_at hl 1 rfl) ?_
  have hPc := hP.sub (ws' := []) [] rfl
  have hDc := hD.sub (ws' := []) [] (by decide) rfl
  have hKc := hK.sub (tys' := []) [] rfl
  have hFc := va_free (wc := []) hD hS hA [] rfl
  refine va_callv (va_runS (As := [.int 0]) (rest := []) ⟨hx, hb, hml, hown, hts⟩ (kx_X3_needRope_0 l dC dI s.heap.size) (cwS 1 hts gX3_find_X3_needRope rfl rfl rfl (by decide +kernel) ⟨Nat.le_of_ble_eq_true rfl, Nat.le_of_ble_eq_true rfl⟩) ⟨fun a U g mk q => by obtain ⟨q0, q1, qP, qK, qD⟩ := q; exact ⟨q0, q1, qP, va_K.moved (u := U) (U := U.calling g mk a) (Vm.Alike.refl U.vm) qK, qD⟩, fun U hU hW => ⟨rfl, by rw [hU], by rw [hU]; exact hPc, va_K.moved hW.alike hKc, hDc.weaken (fun _ _ _ _ => trivial)⟩⟩ rfl rfl hl.1 rfl (lv_room (Nat.le_of_ble_eq_true rfl)) dX3_find_1 ⟨Nat.le_of_ble_eq_true rfl, Nat.le_of_ble_eq_true rfl⟩) hS (fun q _ h => hFc q h) hFc (fun u t H1 locs ht hvm hw hB hz1 hk1 hS => ?_)
  obtain ⟨hP1, hK1, hD1⟩ := hB
  rw [ht] at hP1
  have hK1 := va_K.moved hvm.symm hK1
  obtain ⟨hP, hD⟩ := va_join (wr := [(h0, .inr (7, [.ref h1, .ref z0, .ref z1, .ref z2, .ref z3, .ref z4, .int 0, .int 0, .int 0])), (h1, .inl (k0, 4, .inr (.inr (.inr (.inr (va_up (va_up (va_up (va_up (fun _ => none) 0 (some h2)) 1 (some h3)) 2 (some h4)) 3 (some h5))))))), (h2, .inr (6, [.ref z5, .int 0])), (h3, .inr (6, [.ref z6, .int 0])), (h4, .inr (6, [.ref z7, .int 0])), (h5, .inr (6, [.ref z8, .int 0]))]) (w1 := []) hP hD [] [0, 1, 2, 3, 4, 5] rfl rfl (by decide) (by decide) hk1 hFc hP1 hD1
  generalize H1 = H at hP hS ⊢
  have hP : va_P (dC, dI) vwCl [(h0, .inr (7, [.ref h1, .ref z0, .ref z1, .ref z2, .ref z3, .ref z4, .int 0, .int 0, .int 0])), (h1, .inl (k0, 4, .inr (.inr (.inr (.inr (va_up (va_up (va_up (va_up (fun _ => none) 0 (some h2)) 1 (some h3)) 2 (some h4)) 3 (some h5))))))), (h2, .inr (6, [.ref z5, .int 0])), (h3, .inr (6, [.ref z6, .int 0])), (h4, .inr (6, [.ref z7, .int 0])), (h5, .inr (6, [.ref z8, .int 0]))] H := hP
  have hD : va_D A [(h0, .inr (7, [.ref h1, .ref z0, .ref z1, .ref z2, .ref z3, .ref z4, .int 0, .int 0, .int 0])), (h1, .inl (k0, 4, .inr (.inr (.inr (.inr (va_up (va_up (va_up (va_up (fun _ => none) 0 (some h2)) 1 (some h3)) 2 (some h4)) 3 (some h5))))))), (h2, .inr (6, [.ref z5, .int 0])), (h3, .inr (6, [.ref z6, .int 0])), (h4, .inr (6, [.ref z7, .int 0])), (h5, .inr (6, [.ref z8, .int 0]))] := hD
  refine lv_iload_n hx hb dX3_find_4 rfl (lv_at hl 2 rfl) ?_
  have hPc := hP.sub (ws' := []) [] rfl
  have hDc := hD.sub (ws' := []) [] (by decide) rfl
  have hKc := hK.sub (tys' := []) [] rfl
  have hFc := va_free (wc := []) hD hS hA [] rfl
  refine va_callv (va_runS (As := [.int 1]) (rest := []) ⟨hx, hb, hml, hown, hts⟩ (kx_X3_needRope_1 l dC dI H.size) (cwS 1 hts gX3_find_X3_needRope rfl rfl rfl (by decide +kernel) ⟨Nat.le_of_ble_eq_true rfl, Nat.le_of_ble_eq_true rfl⟩) ⟨fun a U g mk q => by obtain ⟨q0, q1, qP, qK, qD⟩ := q; exact ⟨q0, q1, qP, va_K.moved (u := U) (U := U.calling g mk a) (Vm.Alike.refl U.vm) qK, qD⟩, fun U hU hW => ⟨rfl, by rw [hU], by rw [hU]; exact hPc, va_K.moved hW.alike hKc, hDc.weaken (fun _ _ _ _ => trivial)⟩⟩ rfl rfl hl.1 rfl (lv_room (Nat.le_of_ble_eq_true rfl)) dX3_find_5 ⟨Nat.le_of_ble_eq_true rfl, Nat.le_of_ble_eq_true rfl⟩) hS (fun q _ h => hFc q h) hFc (fun u t H1 locs ht hvm hw hB hz1 hk1 hS => ?_)
  obtain ⟨hP1, hK1, hD1⟩ := hB
  rw [ht] at hP1
  have hK1 := va_K.moved hvm.symm hK1
  obtain ⟨hP, hD⟩ := va_join (wr := [(h0, .inr (7, [.ref h1, .ref z0, .ref z1, .ref z2, .ref z3, .ref z4, .int 0, .int 0, .int 0])), (h1, .inl (k0, 4, .inr (.inr (.inr (.inr (va_up (va_up (va_up (va_up (fun _ => none) 0 (some h2)) 1 (some h3)) 2 (some h4)) 3 (some h5))))))), (h2, .inr (6, [.ref z5, .int 0])), (h3, .inr (6, [.ref z6, .int 0])), (h4, .inr (6, [.ref z7, .int 0])), (h5, .inr (6, [.ref z8, .int 0]))]) (w1 := []) hP hD [] [0, 1, 2, 3, 4, 5] rfl rfl (by decide) (by decide) hk1 hFc hP1 hD1
  generalize H1 = H at hP hS ⊢
  have hP : va_P (dC, dI) vwCl [(h0, .inr (7, [.ref h1, .ref z0, .ref z1, .ref z2, .ref z3, .ref z4, .int 0, .int 0, .int 0])), (h1, .inl (k0, 4, .inr (.inr (.inr (.inr (va_up (va_up (va_up (va_up (fun _ => none) 0 (some h2)) 1 (some h3)) 2 (some h4)) 3 (some h5))))))), (h2, .inr (6, [.ref z5, .int 0])), (h3, .inr (6, [.ref z6, .int 0])), (h4, .inr (6, [.ref z7, .int 0])), (h5, .inr (6, [.ref z8, .int 0]))] H := hP
  have hD : va_D A [(h0, .inr (7, [.ref h1, .ref z0, .ref z1, .ref z2, .ref z3, .ref z4, .int 0, .int 0, .int 0])), (h1, .inl (k0, 4, .inr (.inr (.inr (.inr (va_up (va_up (va_up (va_up (fun _ => none) 0 (some h2)) 1 (some h3)) 2 (some h4)) 3 (some h5))))))), (h2, .inr (6, [.ref z5, .int 0])), (h3, .inr (6, [.ref z6, .int 0])), (h4, .inr (6, [.ref z7, .int 0])), (h5, .inr (6, [.ref z8, .int 0]))] := hD
  refine lv_iconst (v := (-1)) hx hb dX3_find_8 (by decide) ?_
  refine lv_istore (lv' := [(4, .int (-1)), (0, .ref h0), (1, .int 0), (2, .int 1), (3, .int 0)]) hx hb dX3_find_9 hl (by decide) rfl (fun ls hl => ?_)
  refine lv_iconst (v := 0) hx hb dX3_find_11 (by decide) ?_
  refine lv_istore (lv' := [(5, .int 0), (4, .int (-1)), (0, .ref h0), (1, .int 0), (2, .int 1), (3, .int 0)]) hx hb dX3_find_12 hl (by decide) rfl (fun ls hl => ?_)
  refine lv_iload hx hb dX3_find_14 (lv_at hl 0 rfl) ?_
  refine lv_aload_n hx hb dX3_find_16 rfl (lv_at hl 2 rfl) ?_
  refine va_get (D := (dC, dI)) (ci := 7) (v := .ref h1) (C := RX3) (T := TX3) (N := 9) hx hb hts (by decide +kernel) hown hK hP 0 rfl rfl 0 (by decide) (hts (.fieldLink RX3 11 "Rewriterope" "ropes" "[LRewriterope$Text;") (by decide +kernel)) (fun _ h9 => h9) rfl dX3_find_17 ?_
  refine lv_iload_n hx hb dX3_find_20 rfl (lv_at hl 3 rfl) ?_
  refine va_aldq (D := (dC, dI)) hx hb hK hP 1 0 rfl rfl (by unfold vp_in; decide) dX3_find_21 ?_
  refine W.eq (g2 := F0 m 22 ls [.ref h2, .int 0]) rfl ?_
  refine va_get (D := (dC, dI)) (ci := 6) (v := .int 0) (C := RX2) (T := TX2) (N := 2) hx hb hts (by decide +kernel) hown hK hP 2 rfl rfl 1 (by decide) (hts (.fieldLink RX3 65 "Rewriterope$Text" "length" "I") (by decide +kernel)) (fun _ h9 => h9) rfl dX3_find_22 ?_
  refine lv_icmp_gt (tgt := 80) hx hb dX3_find_25 (by decide) (fun c9 => absurd c9 (by decide)) (fun _ => ?_)
  refine lv_iload_n hx hb dX3_find_28 rfl (lv_at hl 5 rfl) ?_
  refine lv_if_ne (tgt := 38) hx hb dX3_find_29 (by decide) (fun c9 => absurd (by decide) c9) (fun _ => ?_)
  refine lv_iload hx hb dX3_find_32 (lv_at hl 1 rfl) ?_
  refine lv_iconst (v := (-1)) hx hb dX3_find_34 (by decide) ?_
  refine lv_icmp_ne (tgt := 42) hx hb dX3_find_35 (by decide) (fun c9 => absurd (by decide) c9) (fun _ => ?_)
  refine lv_iconst (v := 1) hx hb dX3_find_38 (by decide) ?_
  refine lv_goto (tgt := 43) hx hb dX3_find_39 (by decide) ?_
  refine lv_istore (lv' := [(6, .int 1), (5, .int 0), (4, .int (-1)), (0, .ref h0), (1, .int 0), (2, .int 1), (3, .int 0)]) hx hb dX3_find_43 hl (by decide) rfl (fun ls hl => ?_)
  refine lv_iload hx hb dX3_find_45 (lv_at hl 0 rfl) ?_
  refine lv_if_eq (tgt := 74) hx hb dX3_find_47 (by decide) (fun c9 => absurd c9 (by decide)) (fun _ => ?_)
  refine lv_aload_n hx hb dX3_find_50 rfl (lv_at hl 3 rfl) ?_
  refine va_get (D := (dC, dI)) (ci := 7) (v := .ref h1) (C := RX3) (T := TX3) (N := 9) hx hb hts (by decide +kernel) hown hK hP 0 rfl rfl 0 (by decide) (hts (.fieldLink RX3 11 "Rewriterope" "ropes" "[LRewriterope$Text;") (by decide +kernel)) (fun _ h9 => h9) rfl dX3_find_51 ?_
  refine lv_iload_n hx hb dX3_find_54 rfl (lv_at hl 4 rfl) ?_
  refine va_aldq (D := (dC, dI)) hx hb hK hP 1 0 rfl rfl (by unfold vp_in; decide) dX3_find_55 ?_
  refine W.eq (g2 := F0 m 56 ls [.ref h2]) rfl ?_
  refine lv_aload_n hx hb dX3_find_56 rfl (lv_at hl 3 rfl) ?_
  refine va_get (D := (dC, dI)) (ci := 7) (v := .ref h1) (C := RX3) (T := TX3) (N := 9) hx hb hts (by decide +kernel) hown hK hP 0 rfl rfl 0 (by decide) (hts (.fieldLink RX3 11 "Rewriterope" "ropes" "[LRewriterope$Text;") (by decide +kernel)) (fun _ h9 => h9) rfl dX3_find_57 ?_
  refine lv_iload_n hx hb dX3_find_60 rfl (lv_at hl 5 rfl) ?_
  refine va_aldq (D := (dC, dI)) hx hb hK hP 1 0 rfl rfl (by unfold vp_in; decide) dX3_find_61 ?_
  refine W.eq (g2 := F0 m 62 ls [.ref h3, .ref h2]) rfl ?_
  refine lv_iload hx hb dX3_find_62 (lv_at hl 1 rfl) ?_
  have hPc := hP.sub (ws' := [(h2, .inr (6, [.ref z5, .int 0])), (h3, .inr (6, [.ref z6, .int 0]))]) [2, 3] rfl
  have hDc := hD.sub (ws' := [(h2, .inr (6, [.ref z5, .int 0])), (h3, .inr (6, [.ref z6, .int 0]))]) [2, 3] (by decide) rfl
  have hKc := hK.sub (tys' := []) [] rfl
  have hFc := va_free (wc := [(h2, .inr (6, [.ref z5, .int 0])), (h3, .inr (6, [.ref z6, .int 0]))]) hD hS hA [2, 3] rfl
  refine va_calli (va_runV (As := [.ref h3, .int 0]) (rest := []) ⟨hx, hb, hml, hown, hts⟩ (kx_X2_holds_1 l dC dI h2 h3 z5 z6 H.size) (cwV 2 hts gX3_find_X2_holds rfl rfl rfl (by decide +kernel) ⟨Nat.le_of_ble_eq_true rfl, Nat.le_of_ble_eq_true rfl⟩) ⟨fun a U g mk q => by obtain ⟨q0, q1, qP, qK, qD⟩ := q; exact ⟨q0, q1, qP, va_K.moved (u := U) (U := U.calling g mk a) (Vm.Alike.refl U.vm) qK, qD⟩, va_recv hKc hPc (ci := 6) (q0 := 0) rfl rfl, fun U hU hW => ⟨rfl, by rw [hU], by rw [hU]; exact hPc, va_K.moved hW.alike hKc, hDc.weaken (fun _ _ _ _ => trivial)⟩⟩ rfl rfl hl.1 rfl (lv_room (Nat.le_of_ble_eq_true rfl)) dX3_find_64 ⟨Nat.le_of_ble_eq_true rfl, Nat.le_of_ble_eq_true rfl⟩) hS (fun q _ h => hFc q h) hFc (fun r9 u t H1 locs ht hvm hw hB hz1 hk1 hS => ?_)
  obtain rfl := hw
  obtain ⟨hP1, hK1, hD1⟩ := hB
  rw [ht] at hP1
  have hK1 := va_K.moved hvm.symm hK1
  obtain ⟨hP, hD⟩ := va_join (wr := [(h0, .inr (7, [.ref h1, .ref z0, .ref z1, .ref z2, .ref z3, .ref z4, .int 0, .int 0, .int 0])), (h1, .inl (k0, 4, .inr (.inr (.inr (.inr (va_up (va_up (va_up (va_up (fun _ => none) 0 (some h2)) 1 (some h3)) 2 (some h4)) 3 (some h5))))))), (h4, .inr (6, [.ref z7, .int 0])), (h5, .inr (6, [.ref z8, .int 0]))]) (w1 := [(h2, .inr (6, [.ref z5, .int 0])), (h3, .inr (6, [.ref z6, .int 0]))]) hP hD [2, 3] [0, 1, 4, 5] rfl rfl (by decide) (by decide) hk1 hFc hP1 hD1
  generalize H1 = H at hP hS ⊢
  have hP : va_P (dC, dI) vwCl [(h0, .inr (7, [.ref h1, .ref z0, .ref z1, .ref z2, .ref z3, .ref z4, .int 0, .int 0, .int 0])), (h1, .inl (k0, 4, .inr (.inr (.inr (.inr (va_up (va_up (va_up (va_up (fun _ => none) 0 (some h2)) 1 (some h3)) 2 (some h4)) 3 (some h5))))))), (h4, .inr (6, [.ref z7, .int 0])), (h5, .inr (6, [.ref z8, .int 0])), (h2, .inr (6, [.ref z5, .int 0])), (h3, .inr (6, [.ref z6, .int 0]))] H := hP
  have hD : va_D A [(h0, .inr (7, [.ref h1, .ref z0, .ref z1, .ref z2, .ref z3, .ref z4, .int 0, .int 0, .int 0])), (h1, .inl (k0, 4, .inr (.inr (.inr (.inr (va_up (va_up (va_up (va_up (fun _ => none) 0 (some h2)) 1 (some h3)) 2 (some h4)) 3 (some h5))))))), (h4, .inr (6, [.ref z7, .int 0])), (h5, .inr (6, [.ref z8, .int 0])), (h2, .inr (6, [.ref z5, .int 0])), (h3, .inr (6, [.ref z6, .int 0]))] := hD
  refine lv_if_eq (tgt := 74) hx hb dX3_find_67 (by decide) (fun c9 => absurd c9 (by decide)) (fun _ => ?_)
  refine lv_iload hx hb dX3_find_70 (lv_at hl 1 rfl) ?_
  refine lv_istore (lv' := [(4, .int 0), (6, .int 1), (5, .int 0), (0, .ref h0), (1, .int 0), (2, .int 1), (3, .int 0)]) hx hb dX3_find_72 hl (by decide) rfl (fun ls hl => ?_)
  refine lv_iinc (v := 1) (lv' := [(5, .int 1), (4, .int 0), (6, .int 1), (0, .ref h0), (1, .int 0), (2, .int 1), (3, .int 0)]) hx hb dX3_find_74 hl (k := 2) rfl (by decide) (by decide) rfl (fun ls hl => ?_)
  refine lv_goto (tgt := 14) hx hb dX3_find_77 (by decide) ?_
  refine lv_iload hx hb dX3_find_14 (lv_at hl 0 rfl) ?_
  refine lv_aload_n hx hb dX3_find_16 rfl (lv_at hl 3 rfl) ?_
  refine va_get (D := (dC, dI)) (ci := 7) (v := .ref h1) (C := RX3) (T := TX3) (N := 9) hx hb hts (by decide +kernel) hown hK hP 0 rfl rfl 0 (by decide) (hts (.fieldLink RX3 11 "Rewriterope" "ropes" "[LRewriterope$Text;") (by decide +kernel)) (fun _ h9 => h9) rfl dX3_find_17 ?_
  refine lv_iload_n hx hb dX3_find_20 rfl (lv_at hl 4 rfl) ?_
  refine va_aldq (D := (dC, dI)) hx hb hK hP 1 0 rfl rfl (by unfold vp_in; decide) dX3_find_21 ?_
  refine W.eq (g2 := F0 m 22 ls [.ref h2, .int 1]) rfl ?_
  refine va_get (D := (dC, dI)) (ci := 6) (v := .int 0) (C := RX2) (T := TX2) (N := 2) hx hb hts (by decide +kernel) hown hK hP 4 rfl rfl 1 (by decide) (hts (.fieldLink RX3 65 "Rewriterope$Text" "length" "I") (by decide +kernel)) (fun _ h9 => h9) rfl dX3_find_22 ?_
  refine lv_icmp_gt (tgt := 80) hx hb dX3_find_25 (by decide) (fun _ => ?_) (fun c9 => absurd (by decide) c9)
  refine lv_iload hx hb dX3_find_80 (lv_at hl 1 rfl) ?_
  have hP := hP.sub (ws' := [(h0, .inr (7, [.ref h1, .ref z0, .ref z1, .ref z2, .ref z3, .ref z4, .int 0, .int 0, .int 0])), (h1, .inl (k0, 4, .inr (.inr (.inr (.inr (va_up (va_up (va_up (va_up (fun _ => none) 0 (some h2)) 1 (some h3)) 2 (some h4)) 3 (some h5))))))), (h2, .inr (6, [.ref z5, .int 0])), (h3, .inr (6, [.ref z6, .int 0])), (h4, .inr (6, [.ref z7, .int 0])), (h5, .inr (6, [.ref z8, .int 0]))]) [0, 1, 4, 5, 2, 3] rfl
  have hD := hD.sub (ws' := [(h0, .inr (7, [.ref h1, .ref z0, .ref z1, .ref z2, .ref z3, .ref z4, .int 0, .int 0, .int 0])), (h1, .inl (k0, 4, .inr (.inr (.inr (.inr (va_up (va_up (va_up (va_up (fun _ => none) 0 (some h2)) 1 (some h3)) 2 (some h4)) 3 (some h5))))))), (h2, .inr (6, [.ref z5, .int 0])), (h3, .inr (6, [.ref z6, .int 0])), (h4, .inr (6, [.ref z7, .int 0])), (h5, .inr (6, [.ref z8, .int 0]))]) [0, 1, 4, 5, 2, 3] (by decide) rfl
  exact W.iret (v := 0) hx hb hr (fun t ht hW => ⟨⟨0, (), rfl, rfl, by rw [ht]; exact hP, va_K.moved hW.alike hK, hD⟩, hS.F ht⟩) hS.2.2 dX3_find_82
set_option maxHeartbeats 4000000 in
set_option maxRecDepth 100000 in
theorem kx_X3_find_2 (l : Launch) (dC : Nat → ClassId) (dI : Nat → Nat → Nat) (h0 : Nat) (h1 : Nat) (h2 : Nat) (h3 : Nat) (h4 : Nat) (h5 : Nat) (z0 : Nat) (z1 : Nat) (z2 : Nat) (z3 : Nat) (z4 : Nat) (z5 : Nat) (z6 : Nat) (z7 : Nat) (z8 : Nat) (k0 : ClassId) (sz : Nat) : Met l yX3_find wsX3_find ({ frames := 1, cells := 0, slots := 0, locals := 23 }) (va_Pc [.ref h0, .int 0, .int 2, .int 0] (fun U => U.heap.size = sz ∧ va_P (dC, dI) vwCl [(h0, .inr (7, [.ref h1, .ref z0, .ref z1, .ref z2, .ref z3, .ref z4, .int 0, .int 0, .int 0])), (h1, .inl (k0, 4, .inr (.inr (.inr (.inr (va_up (va_up (va_up (va_up (fun _ => none) 0 (some h2)) 1 (some h3)) 2 (some h4)) 3 (some h5))))))), (h2, .inr (6, [.ref z5, .int 0])), (h3, .inr (6, [.ref z6, .int 0])), (h4, .inr (6, [.ref z7, .int 0])), (h5, .inr (6, [.ref z8, .int 0]))] U.heap ∧ va_K (dC, dI) vwCl [(k0, .object "Rewriterope$Text")] U ∧ va_D (fun _ => True) [(h0, .inr (7, [.ref h1, .ref z0, .ref z1, .ref z2, .ref z3, .ref z4, .int 0, .int 0, .int 0])), (h1, .inl (k0, 4, .inr (.inr (.inr (.inr (va_up (va_up (va_up (va_up (fun _ => none) 0 (some h2)) 1 (some h3)) 2 (some h4)) 3 (some h5))))))), (h2, .inr (6, [.ref z5, .int 0])), (h3, .inr (6, [.ref z6, .int 0])), (h4, .inr (6, [.ref z7, .int 0])), (h5, .inr (6, [.ref z8, .int 0]))])) (va_Qi (fun (r : Int32) (_ : Unit) => r = 0) (fun (_ : Unit) (t : State) => va_P (dC, dI) vwCl [(h0, .inr (7, [.ref h1, .ref z0, .ref z1, .ref z2, .ref z3, .ref z4, .int 0, .int 0, .int 0])), (h1, .inl (k0, 4, .inr (.inr (.inr (.inr (va_up (va_up (va_up (va_up (fun _ => none) 0 (some h2)) 1 (some h3)) 2 (some h4)) 3 (some h5))))))), (h2, .inr (6, [.ref z5, .int 0])), (h3, .inr (6, [.ref z6, .int 0])), (h4, .inr (6, [.ref z7, .int 0])), (h5, .inr (6, [.ref z8, .int 0]))] t.heap ∧ va_K (dC, dI) vwCl [(k0, .object "Rewriterope$Text")] t ∧ va_D (va_A [(h0, .inr (7, [.ref h1, .ref z0, .ref z1, .ref z2, .ref z3, .ref z4, .int 0, .int 0, .int 0])), (h1, .inl (k0, 4, .inr (.inr (.inr (.inr (va_up (va_up (va_up (va_up (fun _ => none) 0 (some h2)) 1 (some h3)) 2 (some h4)) 3 (some h5))))))), (h2, .inr (6, [.ref z5, .int 0])), (h3, .inr (6, [.ref z6, .int 0])), (h4, .inr (6, [.ref z7, .int 0])), (h5, .inr (6, [.ref z8, .int 0]))] sz) [(h0, .inr (7, [.ref h1, .ref z0, .ref z1, .ref z2, .ref z3, .ref z4, .int 0, .int 0, .int 0])), (h1, .inl (k0, 4, .inr (.inr (.inr (.inr (va_up (va_up (va_up (va_up (fun _ => none) 0 (some h2)) 1 (some h3)) 2 (some h4)) 3 (some h5))))))), (h2, .inr (6, [.ref z5, .int 0])), (h3, .inr (6, [.ref z6, .int 0])), (h4, .inr (6, [.ref z7, .int 0])), (h5, .inr (6, [.ref z8, .int 0]))]) (va_A [(h0, .inr (7, [.ref h1, .ref z0, .ref z1, .ref z2, .ref z3, .ref z4, .int 0, .int 0, .int 0])), (h1, .inl (k0, 4, .inr (.inr (.inr (.inr (va_up (va_up (va_up (va_up (fun _ => none) 0 (some h2)) 1 (some h3)) 2 (some h4)) 3 (some h5))))))), (h2, .inr (6, [.ref z5, .int 0])), (h3, .inr (6, [.ref z6, .int 0])), (h4, .inr (6, [.ref z7, .int 0])), (h5, .inr (6, [.ref z8, .int 0]))] sz)) 0 0 (va_A [(h0, .inr (7, [.ref h1, .ref z0, .ref z1, .ref z2, .ref z3, .ref z4, .int 0, .int 0, .int 0])), (h1, .inl (k0, 4, .inr (.inr (.inr (.inr (va_up (va_up (va_up (va_up (fun _ => none) 0 (some h2)) 1 (some h3)) 2 (some h4)) 3 (some h5))))))), (h2, .inr (6, [.ref z5, .int 0])), (h3, .inr (6, [.ref z6, .int 0])), (h4, .inr (6, [.ref z7, .int 0])), (h5, .inr (6, [.ref z8, .int 0]))] sz) := by
  refine Met.ofW (cc := cX3_find) (maxL := 7) (ret := (some .int)) (by decide) rfl ?_
  intro p e s m args below meth c s₁ B hml hv
  obtain ⟨rfl, hsz, hP, hK, hD0⟩ := hv
  have hx := B.exec
  have hb := B.bytes
  have hr := B.returns
  have hts := atoms_spec (ws := wsX3_find) B.pre
  have hown : s.vm.findClass RX3 = some m.cls := findClass_of_methodNamed B.named
  have hlocks := B.notSynchronized
  subst hsz
  have hD := hD0.self (sz := s.heap.size)
  generalize hAe : va_A [(h0, .inr (7, [.ref h1, .ref z0, .ref z1, .ref z2, .ref z3, .ref z4, .int 0, .int 0, .int 0])), (h1, .inl (k0, 4, .inr (.inr (.inr (.inr (va_up (va_up (va_up (va_up (fun _ => none) 0 (some h2)) 1 (some h3)) 2 (some h4)) 3 (some h5))))))), (h2, .inr (6, [.ref z5, .int 0])), (h3, .inr (6, [.ref z6, .int 0])), (h4, .inr (6, [.ref z7, .int 0])), (h5, .inr (6, [.ref z8, .int 0]))] s.heap.size = A at hD ⊢
  have hA : ∀ q : Nat, s.heap.size ≤ q → A q := fun q h => by rw [← hAe]; exact Or.inr h
  have hS : va_S A s.heap s.heap [] := va_S.rf
  have hP : va_P (dC, dI) vwCl [(h0, .inr (7, [.ref h1, .ref z0, .ref z1, .ref z2, .ref z3, .ref z4, .int 0, .int 0, .int 0])), (h1, .inl (k0, 4, .inr (.inr (.inr (.inr (va_up (va_up (va_up (va_up (fun _ => none) 0 (some h2)) 1 (some h3)) 2 (some h4)) 3 (some h5))))))), (h2, .inr (6, [.ref z5, .int 0])), (h3, .inr (6, [.ref z6, .int 0])), (h4, .inr (6, [.ref z7, .int 0])), (h5, .inr (6, [.ref z8, .int 0]))] s.heap := hP
  have hl := lv_entry ([.ref h0, .int 0, .int 2, .int 0]) (n := 7) (Nat.le_of_ble_eq_true rfl)
  rw [lg_entry_eq]
  generalize (lg_sl ([.ref h0, .int 0, .int 2, .int 0]) ++ List.replicate (7 - (lg_sl ([.ref h0, .int 0, .int 2, .int 0])).length) Slot.unset).toArray = ls at hl ⊢
  have hl : lv_has ls 7 [(0, .ref h0), (1, .int 0), (2, .int 2), (3, .int 0)] := hl
  refine lv_iload_n hx hb dX3_find_0 rfl (lv_at hl 1 rfl) ?_
  have hPc := hP.sub (ws' := []) [] rfl
  have hDc := hD.sub (ws' := []) [] (by decide) rfl
  have hKc := hK.sub (tys' := []) [] rfl
  have hFc := va_free (wc := []) hD hS hA [] rfl
  refine va_callv (va_runS (As := [.int 0]) (rest := []) ⟨hx, hb, hml, hown, hts⟩ (kx_X3_needRope_0 l dC dI s.heap.size) (cwS 1 hts gX3_find_X3_needRope rfl rfl rfl (by decide +kernel) ⟨Nat.le_of_ble_eq_true rfl, Nat.le_of_ble_eq_true rfl⟩) ⟨fun a U g mk q => by obtain ⟨q0, q1, qP, qK, qD⟩ := q; exact ⟨q0, q1, qP, va_K.moved (u := U) (U := U.calling g mk a) (Vm.Alike.refl U.vm) qK, qD⟩, fun U hU hW => ⟨rfl, by rw [hU], by rw [hU]; exact hPc, va_K.moved hW.alike hKc, hDc.weaken (fun _ _ _ _ => trivial)⟩⟩ rfl rfl hl.1 rfl (lv_room (Nat.le_of_ble_eq_true rfl)) dX3_find_1 ⟨Nat.le_of_ble_eq_true rfl, Nat.le_of_ble_eq_true rfl⟩) hS (fun q _ h => hFc q h) hFc (fun u t H1 locs ht hvm hw hB hz1 hk1 hS => ?_)
  obtain ⟨hP1, hK1, hD1⟩ := hB
  rw [ht] at hP1
  have hK1 := va_K.moved hvm.symm hK1
  obtain ⟨hP, hD⟩ := va_join (wr := [(h0, .inr (7, [.ref h1, .ref z0, .ref z1, .ref z2, .ref z3, .ref z4, .int 0, .int 0, .int 0])), (h1, .inl (k0, 4, .inr (.inr (.inr (.inr (va_up (va_up (va_up (va_up (fun _ => none) 0 (some h2)) 1 (some h3)) 2 (some h4)) 3 (some h5))))))), (h2, .inr (6, [.ref z5, .int 0])), (h3, .inr (6, [.ref z6, .int 0])), (h4, .inr (6, [.ref z7, .int 0])), (h5, .inr (6, [.ref z8, .int 0]))]) (w1 := []) hP hD [] [0, 1, 2, 3, 4, 5] rfl rfl (by decide) (by decide) hk1 hFc hP1 hD1
  generalize H1 = H at hP hS ⊢
  have hP : va_P (dC, dI) vwCl [(h0, .inr (7, [.ref h1, .ref z0, .ref z1, .ref z2, .ref z3, .ref z4, .int 0, .int 0, .int 0])), (h1, .inl (k0, 4, .inr (.inr (.inr (.inr (va_up (va_up (va_up (va_up (fun _ => none) 0 (some h2)) 1 (some h3)) 2 (some h4)) 3 (some h5))))))), (h2, .inr (6, [.ref z5, .int 0])), (h3, .inr (6, [.ref z6, .int 0])), (h4, .inr (6, [.ref z7, .int 0])), (h5, .inr (6, [.ref z8, .int 0]))] H := hP
  have hD : va_D A [(h0, .inr (7, [.ref h1, .ref z0, .ref z1, .ref z2, .ref z3, .ref z4, .int 0, .int 0, .int 0])), (h1, .inl (k0, 4, .inr (.inr (.inr (.inr (va_up (va_up (va_up (va_up (fun _ => none) 0 (some h2)) 1 (some h3)) 2 (some h4)) 3 (some h5))))))), (h2, .inr (6, [.ref z5, .int 0])), (h3, .inr (6, [.ref z6, .int 0])), (h4, .inr (6, [.ref z7, .int 0])), (h5, .inr (6, [.ref z8, .int 0]))] := hD
  refine lv_iload_n hx hb dX3_find_4 rfl (lv_at hl 2 rfl) ?_
  have hPc := hP.sub (ws' := []) [] rfl
  have hDc := hD.sub (ws' := []) [] (by decide) rfl
  have hKc := hK.sub (tys' := []) [] rfl
  have hFc := va_free (wc := []) hD hS hA [] rfl
  refine va_callv (va_runS (As := [.int 2]) (rest := []) ⟨hx, hb, hml, hown, hts⟩ (kx_X3_needRope_2 l dC dI H.size) (cwS 1 hts gX3_find_X3_needRope rfl rfl rfl (by decide +kernel) ⟨Nat.le_of_ble_eq_true rfl, Nat.le_of_ble_eq_true rfl⟩) ⟨fun a U g mk q => by obtain ⟨q0, q1, qP, qK, qD⟩ := q; exact ⟨q0, q1, qP, va_K.moved (u := U) (U := U.calling g mk a) (Vm.Alike.refl U.vm) qK, qD⟩, fun U hU hW => ⟨rfl, by rw [hU], by rw [hU]; exact hPc, va_K.moved hW.alike hKc, hDc.weaken (fun _ _ _ _ => trivial)⟩⟩ rfl rfl hl.1 rfl (lv_room (Nat.le_of_ble_eq_true rfl)) dX3_find_5 ⟨Nat.le_of_ble_eq_true rfl, Nat.le_of_ble_eq_true rfl⟩) hS (fun q _ h => hFc q h) hFc (fun u t H1 locs ht hvm hw hB hz1 hk1 hS => ?_)
  obtain ⟨hP1, hK1, hD1⟩ := hB
  rw [ht] at hP1
  have hK1 := va_K.moved hvm.symm hK1
  obtain ⟨hP, hD⟩ := va_join (wr := [(h0, .inr (7, [.ref h1, .ref z0, .ref z1, .ref z2, .ref z3, .ref z4, .int 0, .int 0, .int 0])), (h1, .inl (k0, 4, .inr (.inr (.inr (.inr (va_up (va_up (va_up (va_up (fun _ => none) 0 (some h2)) 1 (some h3)) 2 (some h4)) 3 (some h5))))))), (h2, .inr (6, [.ref z5, .int 0])), (h3, .inr (6, [.ref z6, .int 0])), (h4, .inr (6, [.ref z7, .int 0])), (h5, .inr (6, [.ref z8, .int 0]))]) (w1 := []) hP hD [] [0, 1, 2, 3, 4, 5] rfl rfl (by decide) (by decide) hk1 hFc hP1 hD1
  generalize H1 = H at hP hS ⊢
  have hP : va_P (dC, dI) vwCl [(h0, .inr (7, [.ref h1, .ref z0, .ref z1, .ref z2, .ref z3, .ref z4, .int 0, .int 0, .int 0])), (h1, .inl (k0, 4, .inr (.inr (.inr (.inr (va_up (va_up (va_up (va_up (fun _ => none) 0 (some h2)) 1 (some h3)) 2 (some h4)) 3 (some h5))))))), (h2, .inr (6, [.ref z5, .int 0])), (h3, .inr (6, [.ref z6, .int 0])), (h4, .inr (6, [.ref z7, .int 0])), (h5, .inr (6, [.ref z8, .int 0]))] H := hP
  have hD : va_D A [(h0, .inr (7, [.ref h1, .ref z0, .ref z1, .ref z2, .ref z3, .ref z4, .int 0, .int 0, .int 0])), (h1, .inl (k0, 4, .inr (.inr (.inr (.inr (va_up (va_up (va_up (va_up (fun _ => none) 0 (some h2)) 1 (some h3)) 2 (some h4)) 3 (some h5))))))), (h2, .inr (6, [.ref z5, .int 0])), (h3, .inr (6, [.ref z6, .int 0])), (h4, .inr (6, [.ref z7, .int 0])), (h5, .inr (6, [.ref z8, .int 0]))] := hD
  refine lv_iconst (v := (-1)) hx hb dX3_find_8 (by decide) ?_
  refine lv_istore (lv' := [(4, .int (-1)), (0, .ref h0), (1, .int 0), (2, .int 2), (3, .int 0)]) hx hb dX3_find_9 hl (by decide) rfl (fun ls hl => ?_)
  refine lv_iconst (v := 0) hx hb dX3_find_11 (by decide) ?_
  refine lv_istore (lv' := [(5, .int 0), (4, .int (-1)), (0, .ref h0), (1, .int 0), (2, .int 2), (3, .int 0)]) hx hb dX3_find_12 hl (by decide) rfl (fun ls hl => ?_)
  refine lv_iload hx hb dX3_find_14 (lv_at hl 0 rfl) ?_
  refine lv_aload_n hx hb dX3_find_16 rfl (lv_at hl 2 rfl) ?_
  refine va_get (D := (dC, dI)) (ci := 7) (v := .ref h1) (C := RX3) (T := TX3) (N := 9) hx hb hts (by decide +kernel) hown hK hP 0 rfl rfl 0 (by decide) (hts (.fieldLink RX3 11 "Rewriterope" "ropes" "[LRewriterope$Text;") (by decide +kernel)) (fun _ h9 => h9) rfl dX3_find_17 ?_
  refine lv_iload_n hx hb dX3_find_20 rfl (lv_at hl 3 rfl) ?_
  refine va_aldq (D := (dC, dI)) hx hb hK hP 1 0 rfl rfl (by unfold vp_in; decide) dX3_find_21 ?_
  refine W.eq (g2 := F0 m 22 ls [.ref h2, .int 0]) rfl ?_
  refine va_get (D := (dC, dI)) (ci := 6) (v := .int 0) (C := RX2) (T := TX2) (N := 2) hx hb hts (by decide +kernel) hown hK hP 2 rfl rfl 1 (by decide) (hts (.fieldLink RX3 65 "Rewriterope$Text" "length" "I") (by decide +kernel)) (fun _ h9 => h9) rfl dX3_find_22 ?_
  refine lv_icmp_gt (tgt := 80) hx hb dX3_find_25 (by decide) (fun c9 => absurd c9 (by decide)) (fun _ => ?_)
  refine lv_iload_n hx hb dX3_find_28 rfl (lv_at hl 5 rfl) ?_
  refine lv_if_ne (tgt := 38) hx hb dX3_find_29 (by decide) (fun c9 => absurd (by decide) c9) (fun _ => ?_)
  refine lv_iload hx hb dX3_find_32 (lv_at hl 1 rfl) ?_
  refine lv_iconst (v := (-1)) hx hb dX3_find_34 (by decide) ?_
  refine lv_icmp_ne (tgt := 42) hx hb dX3_find_35 (by decide) (fun c9 => absurd (by decide) c9) (fun _ => ?_)
  refine lv_iconst (v := 1) hx hb dX3_find_38 (by decide) ?_
  refine lv_goto (tgt := 43) hx hb dX3_find_39 (by decide) ?_
  refine lv_istore (lv' := [(6, .int 1), (5, .int 0), (4, .int (-1)), (0, .ref h0), (1, .int 0), (2, .int 2), (3, .int 0)]) hx hb dX3_find_43 hl (by decide) rfl (fun ls hl => ?_)
  refine lv_iload hx hb dX3_find_45 (lv_at hl 0 rfl) ?_
  refine lv_if_eq (tgt := 74) hx hb dX3_find_47 (by decide) (fun c9 => absurd c9 (by decide)) (fun _ => ?_)
  refine lv_aload_n hx hb dX3_find_50 rfl (lv_at hl 3 rfl) ?_
  refine va_get (D := (dC, dI)) (ci := 7) (v := .ref h1) (C := RX3) (T := TX3) (N := 9) hx hb hts (by decide +kernel) hown hK hP 0 rfl rfl 0 (by decide) (hts (.fieldLink RX3 11 "Rewriterope" "ropes" "[LRewriterope$Text;") (by decide +kernel)) (fun _ h9 => h9) rfl dX3_find_51 ?_
  refine lv_iload_n hx hb dX3_find_54 rfl (lv_at hl 4 rfl) ?_
  refine va_aldq (D := (dC, dI)) hx hb hK hP 1 0 rfl rfl (by unfold vp_in; decide) dX3_find_55 ?_
  refine W.eq (g2 := F0 m 56 ls [.ref h2]) rfl ?_
  refine lv_aload_n hx hb dX3_find_56 rfl (lv_at hl 3 rfl) ?_
  refine va_get (D := (dC, dI)) (ci := 7) (v := .ref h1) (C := RX3) (T := TX3) (N := 9) hx hb hts (by decide +kernel) hown hK hP 0 rfl rfl 0 (by decide) (hts (.fieldLink RX3 11 "Rewriterope" "ropes" "[LRewriterope$Text;") (by decide +kernel)) (fun _ h9 => h9) rfl dX3_find_57 ?_
  refine lv_iload_n hx hb dX3_find_60 rfl (lv_at hl 5 rfl) ?_
  refine va_aldq (D := (dC, dI)) hx hb hK hP 1 0 rfl rfl (by unfold vp_in; decide) dX3_find_61 ?_
  refine W.eq (g2 := F0 m 62 ls [.ref h4, .ref h2]) rfl ?_
  refine lv_iload hx hb dX3_find_62 (lv_at hl 1 rfl) ?_
  have hPc := hP.sub (ws' := [(h2, .inr (6, [.ref z5, .int 0])), (h4, .inr (6, [.ref z7, .int 0]))]) [2, 4] rfl
  have hDc := hD.sub (ws' := [(h2, .inr (6, [.ref z5, .int 0])), (h4, .inr (6, [.ref z7, .int 0]))]) [2, 4] (by decide) rfl
  have hKc := hK.sub (tys' := []) [] rfl
  have hFc := va_free (wc := [(h2, .inr (6, [.ref z5, .int 0])), (h4, .inr (6, [.ref z7, .int 0]))]) hD hS hA [2, 4] rfl
  refine va_calli (va_runV (As := [.ref h4, .int 0]) (rest := []) ⟨hx, hb, hml, hown, hts⟩ (kx_X2_holds_1 l dC dI h2 h4 z5 z7 H.size) (cwV 2 hts gX3_find_X2_holds rfl rfl rfl (by decide +kernel) ⟨Nat.le_of_ble_eq_true rfl, Nat.le_of_ble_eq_true rfl⟩) ⟨fun a U g mk q => by obtain ⟨q0, q1, qP, qK, qD⟩ := q; exact ⟨q0, q1, qP, va_K.moved (u := U) (U := U.calling g mk a) (Vm.Alike.refl U.vm) qK, qD⟩, va_recv hKc hPc (ci := 6) (q0 := 0) rfl rfl, fun U hU hW => ⟨rfl, by rw [hU], by rw [hU]; exact hPc, va_K.moved hW.alike hKc, hDc.weaken (fun _ _ _ _ => trivial)⟩⟩ rfl rfl hl.1 rfl (lv_room (Nat.le_of_ble_eq_true rfl)) dX3_find_64 ⟨Nat.le_of_ble_eq_true rfl, Nat.le_of_ble_eq_true rfl⟩) hS (fun q _ h => hFc q h) hFc (fun r9 u t H1 locs ht hvm hw hB hz1 hk1 hS => ?_)
  obtain rfl := hw
  obtain ⟨hP1, hK1, hD1⟩ := hB
  rw [ht] at hP1
  have hK1 := va_K.moved hvm.symm hK1
  obtain ⟨hP, hD⟩ := va_join (wr := [(h0, .inr (7, [.ref h1, .ref z0, .ref z1, .ref z2, .ref z3, .ref z4, .int 0, .int 0, .int 0])), (h1, .inl (k0, 4, .inr (.inr (.inr (.inr (va_up (va_up (va_up (va_up (fun _ => none) 0 (some h2)) 1 (some h3)) 2 (some h4)) 3 (some h5))))))), (h3, .inr (6, [.ref z6, .int 0])), (h5, .inr (6, [.ref z8, .int 0]))]) (w1 := [(h2, .inr (6, [.ref z5, .int 0])), (h4, .inr (6, [.ref z7, .int 0]))]) hP hD [2, 4] [0, 1, 3, 5] rfl rfl (by decide) (by decide) hk1 hFc hP1 hD1
  generalize H1 = H at hP hS ⊢
  have hP : va_P (dC, dI) vwCl [(h0, .inr (7, [.ref h1, .ref z0, .ref z1, .ref z2, .ref z3, .ref z4, .int 0, .int 0, .int 0])), (h1, .inl (k0, 4, .inr (.inr (.inr (.inr (va_up (va_up (va_up (va_up (fun _ => none) 0 (some h2)) 1 (some h3)) 2 (some h4)) 3 (some h5))))))), (h3, .inr (6, [.ref z6, .int 0])), (h5, .inr (6, [.ref z8, .int 0])), (h2, .inr (6, [.ref z5, .int 0])), (h4, .inr (6, [.ref z7, .int 0]))] H := hP
  have hD : va_D A [(h0, .inr (7, [.ref h1, .ref z0, .ref z1, .ref z2, .ref z3, .ref z4, .int 0, .int 0, .int 0])), (h1, .inl (k0, 4, .inr (.inr (.inr (.inr (va_up (va_up (va_up (va_up (fun _ => none) 0 (some h2)) 1 (some h3)) 2 (some h4)) 3 (some h5))))))), (h3, .inr (6, [.ref z6, .int 0])), (h5, .inr (6, [.ref z8, .int 0])), (h2, .inr (6, [.ref z5, .int 0])), (h4, .inr (6, [.ref z7, .int 0]))] := hD
  refine lv_if_eq (tgt := 74) hx hb dX3_find_67 (by decide) (fun c9 => absurd c9 (by decide)) (fun _ => ?_)
  refine lv_iload hx hb dX3_find_70 (lv_at hl 1 rfl) ?_
  refine lv_istore (lv' := [(4, .int 0), (6, .int 1), (5, .int 0), (0, .ref h0), (1, .int 0), (2, .int 2), (3, .int 0)]) hx hb dX3_find_72 hl (by decide) rfl (fun ls hl => ?_)
  refine lv_iinc (v := 1) (lv' := [(5, .int 1), (4, .int 0), (6, .int 1), (0, .ref h0), (1, .int 0), (2, .int 2), (3, .int 0)]) hx hb dX3_find_74 hl (k := 2) rfl (by decide) (by decide) rfl (fun ls hl => ?_)
  refine lv_goto (tgt := 14) hx hb dX3_find_77 (by decide) ?_
  refine lv_iload hx hb dX3_find_14 (lv_at hl 0 rfl) ?_
  refine lv_aload_n hx hb dX3_find_16 rfl (lv_at hl 3 rfl) ?_
  refine va_get (D := (dC, dI)) (ci := 7) (v := .ref h1) (C := RX3) (T := TX3) (N := 9) hx hb hts (by decide +kernel) hown hK hP 0 rfl rfl 0 (by decide) (hts (.fieldLink RX3 11 "Rewriterope" "ropes" "[LRewriterope$Text;") (by decide +kernel)) (fun _ h9 => h9) rfl dX3_find_17 ?_
  refine lv_iload_n hx hb dX3_find_20 rfl (lv_at hl 4 rfl) ?_
  refine va_aldq (D := (dC, dI)) hx hb hK hP 1 0 rfl rfl (by unfold vp_in; decide) dX3_find_21 ?_
  refine W.eq (g2 := F0 m 22 ls [.ref h2, .int 1]) rfl ?_
  refine va_get (D := (dC, dI)) (ci := 6) (v := .int 0) (C := RX2) (T := TX2) (N := 2) hx hb hts (by decide +kernel) hown hK hP 4 rfl rfl 1 (by decide) (hts (.fieldLink RX3 65 "Rewriterope$Text" "length" "I") (by decide +kernel)) (fun _ h9 => h9) rfl dX3_find_22 ?_
  refine lv_icmp_gt (tgt := 80) hx hb dX3_find_25 (by decide) (fun _ => ?_) (fun c9 => absurd (by decide) c9)
  refine lv_iload hx hb dX3_find_80 (lv_at hl 1 rfl) ?_
  have hP := hP.sub (ws' := [(h0, .inr (7, [.ref h1, .ref z0, .ref z1, .ref z2, .ref z3, .ref z4, .int 0, .int 0, .int 0])), (h1, .inl (k0, 4, .inr (.inr (.inr (.inr (va_up (va_up (va_up (va_up (fun _ => none) 0 (some h2)) 1 (some h3)) 2 (some h4)) 3 (some h5))))))), (h2, .inr (6, [.ref z5, .int 0])), (h3, .inr (6, [.ref z6, .int 0])), (h4, .inr (6, [.ref z7, .int 0])), (h5, .inr (6, [.ref z8, .int 0]))]) [0, 1, 4, 2, 5, 3] rfl
  have hD := hD.sub (ws' := [(h0, .inr (7, [.ref h1, .ref z0, .ref z1, .ref z2, .ref z3, .ref z4, .int 0, .int 0, .int 0])), (h1, .inl (k0, 4, .inr (.inr (.inr (.inr (va_up (va_up (va_up (va_up (fun _ => none) 0 (some h2)) 1 (some h3)) 2 (some h4)) 3 (some h5))))))), (h2, .inr (6, [.ref z5, .int 0])), (h3, .inr (6, [.ref z6, .int 0])), (h4, .inr (6, [.ref z7, .int 0])), (h5, .inr (6, [.ref z8, .int 0]))]) [0, 1, 4, 2, 5, 3] (by decide) rfl
  exact W.iret (v := 0) hx hb hr (fun t ht hW => ⟨⟨0, (), rfl, rfl, by rw [ht]; exact hP, va_K.moved hW.alike hK, hD⟩, hS.F ht⟩) hS.2.2 dX3_find_82
set_option maxHeartbeats 4000000 in
set_option maxRecDepth 100000 in
theorem kx_X3_find_3 (l : Launch) (dC : Nat → ClassId) (dI : Nat → Nat → Nat) (h0 : Nat) (h1 : Nat) (h2 : Nat) (h3 : Nat) (h4 : Nat) (h5 : Nat) (z0 : Nat) (z1 : Nat) (z2 : Nat) (z3 : Nat) (z4 : Nat) (z5 : Nat) (z6 : Nat) (z7 : Nat) (z8 : Nat) (k0 : ClassId) (sz : Nat) : Met l yX3_find wsX3_find ({ frames := 1, cells := 0, slots := 0, locals := 23 }) (va_Pc [.ref h0, .int 0, .int 3, .int 0] (fun U => U.heap.size = sz ∧ va_P (dC, dI) vwCl [(h0, .inr (7, [.ref h1, .ref z0, .ref z1, .ref z2, .ref z3, .ref z4, .int 0, .int 0, .int 0])), (h1, .inl (k0, 4, .inr (.inr (.inr (.inr (va_up (va_up (va_up (va_up (fun _ => none) 0 (some h2)) 1 (some h3)) 2 (some h4)) 3 (some h5))))))), (h2, .inr (6, [.ref z5, .int 0])), (h3, .inr (6, [.ref z6, .int 0])), (h4, .inr (6, [.ref z7, .int 0])), (h5, .inr (6, [.ref z8, .int 0]))] U.heap ∧ va_K (dC, dI) vwCl [(k0, .object "Rewriterope$Text")] U ∧ va_D (fun _ => True) [(h0, .inr (7, [.ref h1, .ref z0, .ref z1, .ref z2, .ref z3, .ref z4, .int 0, .int 0, .int 0])), (h1, .inl (k0, 4, .inr (.inr (.inr (.inr (va_up (va_up (va_up (va_up (fun _ => none) 0 (some h2)) 1 (some h3)) 2 (some h4)) 3 (some h5))))))), (h2, .inr (6, [.ref z5, .int 0])), (h3, .inr (6, [.ref z6, .int 0])), (h4, .inr (6, [.ref z7, .int 0])), (h5, .inr (6, [.ref z8, .int 0]))])) (va_Qi (fun (r : Int32) (_ : Unit) => r = 0) (fun (_ : Unit) (t : State) => va_P (dC, dI) vwCl [(h0, .inr (7, [.ref h1, .ref z0, .ref z1, .ref z2, .ref z3, .ref z4, .int 0, .int 0, .int 0])), (h1, .inl (k0, 4, .inr (.inr (.inr (.inr (va_up (va_up (va_up (va_up (fun _ => none) 0 (some h2)) 1 (some h3)) 2 (some h4)) 3 (some h5))))))), (h2, .inr (6, [.ref z5, .int 0])), (h3, .inr (6, [.ref z6, .int 0])), (h4, .inr (6, [.ref z7, .int 0])), (h5, .inr (6, [.ref z8, .int 0]))] t.heap ∧ va_K (dC, dI) vwCl [(k0, .object "Rewriterope$Text")] t ∧ va_D (va_A [(h0, .inr (7, [.ref h1, .ref z0, .ref z1, .ref z2, .ref z3, .ref z4, .int 0, .int 0, .int 0])), (h1, .inl (k0, 4, .inr (.inr (.inr (.inr (va_up (va_up (va_up (va_up (fun _ => none) 0 (some h2)) 1 (some h3)) 2 (some h4)) 3 (some h5))))))), (h2, .inr (6, [.ref z5, .int 0])), (h3, .inr (6, [.ref z6, .int 0])), (h4, .inr (6, [.ref z7, .int 0])), (h5, .inr (6, [.ref z8, .int 0]))] sz) [(h0, .inr (7, [.ref h1, .ref z0, .ref z1, .ref z2, .ref z3, .ref z4, .int 0, .int 0, .int 0])), (h1, .inl (k0, 4, .inr (.inr (.inr (.inr (va_up (va_up (va_up (va_up (fun _ => none) 0 (some h2)) 1 (some h3)) 2 (some h4)) 3 (some h5))))))), (h2, .inr (6, [.ref z5, .int 0])), (h3, .inr (6, [.ref z6, .int 0])), (h4, .inr (6, [.ref z7, .int 0])), (h5, .inr (6, [.ref z8, .int 0]))]) (va_A [(h0, .inr (7, [.ref h1, .ref z0, .ref z1, .ref z2, .ref z3, .ref z4, .int 0, .int 0, .int 0])), (h1, .inl (k0, 4, .inr (.inr (.inr (.inr (va_up (va_up (va_up (va_up (fun _ => none) 0 (some h2)) 1 (some h3)) 2 (some h4)) 3 (some h5))))))), (h2, .inr (6, [.ref z5, .int 0])), (h3, .inr (6, [.ref z6, .int 0])), (h4, .inr (6, [.ref z7, .int 0])), (h5, .inr (6, [.ref z8, .int 0]))] sz)) 0 0 (va_A [(h0, .inr (7, [.ref h1, .ref z0, .ref z1, .ref z2, .ref z3, .ref z4, .int 0, .int 0, .int 0])), (h1, .inl (k0, 4, .inr (.inr (.inr (.inr (va_up (va_up (va_up (va_up (fun _ => none) 0 (some h2)) 1 (some h3)) 2 (some h4)) 3 (some h5))))))), (h2, .inr (6, [.ref z5, .int 0])), (h3, .inr (6, [.ref z6, .int 0])), (h4, .inr (6, [.ref z7, .int 0])), (h5, .inr (6, [.ref z8, .int 0]))] sz) := by
  refine Met.ofW (cc := cX3_find) (maxL := 7) (ret := (some .int)) (by decide) rfl ?_
  intro p e s m args below meth c s₁ B hml hv
  obtain ⟨rfl, hsz, hP, hK, hD0⟩ := hv
  have hx := B.exec
  have hb := B.bytes
  have hr := B.returns
  have hts := atoms_spec (ws := wsX3_find) B.pre
  have hown : s.vm.findClass RX3 = some m.cls := findClass_of_methodNamed B.named
  have hlocks := B.notSynchronized
  subst hsz
  have hD := hD0.self (sz := s.heap.size)
  generalize hAe : va_A [(h0, .inr (7, [.ref h1, .ref z0, .ref z1, .ref z2, .ref z3, .ref z4, .int 0, .int 0, .int 0])), (h1, .inl (k0, 4, .inr (.inr (.inr (.inr (va_up (va_up (va_up (va_up (fun _ => none) 0 (some h2)) 1 (some h3)) 2 (some h4)) 3 (some h5))))))), (h2, .inr (6, [.ref z5, .int 0])), (h3, .inr (6, [.ref z6, .int 0])), (h4, .inr (6, [.ref z7, .int 0])), (h5, .inr (6, [.ref z8, .int 0]))] s.heap.size = A at hD ⊢
  have hA : ∀ q : Nat, s.heap.size ≤ q → A q := fun q h => by rw [← hAe]; exact Or.inr h
  have hS : va_S A s.heap s.heap [] := va_S.rf
  have hP : va_P (dC, dI) vwCl [(h0, .inr (7, [.ref h1, .ref z0, .ref z1, .ref z2, .ref z3, .ref z4, .int 0, .int 0, .int 0])), (h1, .inl (k0, 4, .inr (.inr (.inr (.inr (va_up (va_up (va_up (va_up (fun _ => none) 0 (some h2)) 1 (some h3)) 2 (some h4)) 3 (some h5))))))), (h2, .inr (6, [.ref z5, .int 0])), (h3, .inr (6, [.ref z6, .int 0])), (h4, .inr (6, [.ref z7, .int 0])), (h5, .inr (6, [.ref z8, .int 0]))] s.heap := hP
  have hl := lv_entry ([.ref h0, .int 0, .int 3, .int 0]) (n := 7) (Nat.le_of_ble_eq_true rfl)
  rw [lg_entry_eq]
  generalize (lg_sl ([.ref h0, .int 0, .int 3, .int 0]) ++ List.replicate (7 - (lg_sl ([.ref h0, .int 0, .int 3, .int 0])).length) Slot.unset).toArray = ls at hl ⊢
  have hl : lv_has ls 7 [(0, .ref h0), (1, .int 0), (2, .int 3), (3, .int 0)] := hl
  refine lv_iload_n hx hb dX3_find_0 rfl (lv_at hl 1 rfl) ?_
  have hPc := hP.sub (ws' := []) [] rfl
  have hDc := hD.sub (ws' := []) [] (by decide) rfl
  have hKc := hK.sub (tys' := []) [] rfl
  have hFc := va_free (wc := []) hD hS hA [] rfl
  refine va_callv (va_runS (As := [.int 0]) (rest := []) ⟨hx, hb, hml, hown, hts⟩ (kx_X3_needRope_0 l dC dI s.heap.size) (cwS 1 hts gX3_find_X3_needRope rfl rfl rfl (by decide +kernel) ⟨Nat.le_of_ble_eq_true rfl, Nat.le_of_ble_eq_true rfl⟩) ⟨fun a U g mk q => by obtain ⟨q0, q1, qP, qK, qD⟩ := q; exact ⟨q0, q1, qP, va_K.moved (u := U) (U := U.calling g mk a) (Vm.Alike.refl U.vm) qK, qD⟩, fun U hU hW => ⟨rfl, by rw [hU], by rw [hU]; exact hPc, va_K.moved hW.alike hKc, hDc.weaken (fun _ _ _ _ => trivial)⟩⟩ rfl rfl hl.1 rfl (lv_room (Nat.le_of_ble_eq_true rfl)) dX3_find_1 ⟨Nat.le_of_ble_eq_true rfl, Nat.le_of_ble_eq_true rfl⟩) hS (fun q _ h => hFc q h) hFc (fun u t H1 locs ht hvm hw hB hz1 hk1 hS => ?_)
  obtain ⟨hP1, hK1, hD1⟩ := hB
  rw [ht] at hP1
  have hK1 := va_K.moved hvm.symm hK1
  obtain ⟨hP, hD⟩ := va_join (wr := [(h0, .inr (7, [.ref h1, .ref z0, .ref z1, .ref z2, .ref z3, .ref z4, .int 0, .int 0, .int 0])), (h1, .inl (k0, 4, .inr (.inr (.inr (.inr (va_up (va_up (va_up (va_up (fun _ => none) 0 (some h2)) 1 (some h3)) 2 (some h4)) 3 (some h5))))))), (h2, .inr (6, [.ref z5, .int 0])), (h3, .inr (6, [.ref z6, .int 0])), (h4, .inr (6, [.ref z7, .int 0])), (h5, .inr (6, [.ref z8, .int 0]))]) (w1 := []) hP hD [] [0, 1, 2, 3, 4, 5] rfl rfl (by decide) (by decide) hk1 hFc hP1 hD1
  generalize H1 = H at hP hS ⊢
  have hP : va_P (dC, dI) vwCl [(h0, .inr (7, [.ref h1, .ref z0, .ref z1, .ref z2, .ref z3, .ref z4, .int 0, .int 0, .int 0])), (h1, .inl (k0, 4, .inr (.inr (.inr (.inr (va_up (va_up (va_up (va_up (fun _ => none) 0 (some h2)) 1 (some h3)) 2 (some h4)) 3 (some h5))))))), (h2, .inr (6, [.ref z5, .int 0])), (h3, .inr (6, [.ref z6, .int 0])), (h4, .inr (6, [.ref z7, .int 0])), (h5, .inr (6, [.ref z8, .int 0]))] H := hP
  have hD : va_D A [(h0, .inr (7, [.ref h1, .ref z0, .ref z1, .ref z2, .ref z3, .ref z4, .int 0, .int 0, .int 0])), (h1, .inl (k0, 4, .inr (.inr (.inr (.inr (va_up (va_up (va_up (va_up (fun _ => none) 0 (some h2)) 1 (some h3)) 2 (some h4)) 3 (some h5))))))), (h2, .inr (6, [.ref z5, .int 0])), (h3, .inr (6, [.ref z6, .int 0])), (h4, .inr (6, [.ref z7, .int 0])), (h5, .inr (6, [.ref z8, .int 0]))] := hD
  refine lv_iload_n hx hb dX3_find_4 rfl (lv_at hl 2 rfl) ?_
  have hPc := hP.sub (ws' := []) [] rfl
  have hDc := hD.sub (ws' := []) [] (by decide) rfl
  have hKc := hK.sub (tys' := []) [] rfl
  have hFc := va_free (wc := []) hD hS hA [] rfl
  refine va_callv (va_runS (As := [.int 3]) (rest := []) ⟨hx, hb, hml, hown, hts⟩ (kx_X3_needRope_3 l dC dI H.size) (cwS 1 hts gX3_find_X3_needRope rfl rfl rfl (by decide +kernel) ⟨Nat.le_of_ble_eq_true rfl, Nat.le_of_ble_eq_true rfl⟩) ⟨fun a U g mk q => by obtain ⟨q0, q1, qP, qK, qD⟩ := q; exact ⟨q0, q1, qP, va_K.moved (u := U) (U := U.calling g mk a) (Vm.Alike.refl U.vm) qK, qD⟩, fun U hU hW => ⟨rfl, by rw [hU], by rw [hU]; exact hPc, va_K.moved hW.alike hKc, hDc.weaken (fun _ _ _ _ => trivial)⟩⟩ rfl rfl hl.1 rfl (lv_room (Nat.le_of_ble_eq_true rfl)) dX3_find_5 ⟨Nat.le_of_ble_eq_true rfl, Nat.le_of_ble_eq_true rfl⟩) hS (fun q _ h => hFc q h) hFc (fun u t H1 locs ht hvm hw hB hz1 hk1 hS => ?_)
  obtain ⟨hP1, hK1, hD1⟩ := hB
  rw [ht] at hP1
  have hK1 := va_K.moved hvm.symm hK1
  obtain ⟨hP, hD⟩ := va_join (wr := [(h0, .inr (7, [.ref h1, .ref z0, .ref z1, .ref z2, .ref z3, .ref z4, .int 0, .int 0, .int 0])), (h1, .inl (k0, 4, .inr (.inr (.inr (.inr (va_up (va_up (va_up (va_up (fun _ => none) 0 (some h2)) 1 (some h3)) 2 (some h4)) 3 (some h5))))))), (h2, .inr (6, [.ref z5, .int 0])), (h3, .inr (6, [.ref z6, .int 0])), (h4, .inr (6, [.ref z7, .int 0])), (h5, .inr (6, [.ref z8, .int 0]))]) (w1 := []) hP hD [] [0, 1, 2, 3, 4, 5] rfl rfl (by decide) (by decide) hk1 hFc hP1 hD1
  generalize H1 = H at hP hS ⊢
  have hP : va_P (dC, dI) vwCl [(h0, .inr (7, [.ref h1, .ref z0, .ref z1, .ref z2, .ref z3, .ref z4, .int 0, .int 0, .int 0])), (h1, .inl (k0, 4, .inr (.inr (.inr (.inr (va_up (va_up (va_up (va_up (fun _ => none) 0 (some h2)) 1 (some h3)) 2 (some h4)) 3 (some h5))))))), (h2, .inr (6, [.ref z5, .int 0])), (h3, .inr (6, [.ref z6, .int 0])), (h4, .inr (6, [.ref z7, .int 0])), (h5, .inr (6, [.ref z8, .int 0]))] H := hP
  have hD : va_D A [(h0, .inr (7, [.ref h1, .ref z0, .ref z1, .ref z2, .ref z3, .ref z4, .int 0, .int 0, .int 0])), (h1, .inl (k0, 4, .inr (.inr (.inr (.inr (va_up (va_up (va_up (va_up (fun _ => none) 0 (some h2)) 1 (some h3)) 2 (some h4)) 3 (some h5))))))), (h2, .inr (6, [.ref z5, .int 0])), (h3, .inr (6, [.ref z6, .int 0])), (h4, .inr (6, [.ref z7, .int 0])), (h5, .inr (6, [.ref z8, .int 0]))] := hD
  refine lv_iconst (v := (-1)) hx hb dX3_find_8 (by decide) ?_
  refine lv_istore (lv' := [(4, .int (-1)), (0, .ref h0), (1, .int 0), (2, .int 3), (3, .int 0)]) hx hb dX3_find_9 hl (by decide) rfl (fun ls hl => ?_)
  refine lv_iconst (v := 0) hx hb dX3_find_11 (by decide) ?_
  refine lv_istore (lv' := [(5, .int 0), (4, .int (-1)), (0, .ref h0), (1, .int 0), (2, .int 3), (3, .int 0)]) hx hb dX3_find_12 hl (by decide) rfl (fun ls hl => ?_)
  refine lv_iload hx hb dX3_find_14 (lv_at hl 0 rfl) ?_
  refine lv_aload_n hx hb dX3_find_16 rfl (lv_at hl 2 rfl) ?_
  refine va_get (D := (dC, dI)) (ci := 7) (v := .ref h1) (C := RX3) (T := TX3) (N := 9) hx hb hts (by decide +kernel) hown hK hP 0 rfl rfl 0 (by decide) (hts (.fieldLink RX3 11 "Rewriterope" "ropes" "[LRewriterope$Text;") (by decide +kernel)) (fun _ h9 => h9) rfl dX3_find_17 ?_
  refine lv_iload_n hx hb dX3_find_20 rfl (lv_at hl 3 rfl) ?_
  refine va_aldq (D := (dC, dI)) hx hb hK hP 1 0 rfl rfl (by unfold vp_in; decide) dX3_find_21 ?_
  refine W.eq (g2 := F0 m 22 ls [.ref h2, .int 0]) rfl ?_
  refine va_get (D := (dC, dI)) (ci := 6) (v := .int 0) (C := RX2) (T := TX2) (N := 2) hx hb hts (by decide +kernel) hown hK hP 2 rfl rfl 1 (by decide) (hts (.fieldLink RX3 65 "Rewriterope$Text" "length" "I") (by decide +kernel)) (fun _ h9 => h9) rfl dX3_find_22 ?_
  refine lv_icmp_gt (tgt := 80) hx hb dX3_find_25 (by decide) (fun c9 => absurd c9 (by decide)) (fun _ => ?_)
  refine lv_iload_n hx hb dX3_find_28 rfl (lv_at hl 5 rfl) ?_
  refine lv_if_ne (tgt := 38) hx hb dX3_find_29 (by decide) (fun c9 => absurd (by decide) c9) (fun _ => ?_)
  refine lv_iload hx hb dX3_find_32 (lv_at hl 1 rfl) ?_
  refine lv_iconst (v := (-1)) hx hb dX3_find_34 (by decide) ?_
  refine lv_icmp_ne (tgt := 42) hx hb dX3_find_35 (by decide) (fun c9 => absurd (by decide) c9) (fun _ => ?_)
  refine lv_iconst (v := 1) hx hb dX3_find_38 (by decide) ?_
  refine lv_goto (tgt := 43) hx hb dX3_find_39 (by decide) ?_
  refine lv_istore (lv' := [(6, .int 1), (5, .int 0), (4, .int (-1)), (0, .ref h0), (1, .int 0), (2, .int 3), (3, .int 0)]) hx hb dX3_find_43 hl (by decide) rfl (fun ls hl => ?_)
  refine lv_iload hx hb dX3_find_45 (lv_at hl 0 rfl) ?_
  refine lv_if_eq (tgt := 74) hx hb dX3_find_47 (by decide) (fun c9 => absurd c9 (by decide)) (fun _ => ?_)
  refine lv_aload_n hx hb dX3_find_50 rfl (lv_at hl 3 rfl) ?_
  refine va_get (D := (dC, dI)) (ci := 7) (v := .ref h1) (C := RX3) (T := TX3) (N := 9) hx hb hts (by decide +kernel) hown hK hP 0 rfl rfl 0 (by decide) (hts (.fieldLink RX3 11 "Rewriterope" "ropes" "[LRewriterope$Text;") (by decide +kernel)) (fun _ h9 => h9) rfl dX3_find_51 ?_
  refine lv_iload_n hx hb dX3_find_54 rfl (lv_at hl 4 rfl) ?_
  refine va_aldq (D := (dC, dI)) hx hb hK hP 1 0 rfl rfl (by unfold vp_in; decide) dX3_find_55 ?_
  refine W.eq (g2 := F0 m 56 ls [.ref h2]) rfl ?_
  refine lv_aload_n hx hb dX3_find_56 rfl (lv_at hl 3 rfl) ?_
  refine va_get (D := (dC, dI)) (ci := 7) (v := .ref h1) (C := RX3) (T := TX3) (N := 9) hx hb hts (by decide +kernel) hown hK hP 0 rfl rfl 0 (by decide) (hts (.fieldLink RX3 11 "Rewriterope" "ropes" "[LRewriterope$Text;") (by decide +kernel)) (fun _ h9 => h9) rfl dX3_find_57 ?_
  refine lv_iload_n hx hb dX3_find_60 rfl (lv_at hl 5 rfl) ?_
  refine va_aldq (D := (dC, dI)) hx hb hK hP 1 0 rfl rfl (by unfold vp_in; decide) dX3_find_61 ?_
  refine W.eq (g2 := F0 m 62 ls [.ref h5, .ref h2]) rfl ?_
  refine lv_iload hx hb dX3_find_62 (lv_at hl 1 rfl) ?_
  have hPc := hP.sub (ws' := [(h2, .inr (6, [.ref z5, .int 0])), (h5, .inr (6, [.ref z8, .int 0]))]) [2, 5] rfl
  have hDc := hD.sub (ws' := [(h2, .inr (6, [.ref z5, .int 0])), (h5, .inr (6, [.ref z8, .int 0]))]) [2, 5] (by decide) rfl
  have hKc := hK.sub (tys' := []) [] rfl
  have hFc := va_free (wc := [(h2, .inr (6, [.ref z5, .int 0])), (h5, .inr (6, [.ref z8, .int 0]))]) hD hS hA [2, 5] rfl
  refine va_calli (va_runV (As := [.ref h5, .int 0]) (rest := []) ⟨hx, hb, hml, hown, hts⟩ (kx_X2_holds_1 l dC dI h2 h5 z5 z8 H.size) (cwV 2 hts gX3_find_X2_holds rfl rfl rfl (by decide +kernel) ⟨Nat.le_of_ble_eq_true rfl, Nat.le_of_ble_eq_true rfl⟩) ⟨fun a U g mk q => by obtain ⟨q0, q1, qP, qK, qD⟩ := q; exact ⟨q0, q1, qP, va_K.moved (u := U) (U := U.calling g mk a) (Vm.Alike.refl U.vm) qK, qD⟩, va_recv hKc hPc (ci := 6) (q0 := 0) rfl rfl, fun U hU hW => ⟨rfl, by rw [hU], by rw [hU]; exact hPc, va_K.moved hW.alike hKc, hDc.weaken (fun _ _ _ _ => trivial)⟩⟩ rfl rfl hl.1 rfl (lv_room (Nat.le_of_ble_eq_true rfl)) dX3_find_64 ⟨Nat.le_of_ble_eq_true rfl, Nat.le_of_ble_eq_true rfl⟩) hS (fun q _ h => hFc q h) hFc (fun r9 u t H1 locs ht hvm hw hB hz1 hk1 hS => ?_)
  obtain rfl := hw
  obtain ⟨hP1, hK1, hD1⟩ := hB
  rw [ht] at hP1
  have hK1 := va_K.moved hvm.symm hK1
  obtain ⟨hP, hD⟩ := va_join (wr := [(h0, .inr (7, [.ref h1, .ref z0, .ref z1, .ref z2, .ref z3, .ref z4, .int 0, .int 0, .int 0])), (h1, .inl (k0, 4, .inr (.inr (.inr (.inr (va_up (va_up (va_up (va_up (fun _ => none) 0 (some h2)) 1 (some h3)) 2 (some h4)) 3 (some h5))))))), (h3, .inr (6, [.ref z6, .int 0])), (h4, .inr (6, [.ref z7, .int 0]))]) (w1 := [(h2, .inr (6, [.ref z5, .int 0])), (h5, .inr (6, [.ref z8, .int 0]))]) hP hD [2, 5] [0, 1, 3, 4] rfl rfl (by decide) (by decide) hk1 hFc hP1 hD1
  generalize H1 = H at hP hS ⊢
  have hP : va_P (dC, dI) vwCl [(h0, .inr (7, [.ref h1, .ref z0, .ref z1, .ref z2, .ref z3, .ref z4, .int 0, .int 0, .int 0])), (h1, .inl (k0, 4, .inr (.inr (.inr (.inr (va_up (va_up (va_up (va_up (fun _ => none) 0 (some h2)) 1 (some h3)) 2 (some h4)) 3 (some h5))))))), (h3, .inr (6, [.ref z6, .int 0])), (h4, .inr (6, [.ref z7, .int 0])), (h2, .inr (6, [.ref z5, .int 0])), (h5, .inr (6, [.ref z8, .int 0]))] H := hP
  have hD : va_D A [(h0, .inr (7, [.ref h1, .ref z0, .ref z1, .ref z2, .ref z3, .ref z4, .int 0, .int 0, .int 0])), (h1, .inl (k0, 4, .inr (.inr (.inr (.inr (va_up (va_up (va_up (va_up (fun _ => none) 0 (some h2)) 1 (some h3)) 2 (some h4)) 3 (some h5))))))), (h3, .inr (6, [.ref z6, .int 0])), (h4, .inr (6, [.ref z7, .int 0])), (h2, .inr (6, [.ref z5, .int 0])), (h5, .inr (6, [.ref z8, .int 0]))] := hD
  refine lv_if_eq (tgt := 74) hx hb dX3_find_67 (by decide) (fun c9 => absurd c9 (by decide)) (fun _ => ?_)
  refine lv_iload hx hb dX3_find_70 (lv_at hl 1 rfl) ?_
  refine lv_istore (lv' := [(4, .int 0), (6, .int 1), (5, .int 0), (0, .ref h0), (1, .int 0), (2, .int 3), (3, .int 0)]) hx hb dX3_find_72 hl (by decide) rfl (fun ls hl => ?_)
  refine lv_iinc (v := 1) (lv' := [(5, .int 1), (4, .int 0), (6, .int 1), (0, .ref h0), (1, .int 0), (2, .int 3), (3, .int 0)]) hx hb dX3_find_74 hl (k := 2) rfl (by decide) (by decide) rfl (fun ls hl => ?_)
  refine lv_goto (tgt := 14) hx hb dX3_find_77 (by decide) ?_
  refine lv_iload hx hb dX3_find_14 (lv_at hl 0 rfl) ?_
  refine lv_aload_n hx hb dX3_find_16 rfl (lv_at hl 3 rfl) ?_
  refine va_get (D := (dC, dI)) (ci := 7) (v := .ref h1) (C := RX3) (T := TX3) (N := 9) hx hb hts (by decide +kernel) hown hK hP 0 rfl rfl 0 (by decide) (hts (.fieldLink RX3 11 "Rewriterope" "ropes" "[LRewriterope$Text;") (by decide +kernel)) (fun _ h9 => h9) rfl dX3_find_17 ?_
  refine lv_iload_n hx hb dX3_find_20 rfl (lv_at hl 4 rfl) ?_
  refine va_aldq (D := (dC, dI)) hx hb hK hP 1 0 rfl rfl (by unfold vp_in; decide) dX3_find_21 ?_
  refine W.eq (g2 := F0 m 22 ls [.ref h2, .int 1]) rfl ?_
  refine va_get (D := (dC, dI)) (ci := 6) (v := .int 0) (C := RX2) (T := TX2) (N := 2) hx hb hts (by decide +kernel) hown hK hP 4 rfl rfl 1 (by decide) (hts (.fieldLink RX3 65 "Rewriterope$Text" "length" "I") (by decide +kernel)) (fun _ h9 => h9) rfl dX3_find_22 ?_
  refine lv_icmp_gt (tgt := 80) hx hb dX3_find_25 (by decide) (fun _ => ?_) (fun c9 => absurd (by decide) c9)
  refine lv_iload hx hb dX3_find_80 (lv_at hl 1 rfl) ?_
  have hP := hP.sub (ws' := [(h0, .inr (7, [.ref h1, .ref z0, .ref z1, .ref z2, .ref z3, .ref z4, .int 0, .int 0, .int 0])), (h1, .inl (k0, 4, .inr (.inr (.inr (.inr (va_up (va_up (va_up (va_up (fun _ => none) 0 (some h2)) 1 (some h3)) 2 (some h4)) 3 (some h5))))))), (h2, .inr (6, [.ref z5, .int 0])), (h3, .inr (6, [.ref z6, .int 0])), (h4, .inr (6, [.ref z7, .int 0])), (h5, .inr (6, [.ref z8, .int 0]))]) [0, 1, 4, 2, 3, 5] rfl
  have hD := hD.sub (ws' := [(h0, .inr (7, [.ref h1, .ref z0, .ref z1, .ref z2, .ref z3, .ref z4, .int 0, .int 0, .int 0])), (h1, .inl (k0, 4, .inr (.inr (.inr (.inr (va_up (va_up (va_up (va_up (fun _ => none) 0 (some h2)) 1 (some h3)) 2 (some h4)) 3 (some h5))))))), (h2, .inr (6, [.ref z5, .int 0])), (h3, .inr (6, [.ref z6, .int 0])), (h4, .inr (6, [.ref z7, .int 0])), (h5, .inr (6, [.ref z8, .int 0]))]) [0, 1, 4, 2, 3, 5] (by decide) rfl
  exact W.iret (v := 0) hx hb hr (fun t ht hW => ⟨⟨0, (), rfl, rfl, by rw [ht]; exact hP, va_K.moved hW.alike hK, hD⟩, hS.F ht⟩) hS.2.2 dX3_find_82
set_option maxHeartbeats 4000000 in
set_option maxRecDepth 100000 in
theorem kx_X3_find_s0 (l : Launch) (dC : Nat → ClassId) (dI : Nat → Nat → Nat) (h0 : Nat) (h1 : Nat) (h2 : Nat) (h3 : Nat) (h4 : Nat) (h5 : Nat) (z0 : Nat) (z1 : Nat) (z2 : Nat) (z3 : Nat) (z4 : Nat) (z5 : Nat) (z6 : Nat) (z7 : Nat) (z8 : Nat) (k0 : ClassId) (sz : Nat) (j0 : Int32) (j0_l : (0 : Int) ≤ j0.toInt) (j0_u : j0.toInt ≤ (3 : Int)) : Met l yX3_find wsX3_find ({ frames := 1, cells := 0, slots := 0, locals := 23 }) (va_Pc [.ref h0, .int 0, .int j0, .int 0] (fun U => U.heap.size = sz ∧ va_P (dC, dI) vwCl [(h0, .inr (7, [.ref h1, .ref z0, .ref z1, .ref z2, .ref z3, .ref z4, .int 0, .int 0, .int 0])), (h1, .inl (k0, 4, .inr (.inr (.inr (.inr (va_up (va_up (va_up (va_up (fun _ => none) 0 (some h2)) 1 (some h3)) 2 (some h4)) 3 (some h5))))))), (h2, .inr (6, [.ref z5, .int 0])), (h3, .inr (6, [.ref z6, .int 0])), (h4, .inr (6, [.ref z7, .int 0])), (h5, .inr (6, [.ref z8, .int 0]))] U.heap ∧ va_K (dC, dI) vwCl [(k0, .object "Rewriterope$Text")] U ∧ va_D (fun _ => True) [(h0, .inr (7, [.ref h1, .ref z0, .ref z1, .ref z2, .ref z3, .ref z4, .int 0, .int 0, .int 0])), (h1, .inl (k0, 4, .inr (.inr (.inr (.inr (va_up (va_up (va_up (va_up (fun _ => none) 0 (some h2)) 1 (some h3)) 2 (some h4)) 3 (some h5))))))), (h2, .inr (6, [.ref z5, .int 0])), (h3, .inr (6, [.ref z6, .int 0])), (h4, .inr (6, [.ref z7, .int 0])), (h5, .inr (6, [.ref z8, .int 0]))])) (va_Qi (fun (r : Int32) (_ : Unit) => r = 0) (fun (_ : Unit) (t : State) => va_P (dC, dI) vwCl [(h0, .inr (7, [.ref h1, .ref z0, .ref z1, .ref z2, .ref z3, .ref z4, .int 0, .int 0, .int 0])), (h1, .inl (k0, 4, .inr (.inr (.inr (.inr (va_up (va_up (va_up (va_up (fun _ => none) 0 (some h2)) 1 (some h3)) 2 (some h4)) 3 (some h5))))))), (h2, .inr (6, [.ref z5, .int 0])), (h3, .inr (6, [.ref z6, .int 0])), (h4, .inr (6, [.ref z7, .int 0])), (h5, .inr (6, [.ref z8, .int 0]))] t.heap ∧ va_K (dC, dI) vwCl [(k0, .object "Rewriterope$Text")] t ∧ va_D (va_A [(h0, .inr (7, [.ref h1, .ref z0, .ref z1, .ref z2, .ref z3, .ref z4, .int 0, .int 0, .int 0])), (h1, .inl (k0, 4, .inr (.inr (.inr (.inr (va_up (va_up (va_up (va_up (fun _ => none) 0 (some h2)) 1 (some h3)) 2 (some h4)) 3 (some h5))))))), (h2, .inr (6, [.ref z5, .int 0])), (h3, .inr (6, [.ref z6, .int 0])), (h4, .inr (6, [.ref z7, .int 0])), (h5, .inr (6, [.ref z8, .int 0]))] sz) [(h0, .inr (7, [.ref h1, .ref z0, .ref z1, .ref z2, .ref z3, .ref z4, .int 0, .int 0, .int 0])), (h1, .inl (k0, 4, .inr (.inr (.inr (.inr (va_up (va_up (va_up (va_up (fun _ => none) 0 (some h2)) 1 (some h3)) 2 (some h4)) 3 (some h5))))))), (h2, .inr (6, [.ref z5, .int 0])), (h3, .inr (6, [.ref z6, .int 0])), (h4, .inr (6, [.ref z7, .int 0])), (h5, .inr (6, [.ref z8, .int 0]))]) (va_A [(h0, .inr (7, [.ref h1, .ref z0, .ref z1, .ref z2, .ref z3, .ref z4, .int 0, .int 0, .int 0])), (h1, .inl (k0, 4, .inr (.inr (.inr (.inr (va_up (va_up (va_up (va_up (fun _ => none) 0 (some h2)) 1 (some h3)) 2 (some h4)) 3 (some h5))))))), (h2, .inr (6, [.ref z5, .int 0])), (h3, .inr (6, [.ref z6, .int 0])), (h4, .inr (6, [.ref z7, .int 0])), (h5, .inr (6, [.ref z8, .int 0]))] sz)) 0 0 (va_A [(h0, .inr (7, [.ref h1, .ref z0, .ref z1, .ref z2, .ref z3, .ref z4, .int 0, .int 0, .int 0])), (h1, .inl (k0, 4, .inr (.inr (.inr (.inr (va_up (va_up (va_up (va_up (fun _ => none) 0 (some h2)) 1 (some h3)) 2 (some h4)) 3 (some h5))))))), (h2, .inr (6, [.ref z5, .int 0])), (h3, .inr (6, [.ref z6, .int 0])), (h4, .inr (6, [.ref z7, .int 0])), (h5, .inr (6, [.ref z8, .int 0]))] sz) := by
  have e9 : j0 = 0 ∨ j0 = 1 ∨ j0 = 2 ∨ j0 = 3 := by
    have h9 : j0.toInt = 0 ∨ j0.toInt = 1 ∨ j0.toInt = 2 ∨ j0.toInt = 3 := by omega
    rcases h9 with h9 | h9 | h9 | h9
    · exact Or.inl (Int32.toInt_inj.mp (h9.trans (by decide)))
    · exact Or.inr (Or.inl (Int32.toInt_inj.mp (h9.trans (by decide))))
    · exact Or.inr (Or.inr (Or.inl (Int32.toInt_inj.mp (h9.trans (by decide)))))
    · exact Or.inr (Or.inr (Or.inr (Int32.toInt_inj.mp (h9.trans (by decide)))))
  rcases e9 with rfl | rfl | rfl | rfl
  · exact kx_X3_find_0 l dC dI h0 h1 h2 h3 h4 h5 z0 z1 z2 z3 z4 z5 z6 z7 z8 k0 sz
  · exact kx_X3_find_1 l dC dI h0 h1 h2 h3 h4 h5 z0 z1 z2 z3 z4 z5 z6 z7 z8 k0 sz
  · exact kx_X3_find_2 l dC dI h0 h1 h2 h3 h4 h5 z0 z1 z2 z3 z4 z5 z6 z7 z8 k0 sz
  · exact kx_X3_find_3 l dC dI h0 h1 h2 h3 h4 h5 z0 z1 z2 z3 z4 z5 z6 z7 z8 k0 sz
set_option maxHeartbeats 4000000 in
set_option maxRecDepth 100000 in
theorem kx_X3_find_4 (l : Launch) (dC : Nat → ClassId) (dI : Nat → Nat → Nat) (h0 : Nat) (h1 : Nat) (h2 : Nat) (h3 : Nat) (h4 : Nat) (h5 : Nat) (z0 : Nat) (z1 : Nat) (z2 : Nat) (z3 : Nat) (z4 : Nat) (z5 : Nat) (z6 : Nat) (z7 : Nat) (z8 : Nat) (k0 : ClassId) (sz : Nat) : Met l yX3_find wsX3_find ({ frames := 1, cells := 0, slots := 0, locals := 23 }) (va_Pc [.ref h0, .int 1, .int 0, .int 0] (fun U => U.heap.size = sz ∧ va_P (dC, dI) vwCl [(h0, .inr (7, [.ref h1, .ref z0, .ref z1, .ref z2, .ref z3, .ref z4, .int 0, .int 0, .int 0])), (h1, .inl (k0, 4, .inr (.inr (.inr (.inr (va_up (va_up (va_up (va_up (fun _ => none) 0 (some h2)) 1 (some h3)) 2 (some h4)) 3 (some h5))))))), (h2, .inr (6, [.ref z5, .int 0])), (h3, .inr (6, [.ref z6, .int 0])), (h4, .inr (6, [.ref z7, .int 0])), (h5, .inr (6, [.ref z8, .int 0]))] U.heap ∧ va_K (dC, dI) vwCl [(k0, .object "Rewriterope$Text")] U ∧ va_D (fun _ => True) [(h0, .inr (7, [.ref h1, .ref z0, .ref z1, .ref z2, .ref z3, .ref z4, .int 0, .int 0, .int 0])), (h1, .inl (k0, 4, .inr (.inr (.inr (.inr (va_up (va_up (va_up (va_up (fun _ => none) 0 (some h2)) 1 (some h3)) 2 (some h4)) 3 (some h5))))))), (h2, .inr (6, [.ref z5, .int 0])), (h3, .inr (6, [.ref z6, .int 0])), (h4, .inr (6, [.ref z7, .int 0])), (h5, .inr (6, [.ref z8, .int 0]))])) (va_Qi (fun (r : Int32) (_ : Unit) => r = 0) (fun (_ : Unit) (t : State) => va_P (dC, dI) vwCl [(h0, .inr (7, [.ref h1, .ref z0, .ref z1, .ref z2, .ref z3, .ref z4, .int 0, .int 0, .int 0])), (h1, .inl (k0, 4, .inr (.inr (.inr (.inr (va_up (va_up (va_up (va_up (fun _ => none) 0 (some h2)) 1 (some h3)) 2 (some h4)) 3 (some h5))))))), (h2, .inr (6, [.ref z5, .int 0])), (h3, .inr (6, [.ref z6, .int 0])), (h4, .inr (6, [.ref z7, .int 0])), (h5, .inr (6, [.ref z8, .int 0]))] t.heap ∧ va_K (dC, dI) vwCl [(k0, .object "Rewriterope$Text")] t ∧ va_D (va_A [(h0, .inr (7, [.ref h1, .ref z0, .ref z1, .ref z2, .ref z3, .ref z4, .int 0, .int 0, .int 0])), (h1, .inl (k0, 4, .inr (.inr (.inr (.inr (va_up (va_up (va_up (va_up (fun _ => none) 0 (some h2)) 1 (some h3)) 2 (some h4)) 3 (some h5))))))), (h2, .inr (6, [.ref z5, .int 0])), (h3, .inr (6, [.ref z6, .int 0])), (h4, .inr (6, [.ref z7, .int 0])), (h5, .inr (6, [.ref z8, .int 0]))] sz) [(h0, .inr (7, [.ref h1, .ref z0, .ref z1, .ref z2, .ref z3, .ref z4, .int 0, .int 0, .int 0])), (h1, .inl (k0, 4, .inr (.inr (.inr (.inr (va_up (va_up (va_up (va_up (fun _ => none) 0 (some h2)) 1 (some h3)) 2 (some h4)) 3 (some h5))))))), (h2, .inr (6, [.ref z5, .int 0])), (h3, .inr (6, [.ref z6, .int 0])), (h4, .inr (6, [.ref z7, .int 0])), (h5, .inr (6, [.ref z8, .int 0]))]) (va_A [(h0, .inr (7, [.ref h1, .ref z0, .ref z1, .ref z2, .ref z3, .ref z4, .int 0, .int 0, .int 0])), (h1, .inl (k0, 4, .inr (.inr (.inr (.inr (va_up (va_up (va_up (va_up (fun _ => none) 0 (some h2)) 1 (some h3)) 2 (some h4)) 3 (some h5))))))), (h2, .inr (6, [.ref z5, .int 0])), (h3, .inr (6, [.ref z6, .int 0])), (h4, .inr (6, [.ref z7, .int 0])), (h5, .inr (6, [.ref z8, .int 0]))] sz)) 0 0 (va_A [(h0, .inr (7, [.ref h1, .ref z0, .ref z1, .ref z2, .ref z3, .ref z4, .int 0, .int 0, .int 0])), (h1, .inl (k0, 4, .inr (.inr (.inr (.inr (va_up (va_up (va_up (va_up (fun _ => none) 0 (some h2)) 1 (some h3)) 2 (some h4)) 3 (some h5))))))), (h2, .inr (6, [.ref z5, .int 0])), (h3, .inr (6, [.ref z6, .int 0])), (h4, .inr (6, [.ref z7, .int 0])), (h5, .inr (6, [.ref z8, .int 0]))] sz) := by
  refine Met.ofW (cc := cX3_find) (maxL := 7) (ret := (some .int)) (by decide) rfl ?_
  intro p e s m args below meth c s₁ B hml hv
  obtain ⟨rfl, hsz, hP, hK, hD0⟩ := hv
  have hx := B.exec
  have hb := B.bytes
  have hr := B.returns
  have hts := atoms_spec (ws := wsX3_find) B.pre
  have hown : s.vm.findClass RX3 = some m.cls := findClass_of_methodNamed B.named
  have hlocks := B.notSynchronized
  subst hsz
  have hD := hD0.self (sz := s.heap.size)
  generalize hAe : va_A [(h0, .inr (7, [.ref h1, .ref z0, .ref z1, .ref z2, .ref z3, .ref z4, .int 0, .int 0, .int 0])), (h1, .inl (k0, 4, .inr (.inr (.inr (.inr (va_up (va_up (va_up (va_up (fun _ => none) 0 (some h2)) 1 (some h3)) 2 (some h4)) 3 (some h5))))))), (h2, .inr (6, [.ref z5, .int 0])), (h3, .inr (6, [.ref z6, .int 0])), (h4, .inr (6, [.ref z7, .int 0])), (h5, .inr (6, [.ref z8, .int 0]))] s.heap.size = A at hD ⊢
  have hA : ∀ q : Nat, s.heap.size ≤ q → A q := fun q h => by rw [← hAe]; exact Or.inr h
  have hS : va_S A s.heap s.heap [] := va_S.rf
  have hP : va_P (dC, dI) vwCl [(h0, .inr (7, [.ref h1, .ref z0, .ref z1, .ref z2, .ref z3, .ref z4, .int 0, .int 0, .int 0])), (h1, .inl (k0, 4, .inr (.inr (.inr (.inr (va_up (va_up (va_up (va_up (fun _ => none) 0 (some h2)) 1 (some h3)) 2 (some h4)) 3 (some h5))))))), (h2, .inr (6, [.ref z5, .int 0])), (h3, .inr (6, [.ref z6, .int 0])), (h4, .inr (6, [.ref z7, .int 0])), (h5, .inr (6, [.ref z8, .int 0]))] s.heap := hP
  have hl := lv_entry ([.ref h0, .int 1, .int 0, .int 0]) (n := 7) (Nat.le_of_ble_eq_true rfl)
  rw [lg_entry_eq]
  generalize (lg_sl ([.ref h0, .int 1, .int 0, .int 0]) ++ List.replicate (7 - (lg_sl ([.ref h0, .int 1, .int 0, .int 0])).length) Slot.unset).toArray = ls at hl ⊢
  have hl : lv_has ls 7 [(0, .ref h0), (1, .int 1), (2, .int 0), (3, .int 0)] := hl
  refine lv_iload_n hx hb dX3_find_0 rfl (lv_at hl 1 rfl) ?_
  have hPc := hP.sub (ws' := []) [] rfl
  have hDc := hD.sub (ws' := []) [] (by decide) rfl
  have hKc := hK.sub (tys' := []) [] rfl
  have hFc := va_free (wc := []) hD hS hA [] rfl
  refine va_callv (va_runS (As := [.int 1]) (rest := []) ⟨hx, hb, hml, hown, hts⟩ (kx_X3_needRope_1 l dC dI s.heap.size) (cwS 1 hts gX3_find_X3_needRope rfl rfl rfl (by decide +kernel) ⟨Nat.le_of_ble_eq_true rfl, Nat.le_of_ble_eq_true rfl⟩) ⟨fun a U g mk q => by obtain ⟨q0, q1, qP, qK, qD⟩ := q; exact ⟨q0, q1, qP, va_K.moved (u := U) (U := U.calling g mk a) (Vm.Alike.refl U.vm) qK, qD⟩, fun U hU hW => ⟨rfl, by rw [hU], by rw [hU]; exact hPc, va_K.moved hW.alike hKc, hDc.weaken (fun _ _ _ _ => trivial)⟩⟩ rfl rfl hl.1 rfl (lv_room (Nat.le_of_ble_eq_true rfl)) dX3_find_1 ⟨Nat.le_of_ble_eq_true rfl, Nat.le_of_ble_eq_true rfl⟩) hS (fun q _ h => hFc q h) hFc (fun u t H1 locs ht hvm hw hB hz1 hk1 hS => ?_)
  obtain ⟨hP1, hK1, hD1⟩ := hB
  rw [ht] at hP1
  have hK1 := va_K.moved hvm.symm hK1
  obtain ⟨hP, hD⟩ := va_join (wr := [(h0, .inr (7, [.ref h1, .ref z0, .ref z1, .ref z2, .ref z3, .ref z4, .int 0, .int 0, .int 0])), (h1, .inl (k0, 4, .inr (.inr (.inr (.inr (va_up (va_up (va_up (va_up (fun _ => none) 0 (some h2)) 1 (some h3)) 2 (some h4)) 3 (some h5))))))), (h2, .inr (6, [.ref z5, .int 0])), (h3, .inr (6, [.ref z6, .int 0])), (h4, .inr (6, [.ref z7, .int 0])), (h5, .inr (6, [.ref z8, .int 0]))]) (w1 := []) hP hD [] [0, 1, 2, 3, 4, 5] rfl rfl (by decide) (by decide) hk1 hFc hP1 hD1
  generalize H1 = H at hP hS ⊢
  have hP : va_P (dC, dI) vwCl [(h0, .inr (7, [.ref h1, .ref z0, .ref z1, .ref z2, .ref z3, .ref z4, .int 0, .int 0, .int 0])), (h1, .inl (k0, 4, .inr (.inr (.inr (.inr (va_up (va_up (va_up (va_up (fun _ => none) 0 (some h2)) 1 (some h3)) 2 (some h4)) 3 (some h5))))))), (h2, .inr (6, [.ref z5, .int 0])), (h3, .inr (6, [.ref z6, .int 0])), (h4, .inr (6, [.ref z7, .int 0])), (h5, .inr (6, [.ref z8, .int 0]))] H := hP
  have hD : va_D A [(h0, .inr (7, [.ref h1, .ref z0, .ref z1, .ref z2, .ref z3, .ref z4, .int 0, .int 0, .int 0])), (h1, .inl (k0, 4, .inr (.inr (.inr (.inr (va_up (va_up (va_up (va_up (fun _ => none) 0 (some h2)) 1 (some h3)) 2 (some h4)) 3 (some h5))))))), (h2, .inr (6, [.ref z5, .int 0])), (h3, .inr (6, [.ref z6, .int 0])), (h4, .inr (6, [.ref z7, .int 0])), (h5, .inr (6, [.ref z8, .int 0]))] := hD
  refine lv_iload_n hx hb dX3_find_4 rfl (lv_at hl 2 rfl) ?_
  have hPc := hP.sub (ws' := []) [] rfl
  have hDc := hD.sub (ws' := []) [] (by decide) rfl
  have hKc := hK.sub (tys' := []) [] rfl
  have hFc := va_free (wc := []) hD hS hA [] rfl
  refine va_callv (va_runS (As := [.int 0]) (rest := []) ⟨hx, hb, hml, hown, hts⟩ (kx_X3_needRope_0 l dC dI H.size) (cwS 1 hts gX3_find_X3_needRope rfl rfl rfl (by decide +kernel) ⟨Nat.le_of_ble_eq_true rfl, Nat.le_of_ble_eq_true rfl⟩) ⟨fun a U g mk q => by obtain ⟨q0, q1, qP, qK, qD⟩ := q; exact ⟨q0, q1, qP, va_K.moved (u := U) (U := U.calling g mk a) (Vm.Alike.refl U.vm) qK, qD⟩, fun U hU hW => ⟨rfl, by rw [hU], by rw [hU]; exact hPc, va_K.moved hW.alike hKc, hDc.weaken (fun _ _ _ _ => trivial)⟩⟩ rfl rfl hl.1 rfl (lv_room (Nat.le_of_ble_eq_true rfl)) dX3_find_5 ⟨Nat.le_of_ble_eq_true rfl, Nat.le_of_ble_eq_true rfl⟩) hS (fun q _ h => hFc q h) hFc (fun u t H1 locs ht hvm hw hB hz1 hk1 hS => ?_)
  obtain ⟨hP1, hK1, hD1⟩ := hB
  rw [ht] at hP1
  have hK1 := va_K.moved hvm.symm hK1
  obtain ⟨hP, hD⟩ := va_join (wr := [(h0, .inr (7, [.ref h1, .ref z0, .ref z1, .ref z2, .ref z3, .ref z4, .int 0, .int 0, .int 0])), (h1, .inl (k0, 4, .inr (.inr (.inr (.inr (va_up (va_up (va_up (va_up (fun _ => none) 0 (some h2)) 1 (some h3)) 2 (some h4)) 3 (some h5))))))), (h2, .inr (6, [.ref z5, .int 0])), (h3, .inr (6, [.ref z6, .int 0])), (h4, .inr (6, [.ref z7, .int 0])), (h5, .inr (6, [.ref z8, .int 0]))]) (w1 := []) hP hD [] [0, 1, 2, 3, 4, 5] rfl rfl (by decide) (by decide) hk1 hFc hP1 hD1
  generalize H1 = H at hP hS ⊢
  have hP : va_P (dC, dI) vwCl [(h0, .inr (7, [.ref h1, .ref z0, .ref z1, .ref z2, .ref z3, .ref z4, .int 0, .int 0, .int 0])), (h1, .inl (k0, 4, .inr (.inr (.inr (.inr (va_up (va_up (va_up (va_up (fun _ => none) 0 (some h2)) 1 (some h3)) 2 (some h4)) 3 (some h5))))))), (h2, .inr (6, [.ref z5, .int 0])), (h3, .inr (6, [.ref z6, .int 0])), (h4, .inr (6, [.ref z7, .int 0])), (h5, .inr (6, [.ref z8, .int 0]))] H := hP
  have hD : va_D A [(h0, .inr (7, [.ref h1, .ref z0, .ref z1, .ref z2, .ref z3, .ref z4, .int 0, .int 0, .int 0])), (h1, .inl (k0, 4, .inr (.inr (.inr (.inr (va_up (va_up (va_up (va_up (fun _ => none) 0 (some h2)) 1 (some h3)) 2 (some h4)) 3 (some h5))))))), (h2, .inr (6, [.ref z5, .int 0])), (h3, .inr (6, [.ref z6, .int 0])), (h4, .inr (6, [.ref z7, .int 0])), (h5, .inr (6, [.ref z8, .int 0]))] := hD
  refine lv_iconst (v := (-1)) hx hb dX3_find_8 (by decide) ?_
  refine lv_istore (lv' := [(4, .int (-1)), (0, .ref h0), (1, .int 1), (2, .int 0), (3, .int 0)]) hx hb dX3_find_9 hl (by decide) rfl (fun ls hl => ?_)
  refine lv_iconst (v := 0) hx hb dX3_find_11 (by decide) ?_
  refine lv_istore (lv' := [(5, .int 0), (4, .int (-1)), (0, .ref h0), (1, .int 1), (2, .int 0), (3, .int 0)]) hx hb dX3_find_12 hl (by decide) rfl (fun ls hl => ?_)
  refine lv_iload hx hb dX3_find_14 (lv_at hl 0 rfl) ?_
  refine lv_aload_n hx hb dX3_find_16 rfl (lv_at hl 2 rfl) ?_
  refine va_get (D := (dC, dI)) (ci := 7) (v := .ref h1) (C := RX3) (T := TX3) (N := 9) hx hb hts (by decide +kernel) hown hK hP 0 rfl rfl 0 (by decide) (hts (.fieldLink RX3 11 "Rewriterope" "ropes" "[LRewriterope$Text;") (by decide +kernel)) (fun _ h9 => h9) rfl dX3_find_17 ?_
  refine lv_iload_n hx hb dX3_find_20 rfl (lv_at hl 3 rfl) ?_
  refine va_aldq (D := (dC, dI)) hx hb hK hP 1 0 rfl rfl (by unfold vp_in; decide) dX3_find_21 ?_
  refine W.eq (g2 := F0 m 22 ls [.ref h3, .int 0]) rfl ?_
  refine va_get (D := (dC, dI)) (ci := 6) (v := .int 0) (C := RX2) (T := TX2) (N := 2) hx hb hts (by decide +kernel) hown hK hP 3 rfl rfl 1 (by decide) (hts (.fieldLink RX3 65 "Rewriterope$Text" "length" "I") (by decide +kernel)) (fun _ h9 => h9) rfl dX3_find_22 ?_
  refine lv_icmp_gt (tgt := 80) hx hb dX3_find_25 (by decide) (fun c9 => absurd c9 (by decide)) (fun _ => ?_)
  refine lv_iload_n hx hb dX3_find_28 rfl (lv_at hl 5 rfl) ?_
  refine lv_if_ne (tgt := 38) hx hb dX3_find_29 (by decide) (fun c9 => absurd (by decide) c9) (fun _ => ?_)
  refine lv_iload hx hb dX3_find_32 (lv_at hl 1 rfl) ?_
  refine lv_iconst (v := (-1)) hx hb dX3_find_34 (by decide) ?_
  refine lv_icmp_ne (tgt := 42) hx hb dX3_find_35 (by decide) (fun c9 => absurd (by decide) c9) (fun _ => ?_)
  refine lv_iconst (v := 1) hx hb dX3_find_38 (by decide) ?_
  refine lv_goto (tgt := 43) hx hb dX3_find_39 (by decide) ?_
  refine lv_istore (lv' := [(6, .int 1), (5, .int 0), (4, .int (-1)), (0, .ref h0), (1, .int 1), (2, .int 0), (3, .int 0)]) hx hb dX3_find_43 hl (by decide) rfl (fun ls hl => ?_)
  refine lv_iload hx hb dX3_find_45 (lv_at hl 0 rfl) ?_
  refine lv_if_eq (tgt := 74) hx hb dX3_find_47 (by decide) (fun c9 => absurd c9 (by decide)) (fun _ => ?_)
  refine lv_aload_n hx hb dX3_find_50 rfl (lv_at hl 3 rfl) ?_
  refine va_get (D := (dC, dI)) (ci := 7) (v := .ref h1) (C := RX3) (T := TX3) (N := 9) hx hb hts (by decide +kernel) hown hK hP 0 rfl rfl 0 (by decide) (hts (.fieldLink RX3 11 "Rewriterope" "ropes" "[LRewriterope$Text;") (by decide +kernel)) (fun _ h9 => h9) rfl dX3_find_51 ?_
  refine lv_iload_n hx hb dX3_find_54 rfl (lv_at hl 4 rfl) ?_
  refine va_aldq (D := (dC, dI)) hx hb hK hP 1 0 rfl rfl (by unfold vp_in; decide) dX3_find_55 ?_
  refine W.eq (g2 := F0 m 56 ls [.ref h3]) rfl ?_
  refine lv_aload_n hx hb dX3_find_56 rfl (lv_at hl 3 rfl) ?_
  refine va_get (D := (dC, dI)) (ci := 7) (v := .ref h1) (C := RX3) (T := TX3) (N := 9) hx hb hts (by decide +kernel) hown hK hP 0 rfl rfl 0 (by decide) (hts (.fieldLink RX3 11 "Rewriterope" "ropes" "[LRewriterope$Text;") (by decide +kernel)) (fun _ h9 => h9) rfl dX3_find_57 ?_
  refine lv_iload_n hx hb dX3_find_60 rfl (lv_at hl 5 rfl) ?_
  refine va_aldq (D := (dC, dI)) hx hb hK hP 1 0 rfl rfl (by unfold vp_in; decide) dX3_find_61 ?_
  refine W.eq (g2 := F0 m 62 ls [.ref h2, .ref h3]) rfl ?_
  refine lv_iload hx hb dX3_find_62 (lv_at hl 1 rfl) ?_
  have hPc := hP.sub (ws' := [(h2, .inr (6, [.ref z5, .int 0])), (h3, .inr (6, [.ref z6, .int 0]))]) [2, 3] rfl
  have hDc := hD.sub (ws' := [(h2, .inr (6, [.ref z5, .int 0])), (h3, .inr (6, [.ref z6, .int 0]))]) [2, 3] (by decide) rfl
  have hKc := hK.sub (tys' := []) [] rfl
  have hFc := va_free (wc := [(h2, .inr (6, [.ref z5, .int 0])), (h3, .inr (6, [.ref z6, .int 0]))]) hD hS hA [2, 3] rfl
  refine va_calli (va_runV (As := [.ref h2, .int 0]) (rest := []) ⟨hx, hb, hml, hown, hts⟩ (kx_X2_holds_2 l dC dI h2 h3 z5 z6 H.size) (cwV 2 hts gX3_find_X2_holds rfl rfl rfl (by decide +kernel) ⟨Nat.le_of_ble_eq_true rfl, Nat.le_of_ble_eq_true rfl⟩) ⟨fun a U g mk q => by obtain ⟨q0, q1, qP, qK, qD⟩ := q; exact ⟨q0, q1, qP, va_K.moved (u := U) (U := U.calling g mk a) (Vm.Alike.refl U.vm) qK, qD⟩, va_recv hKc hPc (ci := 6) (q0 := 1) rfl rfl, fun U hU hW => ⟨rfl, by rw [hU], by rw [hU]; exact hPc, va_K.moved hW.alike hKc, hDc.weaken (fun _ _ _ _ => trivial)⟩⟩ rfl rfl hl.1 rfl (lv_room (Nat.le_of_ble_eq_true rfl)) dX3_find_64 ⟨Nat.le_of_ble_eq_true rfl, Nat.le_of_ble_eq_true rfl⟩) hS (fun q _ h => hFc q h) hFc (fun r9 u t H1 locs ht hvm hw hB hz1 hk1 hS => ?_)
  obtain rfl := hw
  obtain ⟨hP1, hK1, hD1⟩ := hB
  rw [ht] at hP1
  have hK1 := va_K.moved hvm.symm hK1
  obtain ⟨hP, hD⟩ := va_join (wr := [(h0, .inr (7, [.ref h1, .ref z0, .ref z1, .ref z2, .ref z3, .ref z4, .int 0, .int 0, .int 0])), (h1, .inl (k0, 4, .inr (.inr (.inr (.inr (va_up (va_up (va_up (va_up (fun _ => none) 0 (some h2)) 1 (some h3)) 2 (some h4)) 3 (some h5))))))), (h4, .inr (6, [.ref z7, .int 0])), (h5, .inr (6, [.ref z8, .int 0]))]) (w1 := [(h2, .inr (6, [.ref z5, .int 0])), (h3, .inr (6, [.ref z6, .int 0]))]) hP hD [2, 3] [0, 1, 4, 5] rfl rfl (by decide) (by decide) hk1 hFc hP1 hD1
  generalize H1 = H at hP hS ⊢
  have hP : va_P (dC, dI) vwCl [(h0, .inr (7, [.ref h1, .ref z0, .ref z1, .ref z2, .ref z3, .ref z4, .int 0, .int 0, .int 0])), (h1, .inl (k0, 4, .inr (.inr (.inr (.inr (va_up (va_up (va_up (va_up (fun _ => none) 0 (some h2)) 1 (some h3)) 2 (some h4)) 3 (some h5))))))), (h4, .inr (6, [.ref z7, .int 0])), (h5, .inr (6, [.ref z8, .int 0])), (h2, .inr (6, [.ref z5, .int 0])), (h3, .inr (6, [.ref z6, .int 0]))] H := hP
  have hD : va_D A [(h0, .inr (7, [.ref h1, .ref z0, .ref z1, .ref z2, .ref z3, .ref z4, .int 0, .int 0, .int 0])), (h1, .inl (k0, 4, .inr (.inr (.inr (.inr (va_up (va_up (va_up (va_up (fun _ => none) 0 (some h2)) 1 (some h3)) 2 (some h4)) 3 (some h5))))))), (h4, .inr (6, [.ref z7, .int 0])), (h5, .inr (6, [.ref z8, .int 0])), (h2, .inr (6, [.ref z5, .int 0])), (h3, .inr (6, [.ref z6, .int 0]))] := hD
  refine lv_if_eq (tgt := 74) hx hb dX3_find_67 (by decide) (fun c9 => absurd c9 (by decide)) (fun _ => ?_)
  refine lv_iload hx hb dX3_find_70 (lv_at hl 1 rfl) ?_
  refine lv_istore (lv' := [(4, .int 0), (6, .int 1), (5, .int 0), (0, .ref h0), (1, .int 1), (2, .int 0), (3, .int 0)]) hx hb dX3_find_72 hl (by decide) rfl (fun ls hl => ?_)
  refine lv_iinc (v := 1) (lv' := [(5, .int 1), (4, .int 0), (6, .int 1), (0, .ref h0), (1, .int 1), (2, .int 0), (3, .int 0)]) hx hb dX3_find_74 hl (k := 2) rfl (by decide) (by decide) rfl (fun ls hl => ?_)
  refine lv_goto (tgt := 14) hx hb dX3_find_77 (by decide) ?_
  refine lv_iload hx hb dX3_find_14 (lv_at hl 0 rfl) ?_
  refine lv_aload_n hx hb dX3_find_16 rfl (lv_at hl 3 rfl) ?_
  refine va_get (D := (dC, dI)) (ci := 7) (v := .ref h1) (C := RX3) (T := TX3) (N := 9) hx hb hts (by decide +kernel) hown hK hP 0 rfl rfl 0 (by decide) (hts (.fieldLink RX3 11 "Rewriterope" "ropes" "[LRewriterope$Text;") (by decide +kernel)) (fun _ h9 => h9) rfl dX3_find_17 ?_
  refine lv_iload_n hx hb dX3_find_20 rfl (lv_at hl 4 rfl) ?_
  refine va_aldq (D := (dC, dI)) hx hb hK hP 1 0 rfl rfl (by unfold vp_in; decide) dX3_find_21 ?_
  refine W.eq (g2 := F0 m 22 ls [.ref h3, .int 1]) rfl ?_
  refine va_get (D := (dC, dI)) (ci := 6) (v := .int 0) (C := RX2) (T := TX2) (N := 2) hx hb hts (by decide +kernel) hown hK hP 5 rfl rfl 1 (by decide) (hts (.fieldLink RX3 65 "Rewriterope$Text" "length" "I") (by decide +kernel)) (fun _ h9 => h9) rfl dX3_find_22 ?_
  refine lv_icmp_gt (tgt := 80) hx hb dX3_find_25 (by decide) (fun _ => ?_) (fun c9 => absurd (by decide) c9)
  refine lv_iload hx hb dX3_find_80 (lv_at hl 1 rfl) ?_
  have hP := hP.sub (ws' := [(h0, .inr (7, [.ref h1, .ref z0, .ref z1, .ref z2, .ref z3, .ref z4, .int 0, .int 0, .int 0])), (h1, .inl (k0, 4, .inr (.inr (.inr (.inr (va_up (va_up (va_up (va_up (fun _ => none) 0 (some h2)) 1 (some h3)) 2 (some h4)) 3 (some h5))))))), (h2, .inr (6, [.ref z5, .int 0])), (h3, .inr (6, [.ref z6, .int 0])), (h4, .inr (6, [.ref z7, .int 0])), (h5, .inr (6, [.ref z8, .int 0]))]) [0, 1, 4, 5, 2, 3] rfl
  have hD := hD.sub (ws' := [(h0, .inr (7, [.ref h1, .ref z0, .ref z1, .ref z2, .ref z3, .ref z4, .int 0, .int 0, .int 0])), (h1, .inl (k0, 4, .inr (.inr (.inr (.inr (va_up (va_up (va_up (va_up (fun _ => none) 0 (some h2)) 1 (some h3)) 2 (some h4)) 3 (some h5))))))), (h2, .inr (6, [.ref z5, .int 0])), (h3, .inr (6, [.ref z6, .int 0])), (h4, .inr (6, [.ref z7, .int 0])), (h5, .inr (6, [.ref z8, .int 0]))]) [0, 1, 4, 5, 2, 3] (by decide) rfl
  exact W.iret (v := 0) hx hb hr (fun t ht hW => ⟨⟨0, (), rfl, rfl, by rw [ht]; exact hP, va_K.moved hW.alike hK, hD⟩, hS.F ht⟩) hS.2.2 dX3_find_82
set_option maxHeartbeats 4000000 in
set_option maxRecDepth 100000 in
theorem kx_X3_find_5 (l : Launch) (dC : Nat → ClassId) (dI : Nat → Nat → Nat) (h0 : Nat) (h1 : Nat) (h2 : Nat) (h3 : Nat) (h4 : Nat) (h5 : Nat) (z0 : Nat) (z1 : Nat) (z2 : Nat) (z3 : Nat) (z4 : Nat) (z5 : Nat) (z6 : Nat) (z7 : Nat) (z8 : Nat) (k0 : ClassId) (sz : Nat) : Met l yX3_find wsX3_find ({ frames := 1, cells := 0, slots := 0, locals := 23 }) (va_Pc [.ref h0, .int 1, .int 1, .int 0] (fun U => U.heap.size = sz ∧ va_P (dC, dI) vwCl [(h0, .inr (7, [.ref h1, .ref z0, .ref z1, .ref z2, .ref z3, .ref z4, .int 0, .int 0, .int 0])), (h1, .inl (k0, 4, .inr (.inr (.inr (.inr (va_up (va_up (va_up (va_up (fun _ => none) 0 (some h2)) 1 (some h3)) 2 (some h4)) 3 (some h5))))))), (h2, .inr (6, [.ref z5, .int 0])), (h3, .inr (6, [.ref z6, .int 0])), (h4, .inr (6, [.ref z7, .int 0])), (h5, .inr (6, [.ref z8, .int 0]))] U.heap ∧ va_K (dC, dI) vwCl [(k0, .object "Rewriterope$Text")] U ∧ va_D (fun _ => True) [(h0, .inr (7, [.ref h1, .ref z0, .ref z1, .ref z2, .ref z3, .ref z4, .int 0, .int 0, .int 0])), (h1, .inl (k0, 4, .inr (.inr (.inr (.inr (va_up (va_up (va_up (va_up (fun _ => none) 0 (some h2)) 1 (some h3)) 2 (some h4)) 3 (some h5))))))), (h2, .inr (6, [.ref z5, .int 0])), (h3, .inr (6, [.ref z6, .int 0])), (h4, .inr (6, [.ref z7, .int 0])), (h5, .inr (6, [.ref z8, .int 0]))])) (va_Qi (fun (r : Int32) (_ : Unit) => r = 0) (fun (_ : Unit) (t : State) => va_P (dC, dI) vwCl [(h0, .inr (7, [.ref h1, .ref z0, .ref z1, .ref z2, .ref z3, .ref z4, .int 0, .int 0, .int 0])), (h1, .inl (k0, 4, .inr (.inr (.inr (.inr (va_up (va_up (va_up (va_up (fun _ => none) 0 (some h2)) 1 (some h3)) 2 (some h4)) 3 (some h5))))))), (h2, .inr (6, [.ref z5, .int 0])), (h3, .inr (6, [.ref z6, .int 0])), (h4, .inr (6, [.ref z7, .int 0])), (h5, .inr (6, [.ref z8, .int 0]))] t.heap ∧ va_K (dC, dI) vwCl [(k0, .object "Rewriterope$Text")] t ∧ va_D (va_A [(h0, .inr (7, [.ref h1, .ref z0, .ref z1, .ref z2, .ref z3, .ref z4, .int 0, .int 0, .int 0])), (h1, .inl (k0, 4, .inr (.inr (.inr (.inr (va_up (va_up (va_up (va_up (fun _ => none) 0 (some h2)) 1 (some h3)) 2 (some h4)) 3 (some h5))))))), (h2, .inr (6, [.ref z5, .int 0])), (h3, .inr (6, [.ref z6, .int 0])), (h4, .inr (6, [.ref z7, .int 0])), (h5, .inr (6, [.ref z8, .int 0]))] sz) [(h0, .inr (7, [.ref h1, .ref z0, .ref z1, .ref z2, .ref z3, .ref z4, .int 0, .int 0, .int 0])), (h1, .inl (k0, 4, .inr (.inr (.inr (.inr (va_up (va_up (va_up (va_up (fun _ => none) 0 (some h2)) 1 (some h3)) 2 (some h4)) 3 (some h5))))))), (h2, .inr (6, [.ref z5, .int 0])), (h3, .inr (6, [.ref z6, .int 0])), (h4, .inr (6, [.ref z7, .int 0])), (h5, .inr (6, [.ref z8, .int 0]))]) (va_A [(h0, .inr (7, [.ref h1, .ref z0, .ref z1, .ref z2, .ref z3, .ref z4, .int 0, .int 0, .int 0])), (h1, .inl (k0, 4, .inr (.inr (.inr (.inr (va_up (va_up (va_up (va_up (fun _ => none) 0 (some h2)) 1 (some h3)) 2 (some h4)) 3 (some h5))))))), (h2, .inr (6, [.ref z5, .int 0])), (h3, .inr (6, [.ref z6, .int 0])), (h4, .inr (6, [.ref z7, .int 0])), (h5, .inr (6, [.ref z8, .int 0]))] sz)) 0 0 (va_A [(h0, .inr (7, [.ref h1, .ref z0, .ref z1, .ref z2, .ref z3, .ref z4, .int 0, .int 0, .int 0])), (h1, .inl (k0, 4, .inr (.inr (.inr (.inr (va_up (va_up (va_up (va_up (fun _ => none) 0 (some h2)) 1 (some h3)) 2 (some h4)) 3 (some h5))))))), (h2, .inr (6, [.ref z5, .int 0])), (h3, .inr (6, [.ref z6, .int 0])), (h4, .inr (6, [.ref z7, .int 0])), (h5, .inr (6, [.ref z8, .int 0]))] sz) := by
  refine Met.ofW (cc := cX3_find) (maxL := 7) (ret := (some .int)) (by decide) rfl ?_
  intro p e s m args below meth c s₁ B hml hv
  obtain ⟨rfl, hsz, hP, hK, hD0⟩ := hv
  have hx := B.exec
  have hb := B.bytes
  have hr := B.returns
  have hts := atoms_spec (ws := wsX3_find) B.pre
  have hown : s.vm.findClass RX3 = some m.cls := findClass_of_methodNamed B.named
  have hlocks := B.notSynchronized
  subst hsz
  have hD := hD0.self (sz := s.heap.size)
  generalize hAe : va_A [(h0, .inr (7, [.ref h1, .ref z0, .ref z1, .ref z2, .ref z3, .ref z4, .int 0, .int 0, .int 0])), (h1, .inl (k0, 4, .inr (.inr (.inr (.inr (va_up (va_up (va_up (va_up (fun _ => none) 0 (some h2)) 1 (some h3)) 2 (some h4)) 3 (some h5))))))), (h2, .inr (6, [.ref z5, .int 0])), (h3, .inr (6, [.ref z6, .int 0])), (h4, .inr (6, [.ref z7, .int 0])), (h5, .inr (6, [.ref z8, .int 0]))] s.heap.size = A at hD ⊢
  have hA : ∀ q : Nat, s.heap.size ≤ q → A q := fun q h => by rw [← hAe]; exact Or.inr h
  have hS : va_S A s.heap s.heap [] := va_S.rf
  have hP : va_P (dC, dI) vwCl [(h0, .inr (7, [.ref h1, .ref z0, .ref z1, .ref z2, .ref z3, .ref z4, .int 0, .int 0, .int 0])), (h1, .inl (k0, 4, .inr (.inr (.inr (.inr (va_up (va_up (va_up (va_up (fun _ => none) 0 (some h2)) 1 (some h3)) 2 (some h4)) 3 (some h5))))))), (h2, .inr (6, [.ref z5, .int 0])), (h3, .inr (6, [.ref z6, .int 0])), (h4, .inr (6, [.ref z7, .int 0])), (h5, .inr (6, [.ref z8, .int 0]))] s.heap := hP
  have hl := lv_entry ([.ref h0, .int 1, .int 1, .int 0]) (n := 7) (Nat.le_of_ble_eq_true rfl)
  rw [lg_entry_eq]
  generalize (lg_sl ([.ref h0, .int 1, .int 1, .int 0]) ++ List.replicate (7 - (lg_sl ([.ref h0, .int 1, .int 1, .int 0])).length) Slot.unset).toArray = ls at hl ⊢
  have hl : lv_has ls 7 [(0, .ref h0), (1, .int 1), (2, .int 1), (3, .int 0)] := hl
  refine lv_iload_n hx hb dX3_find_0 rfl (lv_at hl 1 rfl) ?_
  have hPc := hP.sub (ws' := []) [] rfl
  have hDc := hD.sub (ws' := []) [] (by decide) rfl
  have hKc := hK.sub (tys' := []) [] rfl
  have hFc := va_free (wc := []) hD hS hA [] rfl
  refine va_callv (va_runS (As := [.int 1]) (rest := []) ⟨hx, hb, hml, hown, hts⟩ (kx_X3_needRope_1 l dC dI s.heap.size) (cwS 1 hts gX3_find_X3_needRope rfl rfl rfl (by decide +kernel) ⟨Nat.le_of_ble_eq_true rfl, Nat.le_of_ble_eq_true rfl⟩) ⟨fun a U g mk q => by obtain ⟨q0, q1, qP, qK, qD⟩ := q; exact ⟨q0, q1, qP, va_K.moved (u := U) (U := U.calling g mk a) (Vm.Alike.refl U.vm) qK, qD⟩, fun U hU hW => ⟨rfl, by rw [hU], by rw [hU]; exact hPc, va_K.moved hW.alike hKc, hDc.weaken (fun _ _ _ _ => trivial)⟩⟩ rfl rfl hl.1 rfl (lv_room (Nat.le_of_ble_eq_true rfl)) dX3_find_1 ⟨Nat.le_of_ble_eq_true rfl, Nat.le_of_ble_eq_true rfl⟩) hS (fun q _ h => hFc q h) hFc (fun u t H1 locs ht hvm hw hB hz1 hk1 hS => ?_)
  obtain ⟨hP1, hK1, hD1⟩ := hB
  rw [ht] at hP1
  have hK1 := va_K.moved hvm.symm hK1
  obtain ⟨hP, hD⟩ := va_join (wr := [(h0, .inr (7, [.ref h1, .ref z0, .ref z1, .ref z2, .ref z3, .ref z4, .int 0, .int 0, .int 0])), (h1, .inl (k0, 4, .inr (.inr (.inr (.inr (va_up (va_up (va_up (va_up (fun _ => none) 0 (some h2)) 1 (some h3)) 2 (some h4)) 3 (some h5))))))), (h2, .inr (6, [.ref z5, .int 0])), (h3, .inr (6, [.ref z6, .int 0])), (h4, .inr (6, [.ref z7, .int 0])), (h5, .inr (6, [.ref z8, .int 0]))]) (w1 := []) hP hD [] [0, 1, 2, 3, 4, 5] rfl rfl (by decide) (by decide) hk1 hFc hP1 hD1
  generalize H1 = H at hP hS ⊢
  have hP : va_P (dC, dI) vwCl [(h0, .inr (7, [.ref h1, .ref z0, .ref z1, .ref z2, .ref z3, .ref z4, .int 0, .int 0, .int 0])), (h1, .inl (k0, 4, .inr (.inr (.inr (.inr (va_up (va_up (va_up (va_up (fun _ => none) 0 (some h2)) 1 (some h3)) 2 (some h4)) 3 (some h5))))))), (h2, .inr (6, [.ref z5, .int 0])), (h3, .inr (6, [.ref z6, .int 0])), (h4, .inr (6, [.ref z7, .int 0])), (h5, .inr (6, [.ref z8, .int 0]))] H := hP
  have hD : va_D A [(h0, .inr (7, [.ref h1, .ref z0, .ref z1, .ref z2, .ref z3, .ref z4, .int 0, .int 0, .int 0])), (h1, .inl (k0, 4, .inr (.inr (.inr (.inr (va_up (va_up (va_up (va_up (fun _ => none) 0 (some h2)) 1 (some h3)) 2 (some h4)) 3 (some h5))))))), (h2, .inr (6, [.ref z5, .int 0])), (h3, .inr (6, [.ref z6, .int 0])), (h4, .inr (6, [.ref z7, .int 0])), (h5, .inr (6, [.ref z8, .int 0]))] := hD
  refine lv_iload_n hx hb dX3_find_4 rfl (lv_at hl 2 rfl) ?_
  have hPc := hP.sub (ws' := []) [] rfl
  have hDc := hD.sub (ws' := []) [] (by decide) rfl
  have hKc := hK.sub (tys' := []) [] rfl
  have hFc := va_free (wc := []) hD hS hA [] rfl
  refine va_callv (va_runS (As := [.int 1]) (rest := []) ⟨hx, hb, hml, hown, hts⟩ (kx_X3_needRope_1 l dC dI H.size) (cwS 1 hts gX3_find_X3_needRope rfl rfl rfl (by decide +kernel) ⟨Nat.le_of_ble_eq_true rfl, Nat.le_of_ble_eq_true rfl⟩) ⟨fun a U g mk q => by obtain ⟨q0, q1, qP, qK, qD⟩ := q; exact ⟨q0, q1, qP, va_K.moved (u := U) (U := U.calling g mk a) (Vm.Alike.refl U.vm) qK, qD⟩, fun U hU hW => ⟨rfl, by rw [hU], by rw [hU]; exact hPc, va_K.moved hW.alike hKc, hDc.weaken (fun _ _ _ _ => trivial)⟩⟩ rfl rfl hl.1 rfl (lv_room (Nat.le_of_ble_eq_true rfl)) dX3_find_5 ⟨Nat.le_of_ble_eq_true rfl, Nat.le_of_ble_eq_true rfl⟩) hS (fun q _ h => hFc q h) hFc (fun u t H1 locs ht hvm hw hB hz1 hk1 hS => ?_)
  obtain ⟨hP1, hK1, hD1⟩ := hB
  rw [ht] at hP1
  have hK1 := va_K.moved hvm.symm hK1
  obtain ⟨hP, hD⟩ := va_join (wr := [(h0, .inr (7, [.ref h1, .ref z0, .ref z1, .ref z2, .ref z3, .ref z4, .int 0, .int 0, .int 0])), (h1, .inl (k0, 4, .inr (.inr (.inr (.inr (va_up (va_up (va_up (va_up (fun _ => none) 0 (some h2)) 1 (some h3)) 2 (some h4)) 3 (some h5))))))), (h2, .inr (6, [.ref z5, .int 0])), (h3, .inr (6, [.ref z6, .int 0])), (h4, .inr (6, [.ref z7, .int 0])), (h5, .inr (6, [.ref z8, .int 0]))]) (w1 := []) hP hD [] [0, 1, 2, 3, 4, 5] rfl rfl (by decide) (by decide) hk1 hFc hP1 hD1
  generalize H1 = H at hP hS ⊢
  have hP : va_P (dC, dI) vwCl [(h0, .inr (7, [.ref h1, .ref z0, .ref z1, .ref z2, .ref z3, .ref z4, .int 0, .int 0, .int 0])), (h1, .inl (k0, 4, .inr (.inr (.inr (.inr (va_up (va_up (va_up (va_up (fun _ => none) 0 (some h2)) 1 (some h3)) 2 (some h4)) 3 (some h5))))))), (h2, .inr (6, [.ref z5, .int 0])), (h3, .inr (6, [.ref z6, .int 0])), (h4, .inr (6, [.ref z7, .int 0])), (h5, .inr (6, [.ref z8, .int 0]))] H := hP
  have hD : va_D A [(h0, .inr (7, [.ref h1, .ref z0, .ref z1, .ref z2, .ref z3, .ref z4, .int 0, .int 0, .int 0])), (h1, .inl (k0, 4, .inr (.inr (.inr (.inr (va_up (va_up (va_up (va_up (fun _ => none) 0 (some h2)) 1 (some h3)) 2 (some h4)) 3 (some h5))))))), (h2, .inr (6, [.ref z5, .int 0])), (h3, .inr (6, [.ref z6, .int 0])), (h4, .inr (6, [.ref z7, .int 0])), (h5, .inr (6, [.ref z8, .int 0]))] := hD
  refine lv_iconst (v := (-1)) hx hb dX3_find_8 (by decide) ?_
  refine lv_istore (lv' := [(4, .int (-1)), (0, .ref h0), (1, .int 1), (2, .int 1), (3, .int 0)]) hx hb dX3_find_9 hl (by decide) rfl (fun ls hl => ?_)
  refine lv_iconst (v := 0) hx hb dX3_find_11 (by decide) ?_
  refine lv_istore (lv' := [(5, .int 0), (4, .int (-1)), (0, .ref h0), (1, .int 1), (2, .int 1), (3, .int 0)]) hx hb dX3_find_12 hl (by decide) rfl (fun ls hl => ?_)
  refine lv_iload hx hb dX3_find_14 (lv_at hl 0 rfl) ?_
  refine lv_aload_n hx hb dX3_find_16 rfl (lv_at hl 2 rfl) ?_
  refine va_get (D := (dC, dI)) (ci := 7) (v := .ref h1) (C := RX3) (T := TX3) (N := 9) hx hb hts (by decide +kernel) hown hK hP 0 rfl rfl 0 (by decide) (hts (.fieldLink RX3 11 "Rewriterope" "ropes" "[LRewriterope$Text;") (by decide +kernel)) (fun _ h9 => h9) rfl dX3_find_17 ?_
  refine lv_iload_n hx hb dX3_find_20 rfl (lv_at hl 3 rfl) ?_
  refine va_aldq (D := (dC, dI)) hx hb hK hP 1 0 rfl rfl (by unfold vp_in; decide) dX3_find_21 ?_
  refine W.eq (g2 := F0 m 22 ls [.ref h3, .int 0]) rfl ?_
  refine va_get (D := (dC, dI)) (ci := 6) (v := .int 0) (C := RX2) (T := TX2) (N := 2) hx hb hts (by decide +kernel) hown hK hP 3 rfl rfl 1 (by decide) (hts (.fieldLink RX3 65 "Rewriterope$Text" "length" "I") (by decide +kernel)) (fun _ h9 => h9) rfl dX3_find_22 ?_
  refine lv_icmp_gt (tgt := 80) hx hb dX3_find_25 (by decide) (fun c9 => absurd c9 (by decide)) (fun _ => ?_)
  refine lv_iload_n hx hb dX3_find_28 rfl (lv_at hl 5 rfl) ?_
  refine lv_if_ne (tgt := 38) hx hb dX3_find_29 (by decide) (fun c9 => absurd (by decide) c9) (fun _ => ?_)
  refine lv_iload hx hb dX3_find_32 (lv_at hl 1 rfl) ?_
  refine lv_iconst (v := (-1)) hx hb dX3_find_34 (by decide) ?_
  refine lv_icmp_ne (tgt := 42) hx hb dX3_find_35 (by decide) (fun c9 => absurd (by decide) c9) (fun _ => ?_)
  refine lv_iconst (v := 1) hx hb dX3_find_38 (by decide) ?_
  refine lv_goto (tgt := 43) hx hb dX3_find_39 (by decide) ?_
  refine lv_istore (lv' := [(6, .int 1), (5, .int 0), (4, .int (-1)), (0, .ref h0), (1, .int 1), (2, .int 1), (3, .int 0)]) hx hb dX3_find_43 hl (by decide) rfl (fun ls hl => ?_)
  refine lv_iload hx hb dX3_find_45 (lv_at hl 0 rfl) ?_
  refine lv_if_eq (tgt := 74) hx hb dX3_find_47 (by decide) (fun c9 => absurd c9 (by decide)) (fun _ => ?_)
  refine lv_aload_n hx hb dX3_find_50 rfl (lv_at hl 3 rfl) ?_
  refine va_get (D := (dC, dI)) (ci := 7) (v := .ref h1) (C := RX3) (T := TX3) (N := 9) hx hb hts (by decide +kernel) hown hK hP 0 rfl rfl 0 (by decide) (hts (.fieldLink RX3 11 "Rewriterope" "ropes" "[LRewriterope$Text;") (by decide +kernel)) (fun _ h9 => h9) rfl dX3_find_51 ?_
  refine lv_iload_n hx hb dX3_find_54 rfl (lv_at hl 4 rfl) ?_
  refine va_aldq (D := (dC, dI)) hx hb hK hP 1 0 rfl rfl (by unfold vp_in; decide) dX3_find_55 ?_
  refine W.eq (g2 := F0 m 56 ls [.ref h3]) rfl ?_
  refine lv_aload_n hx hb dX3_find_56 rfl (lv_at hl 3 rfl) ?_
  refine va_get (D := (dC, dI)) (ci := 7) (v := .ref h1) (C := RX3) (T := TX3) (N := 9) hx hb hts (by decide +kernel) hown hK hP 0 rfl rfl 0 (by decide) (hts (.fieldLink RX3 11 "Rewriterope" "ropes" "[LRewriterope$Text;") (by decide +kernel)) (fun _ h9 => h9) rfl dX3_find_57 ?_
  refine lv_iload_n hx hb dX3_find_60 rfl (lv_at hl 5 rfl) ?_
  refine va_aldq (D := (dC, dI)) hx hb hK hP 1 0 rfl rfl (by unfold vp_in; decide) dX3_find_61 ?_
  refine W.eq (g2 := F0 m 62 ls [.ref h3, .ref h3]) rfl ?_
  refine lv_iload hx hb dX3_find_62 (lv_at hl 1 rfl) ?_
  have hPc := hP.sub (ws' := [(h3, .inr (6, [.ref z6, .int 0]))]) [3] rfl
  have hDc := hD.sub (ws' := [(h3, .inr (6, [.ref z6, .int 0]))]) [3] (by decide) rfl
  have hKc := hK.sub (tys' := []) [] rfl
  have hFc := va_free (wc := [(h3, .inr (6, [.ref z6, .int 0]))]) hD hS hA [3] rfl
  refine va_calli (va_runV (As := [.ref h3, .int 0]) (rest := []) ⟨hx, hb, hml, hown, hts⟩ (kx_X2_holds_0 l dC dI h3 z6 H.size) (cwV 2 hts gX3_find_X2_holds rfl rfl rfl (by decide +kernel) ⟨Nat.le_of_ble_eq_true rfl, Nat.le_of_ble_eq_true rfl⟩) ⟨fun a U g mk q => by obtain ⟨q0, q1, qP, qK, qD⟩ := q; exact ⟨q0, q1, qP, va_K.moved (u := U) (U := U.calling g mk a) (Vm.Alike.refl U.vm) qK, qD⟩, va_recv hKc hPc (ci := 6) (q0 := 0) rfl rfl, fun U hU hW => ⟨rfl, by rw [hU], by rw [hU]; exact hPc, va_K.moved hW.alike hKc, hDc.weaken (fun _ _ _ _ => trivial)⟩⟩ rfl rfl hl.1 rfl (lv_room (Nat.le_of_ble_eq_true rfl)) dX3_find_64 ⟨Nat.le_of_ble_eq_true rfl, Nat.le_of_ble_eq_true rfl⟩) hS (fun q _ h => hFc q h) hFc (fun r9 u t H1 locs ht hvm hw hB hz1 hk1 hS => ?_)
  obtain rfl := hw
  obtain ⟨hP1, hK1, hD1⟩ := hB
  rw [ht] at hP1
  have hK1 := va_K.moved hvm.symm hK1
  obtain ⟨hP, hD⟩ := va_join (wr := [(h0, .inr (7, [.ref h1, .ref z0, .ref z1, .ref z2, .ref z3, .ref z4, .int 0, .int 0, .int 0])), (h1, .inl (k0, 4, .inr (.inr (.inr (.inr (va_up (va_up (va_up (va_up (fun _ => none) 0 (some h2)) 1 (some h3)) 2 (some h4)) 3 (some h5))))))), (h2, .inr (6, [.ref z5, .int 0])), (h4, .inr (6, [.ref z7, .int 0])), (h5, .inr (6, [.ref z8, .int 0]))]) (w1 := [(h3, .inr (6, [.ref z6, .int 0]))]) hP hD [3] [0, 1, 2, 4, 5] rfl rfl (by decide) (by decide) hk1 hFc hP1 hD1
  generalize H1 = H at hP hS ⊢
  have hP : va_P (dC, dI) vwCl [(h0, .inr (7, [.ref h1, .ref z0, .ref z1, .ref z2, .ref z3, .ref z4, .int 0, .int 0, .int 0])), (h1, .inl (k0, 4, .inr (.inr (.inr (.inr (va_up (va_up (va_up (va_up (fun _ => none) 0 (some h2)) 1 (some h3)) 2 (some h4)) 3 (some h5))))))), (h2, .inr (6, [.ref z5, .int 0])), (h4, .inr (6, [.ref z7, .int 0])), (h5, .inr (6, [.ref z8, .int 0])), (h3, .inr (6, [.ref z6, .int 0]))] H := hP
  have hD : va_D A [(h0, .inr (7, [.ref h1, .ref z0, .ref z1, .ref z2, .ref z3, .ref z4, .int 0, .int 0, .int 0])), (h1, .inl (k0, 4, .inr (.inr (.inr (.inr (va_up (va_up (va_up (va_up (fun _ => none) 0 (some h2)) 1 (some h3)) 2 (some h4)) 3 (some h5))))))), (h2, .inr (6, [.ref z5, .int 0])), (h4, .inr (6, [.ref z7, .int 0])), (h5, .inr (6, [.ref z8, .int 0])), (h3, .inr (6, [.ref z6, .int 0]))] := hD
  refine lv_if_eq (tgt := 74) hx hb dX3_find_67 (by decide) (fun c9 => absurd c9 (by decide)) (fun _ => ?_)
  refine lv_iload hx hb dX3_find_70 (lv_at hl 1 rfl) ?_
  refine lv_istore (lv' := [(4, .int 0), (6, .int 1), (5, .int 0), (0, .ref h0), (1, .int 1), (2, .int 1), (3, .int 0)]) hx hb dX3_find_72 hl (by decide) rfl (fun ls hl => ?_)
  refine lv_iinc (v := 1) (lv' := [(5, .int 1), (4, .int 0), (6, .int 1), (0, .ref h0), (1, .int 1), (2, .int 1), (3, .int 0)]) hx hb dX3_find_74 hl (k := 2) rfl (by decide) (by decide) rfl (fun ls hl => ?_)
  refine lv_goto (tgt := 14) hx hb dX3_find_77 (by decide) ?_
  refine lv_iload hx hb dX3_find_14 (lv_at hl 0 rfl) ?_
  refine lv_aload_n hx hb dX3_find_16 rfl (lv_at hl 3 rfl) ?_
  refine va_get (D := (dC, dI)) (ci := 7) (v := .ref h1) (C := RX3) (T := TX3) (N := 9) hx hb hts (by decide +kernel) hown hK hP 0 rfl rfl 0 (by decide) (hts (.fieldLink RX3 11 "Rewriterope" "ropes" "[LRewriterope$Text;") (by decide +kernel)) (fun _ h9 => h9) rfl dX3_find_17 ?_
  refine lv_iload_n hx hb dX3_find_20 rfl (lv_at hl 4 rfl) ?_
  refine va_aldq (D := (dC, dI)) hx hb hK hP 1 0 rfl rfl (by unfold vp_in; decide) dX3_find_21 ?_
  refine W.eq (g2 := F0 m 22 ls [.ref h3, .int 1]) rfl ?_
  refine va_get (D := (dC, dI)) (ci := 6) (v := .int 0) (C := RX2) (T := TX2) (N := 2) hx hb hts (by decide +kernel) hown hK hP 5 rfl rfl 1 (by decide) (hts (.fieldLink RX3 65 "Rewriterope$Text" "length" "I") (by decide +kernel)) (fun _ h9 => h9) rfl dX3_find_22 ?_
  refine lv_icmp_gt (tgt := 80) hx hb dX3_find_25 (by decide) (fun _ => ?_) (fun c9 => absurd (by decide) c9)
  refine lv_iload hx hb dX3_find_80 (lv_at hl 1 rfl) ?_
  have hP := hP.sub (ws' := [(h0, .inr (7, [.ref h1, .ref z0, .ref z1, .ref z2, .ref z3, .ref z4, .int 0, .int 0, .int 0])), (h1, .inl (k0, 4, .inr (.inr (.inr (.inr (va_up (va_up (va_up (va_up (fun _ => none) 0 (some h2)) 1 (some h3)) 2 (some h4)) 3 (some h5))))))), (h2, .inr (6, [.ref z5, .int 0])), (h3, .inr (6, [.ref z6, .int 0])), (h4, .inr (6, [.ref z7, .int 0])), (h5, .inr (6, [.ref z8, .int 0]))]) [0, 1, 2, 5, 3, 4] rfl
  have hD := hD.sub (ws' := [(h0, .inr (7, [.ref h1, .ref z0, .ref z1, .ref z2, .ref z3, .ref z4, .int 0, .int 0, .int 0])), (h1, .inl (k0, 4, .inr (.inr (.inr (.inr (va_up (va_up (va_up (va_up (fun _ => none) 0 (some h2)) 1 (some h3)) 2 (some h4)) 3 (some h5))))))), (h2, .inr (6, [.ref z5, .int 0])), (h3, .inr (6, [.ref z6, .int 0])), (h4, .inr (6, [.ref z7, .int 0])), (h5, .inr (6, [.ref z8, .int 0]))]) [0, 1, 2, 5, 3, 4] (by decide) rfl
  exact W.iret (v := 0) hx hb hr (fun t ht hW => ⟨⟨0, (), rfl, rfl, by rw [ht]; exact hP, va_K.moved hW.alike hK, hD⟩, hS.F ht⟩) hS.2.2 dX3_find_82
set_option maxHeartbeats 4000000 in
set_option maxRecDepth 100000 in
theorem kx_X3_find_6 (l : Launch) (dC : Nat → ClassId) (dI : Nat → Nat → Nat) (h0 : Nat) (h1 : Nat) (h2 : Nat) (h3 : Nat) (h4 : Nat) (h5 : Nat) (z0 : Nat) (z1 : Nat) (z2 : Nat) (z3 : Nat) (z4 : Nat) (z5 : Nat) (z6 : Nat) (z7 : Nat) (z8 : Nat) (k0 : ClassId) (sz : Nat) : Met l yX3_find wsX3_find ({ frames := 1, cells := 0, slots := 0, locals := 23 }) (va_Pc [.ref h0, .int 1, .int 2, .int 0] (fun U => U.heap.size = sz ∧ va_P (dC, dI) vwCl [(h0, .inr (7, [.ref h1, .ref z0, .ref z1, .ref z2, .ref z3, .ref z4, .int 0, .int 0, .int 0])), (h1, .inl (k0, 4, .inr (.inr (.inr (.inr (va_up (va_up (va_up (va_up (fun _ => none) 0 (some h2)) 1 (some h3)) 2 (some h4)) 3 (some h5))))))), (h2, .inr (6, [.ref z5, .int 0])), (h3, .inr (6, [.ref z6, .int 0])), (h4, .inr (6, [.ref z7, .int 0])), (h5, .inr (6, [.ref z8, .int 0]))] U.heap ∧ va_K (dC, dI) vwCl [(k0, .object "Rewriterope$Text")] U ∧ va_D (fun _ => True) [(h0, .inr (7, [.ref h1, .ref z0, .ref z1, .ref z2, .ref z3, .ref z4, .int 0, .int 0, .int 0])), (h1, .inl (k0, 4, .inr (.inr (.inr (.inr (va_up (va_up (va_up (va_up (fun _ => none) 0 (some h2)) 1 (some h3)) 2 (some h4)) 3 (some h5))))))), (h2, .inr (6, [.ref z5, .int 0])), (h3, .inr (6, [.ref z6, .int 0])), (h4, .inr (6, [.ref z7, .int 0])), (h5, .inr (6, [.ref z8, .int 0]))])) (va_Qi (fun (r : Int32) (_ : Unit) => r = 0) (fun (_ : Unit) (t : State) => va_P (dC, dI) vwCl [(h0, .inr (7, [.ref h1, .ref z0, .ref z1, .ref z2, .ref z3, .ref z4, .int 0, .int 0, .int 0])), (h1, .inl (k0, 4, .inr (.inr (.inr (.inr (va_up (va_up (va_up (va_up (fun _ => none) 0 (some h2)) 1 (some h3)) 2 (some h4)) 3 (some h5))))))), (h2, .inr (6, [.ref z5, .int 0])), (h3, .inr (6, [.ref z6, .int 0])), (h4, .inr (6, [.ref z7, .int 0])), (h5, .inr (6, [.ref z8, .int 0]))] t.heap ∧ va_K (dC, dI) vwCl [(k0, .object "Rewriterope$Text")] t ∧ va_D (va_A [(h0, .inr (7, [.ref h1, .ref z0, .ref z1, .ref z2, .ref z3, .ref z4, .int 0, .int 0, .int 0])), (h1, .inl (k0, 4, .inr (.inr (.inr (.inr (va_up (va_up (va_up (va_up (fun _ => none) 0 (some h2)) 1 (some h3)) 2 (some h4)) 3 (some h5))))))), (h2, .inr (6, [.ref z5, .int 0])), (h3, .inr (6, [.ref z6, .int 0])), (h4, .inr (6, [.ref z7, .int 0])), (h5, .inr (6, [.ref z8, .int 0]))] sz) [(h0, .inr (7, [.ref h1, .ref z0, .ref z1, .ref z2, .ref z3, .ref z4, .int 0, .int 0, .int 0])), (h1, .inl (k0, 4, .inr (.inr (.inr (.inr (va_up (va_up (va_up (va_up (fun _ => none) 0 (some h2)) 1 (some h3)) 2 (some h4)) 3 (some h5))))))), (h2, .inr (6, [.ref z5, .int 0])), (h3, .inr (6, [.ref z6, .int 0])), (h4, .inr (6, [.ref z7, .int 0])), (h5, .inr (6, [.ref z8, .int 0]))]) (va_A [(h0, .inr (7, [.ref h1, .ref z0, .ref z1, .ref z2, .ref z3, .ref z4, .int 0, .int 0, .int 0])), (h1, .inl (k0, 4, .inr (.inr (.inr (.inr (va_up (va_up (va_up (va_up (fun _ => none) 0 (some h2)) 1 (some h3)) 2 (some h4)) 3 (some h5))))))), (h2, .inr (6, [.ref z5, .int 0])), (h3, .inr (6, [.ref z6, .int 0])), (h4, .inr (6, [.ref z7, .int 0])), (h5, .inr (6, [.ref z8, .int 0]))] sz)) 0 0 (va_A [(h0, .inr (7, [.ref h1, .ref z0, .ref z1, .ref z2, .ref z3, .ref z4, .int 0, .int 0, .int 0])), (h1, .inl (k0, 4, .inr (.inr (.inr (.inr (va_up (va_up (va_up (va_up (fun _ => none) 0 (some h2)) 1 (some h3)) 2 (some h4)) 3 (some h5))))))), (h2, .inr (6, [.ref z5, .int 0])), (h3, .inr (6, [.ref z6, .int 0])), (h4, .inr (6, [.ref z7, .int 0])), (h5, .inr (6, [.ref z8, .int 0]))] sz) := by
  refine Met.ofW (cc := cX3_find) (maxL := 7) (ret := (some .int)) (by decide) rfl ?_
  intro p e s m args below meth c s₁ B hml hv
  obtain ⟨rfl, hsz, hP, hK, hD0⟩ := hv
  have hx := B.exec
  have hb := B.bytes
  have hr := B.returns
  have hts := atoms_spec (ws := wsX3_find) B.pre
  have hown : s.vm.findClass RX3 = some m.cls := findClass_of_methodNamed B.named
  have hlocks := B.notSynchronized
  subst hsz
  have hD := hD0.self (sz := s.heap.size)
  generalize hAe : va_A [(h0, .inr (7, [.ref h1, .ref z0, .ref z1, .ref z2, .ref z3, .ref z4, .int 0, .int 0, .int 0])), (h1, .inl (k0, 4, .inr (.inr (.inr (.inr (va_up (va_up (va_up (va_up (fun _ => none) 0 (some h2)) 1 (some h3)) 2 (some h4)) 3 (some h5))))))), (h2, .inr (6, [.ref z5, .int 0])), (h3, .inr (6, [.ref z6, .int 0])), (h4, .inr (6, [.ref z7, .int 0])), (h5, .inr (6, [.ref z8, .int 0]))] s.heap.size = A at hD ⊢
  have hA : ∀ q : Nat, s.heap.size ≤ q → A q := fun q h => by rw [← hAe]; exact Or.inr h
  have hS : va_S A s.heap s.heap [] := va_S.rf
  have hP : va_P (dC, dI) vwCl [(h0, .inr (7, [.ref h1, .ref z0, .ref z1, .ref z2, .ref z3, .ref z4, .int 0, .int 0, .int 0])), (h1, .inl (k0, 4, .inr (.inr (.inr (.inr (va_up (va_up (va_up (va_up (fun _ => none) 0 (some h2)) 1 (some h3)) 2 (some h4)) 3 (some h5))))))), (h2, .inr (6, [.ref z5, .int 0])), (h3, .inr (6, [.ref z6, .int 0])), (h4, .inr (6, [.ref z7, .int 0])), (h5, .inr (6, [.ref z8, .int 0]))] s.heap := hP
  have hl := lv_entry ([.ref h0, .int 1, .int 2, .int 0]) (n := 7) (Nat.le_of_ble_eq_true rfl)
  rw [lg_entry_eq]
  generalize (lg_sl ([.ref h0, .int 1, .int 2, .int 0]) ++ List.replicate (7 - (lg_sl ([.ref h0, .int 1, .int 2, .int 0])).length) Slot.unset).toArray = ls at hl ⊢
  have hl : lv_has ls 7 [(0, .ref h0), (1, .int 1), (2, .int 2), (3, .int 0)] := hl
  refine lv_iload_n hx hb dX3_find_0 rfl (lv_at hl 1 rfl) ?_
  have hPc := hP.sub (ws' := []) [] rfl
  have hDc := hD.sub (ws' := []) [] (by decide) rfl
  have hKc := hK.sub (tys' := []) [] rfl
  have hFc := va_free (wc := []) hD hS hA [] rfl
  refine va_callv (va_runS (As := [.int 1]) (rest := []) ⟨hx, hb, hml, hown, hts⟩ (kx_X3_needRope_1 l dC dI s.heap.size) (cwS 1 hts gX3_find_X3_needRope rfl rfl rfl (by decide +kernel) ⟨Nat.le_of_ble_eq_true rfl, Nat.le_of_ble_eq_true rfl⟩) ⟨fun a U g mk q => by obtain ⟨q0, q1, qP, qK, qD⟩ := q; exact ⟨q0, q1, qP, va_K.moved (u := U) (U := U.calling g mk a) (Vm.Alike.refl U.vm) qK, qD⟩, fun U hU hW => ⟨rfl, by rw [hU], by rw [hU]; exact hPc, va_K.moved hW.alike hKc, hDc.weaken (fun _ _ _ _ => trivial)⟩⟩ rfl rfl hl.1 rfl (lv_room (Nat.le_of_ble_eq_true rfl)) dX3_find_1 ⟨Nat.le_of_ble_eq_true rfl, Nat.le_of_ble_eq_true rfl⟩) hS (fun q _ h => hFc q h) hFc (fun u t H1 locs ht hvm hw hB hz1 hk1 hS => ?_)
  obtain ⟨hP1, hK1, hD1⟩ := hB
  rw [ht] at hP1
  have hK1 := va_K.moved hvm.symm hK1
  obtain ⟨hP, hD⟩ := va_join (wr := [(h0, .inr (7, [.ref h1, .ref z0, .ref z1, .ref z2, .ref z3, .ref z4, .int 0, .int 0, .int 0])), (h1, .inl (k0, 4, .inr (.inr (.inr (.inr (va_up (va_up (va_up (va_up (fun _ => none) 0 (some h2)) 1 (some h3)) 2 (some h4)) 3 (some h5))))))), (h2, .inr (6, [.ref z5, .int 0])), (h3, .inr (6, [.ref z6, .int 0])), (h4, .inr (6, [.ref z7, .int 0])), (h5, .inr (6, [.ref z8, .int 0]))]) (w1 := []) hP hD [] [0, 1, 2, 3, 4, 5] rfl rfl (by decide) (by decide) hk1 hFc hP1 hD1
  generalize H1 = H at hP hS ⊢
  have hP : va_P (dC, dI) vwCl [(h0, .inr (7, [.ref h1, .ref z0, .ref z1, .ref z2, .ref z3, .ref z4, .int 0, .int 0, .int 0])), (h1, .inl (k0, 4, .inr (.inr (.inr (.inr (va_up (va_up (va_up (va_up (fun _ => none) 0 (some h2)) 1 (some h3)) 2 (some h4)) 3 (some h5))))))), (h2, .inr (6, [.ref z5, .int 0])), (h3, .inr (6, [.ref z6, .int 0])), (h4, .inr (6, [.ref z7, .int 0])), (h5, .inr (6, [.ref z8, .int 0]))] H := hP
  have hD : va_D A [(h0, .inr (7, [.ref h1, .ref z0, .ref z1, .ref z2, .ref z3, .ref z4, .int 0, .int 0, .int 0])), (h1, .inl (k0, 4, .inr (.inr (.inr (.inr (va_up (va_up (va_up (va_up (fun _ => none) 0 (some h2)) 1 (some h3)) 2 (some h4)) 3 (some h5))))))), (h2, .inr (6, [.ref z5, .int 0])), (h3, .inr (6, [.ref z6, .int 0])), (h4, .inr (6, [.ref z7, .int 0])), (h5, .inr (6, [.ref z8, .int 0]))] := hD
  refine lv_iload_n hx hb dX3_find_4 rfl (lv_at hl 2 rfl) ?_
  have hPc := hP.sub (ws' := []) [] rfl
  have hDc := hD.sub (ws' := []) [] (by decide) rfl
  have hKc := hK.sub (tys' := []) [] rfl
  have hFc := va_free (wc := []) hD hS hA [] rfl
  refine va_callv (va_runS (As := [.int 2]) (rest := []) ⟨hx, hb, hml, hown, hts⟩ (kx_X3_needRope_2 l dC dI H.size) (cwS 1 hts gX3_find_X3_needRope rfl rfl rfl (by decide +kernel) ⟨Nat.le_of_ble_eq_true rfl, Nat.le_of_ble_eq_true rfl⟩) ⟨fun a U g mk q => by obtain ⟨q0, q1, qP, qK, qD⟩ := q; exact ⟨q0, q1, qP, va_K.moved (u := U) (U := U.calling g mk a) (Vm.Alike.refl U.vm) qK, qD⟩, fun U hU hW => ⟨rfl, by rw [hU], by rw [hU]; exact hPc, va_K.moved hW.alike hKc, hDc.weaken (fun _ _ _ _ => trivial)⟩⟩ rfl rfl hl.1 rfl (lv_room (Nat.le_of_ble_eq_true rfl)) dX3_find_5 ⟨Nat.le_of_ble_eq_true rfl, Nat.le_of_ble_eq_true rfl⟩) hS (fun q _ h => hFc q h) hFc (fun u t H1 locs ht hvm hw hB hz1 hk1 hS => ?_)
  obtain ⟨hP1, hK1, hD1⟩ := hB
  rw [ht] at hP1
  have hK1 := va_K.moved hvm.symm hK1
  obtain ⟨hP, hD⟩ := va_join (wr := [(h0, .inr (7, [.ref h1, .ref z0, .ref z1, .ref z2, .ref z3, .ref z4, .int 0, .int 0, .int 0])), (h1, .inl (k0, 4, .inr (.inr (.inr (.inr (va_up (va_up (va_up (va_up (fun _ => none) 0 (some h2)) 1 (some h3)) 2 (some h4)) 3 (some h5))))))), (h2, .inr (6, [.ref z5, .int 0])), (h3, .inr (6, [.ref z6, .int 0])), (h4, .inr (6, [.ref z7, .int 0])), (h5, .inr (6, [.ref z8, .int 0]))]) (w1 := []) hP hD [] [0, 1, 2, 3, 4, 5] rfl rfl (by decide) (by decide) hk1 hFc hP1 hD1
  generalize H1 = H at hP hS ⊢
  have hP : va_P (dC, dI) vwCl [(h0, .inr (7, [.ref h1, .ref z0, .ref z1, .ref z2, .ref z3, .ref z4, .int 0, .int 0, .int 0])), (h1, .inl (k0, 4, .inr (.inr (.inr (.inr (va_up (va_up (va_up (va_up (fun _ => none) 0 (some h2)) 1 (some h3)) 2 (some h4)) 3 (some h5))))))), (h2, .inr (6, [.ref z5, .int 0])), (h3, .inr (6, [.ref z6, .int 0])), (h4, .inr (6, [.ref z7, .int 0])), (h5, .inr (6, [.ref z8, .int 0]))] H := hP
  have hD : va_D A [(h0, .inr (7, [.ref h1, .ref z0, .ref z1, .ref z2, .ref z3, .ref z4, .int 0, .int 0, .int 0])), (h1, .inl (k0, 4, .inr (.inr (.inr (.inr (va_up (va_up (va_up (va_up (fun _ => none) 0 (some h2)) 1 (some h3)) 2 (some h4)) 3 (some h5))))))), (h2, .inr (6, [.ref z5, .int 0])), (h3, .inr (6, [.ref z6, .int 0])), (h4, .inr (6, [.ref z7, .int 0])), (h5, .inr (6, [.ref z8, .int 0]))] := hD
  refine lv_iconst (v := (-1)) hx hb dX3_find_8 (by decide) ?_
  refine lv_istore (lv' := [(4, .int (-1)), (0, .ref h0), (1, .int 1), (2, .int 2), (3, .int 0)]) hx hb dX3_find_9 hl (by decide) rfl (fun ls hl => ?_)
  refine lv_iconst (v := 0) hx hb dX3_find_11 (by decide) ?_
  refine lv_istore (lv' := [(5, .int 0), (4, .int (-1)), (0, .ref h0), (1, .int 1), (2, .int 2), (3, .int 0)]) hx hb dX3_find_12 hl (by decide) rfl (fun ls hl => ?_)
  refine lv_iload hx hb dX3_find_14 (lv_at hl 0 rfl) ?_
  refine lv_aload_n hx hb dX3_find_16 rfl (lv_at hl 2 rfl) ?_
  refine va_get (D := (dC, dI)) (ci := 7) (v := .ref h1) (C := RX3) (T := TX3) (N := 9) hx hb hts (by decide +kernel) hown hK hP 0 rfl rfl 0 (by decide) (hts (.fieldLink RX3 11 "Rewriterope" "ropes" "[LRewriterope$Text;") (by decide +kernel)) (fun _ h9 => h9) rfl dX3_find_17 ?_
  refine lv_iload_n hx hb dX3_find_20 rfl (lv_at hl 3 rfl) ?_
  refine va_aldq (D := (dC, dI)) hx hb hK hP 1 0 rfl rfl (by unfold vp_in; decide) dX3_find_21 ?_
  refine W.eq (g2 := F0 m 22 ls [.ref h3, .int 0]) rfl ?_
  refine va_get (D := (dC, dI)) (ci := 6) (v := .int 0) (C := RX2) (T := TX2) (N := 2) hx hb hts (by decide +kernel) hown hK hP 3 rfl rfl 1 (by decide) (hts (.fieldLink RX3 65 "Rewriterope$Text" "length" "I") (by decide +kernel)) (fun _ h9 => h9) rfl dX3_find_22 ?_
  refine lv_icmp_gt (tgt := 80) hx hb dX3_find_25 (by decide) (fun c9 => absurd c9 (by decide)) (fun _ => ?_)
  refine lv_iload_n hx hb dX3_find_28 rfl (lv_at hl 5 rfl) ?_
  refine lv_if_ne (tgt := 38) hx hb dX3_find_29 (by decide) (fun c9 => absurd (by decide) c9) (fun _ => ?_)
  refine lv_iload hx hb dX3_find_32 (lv_at hl 1 rfl) ?_
  refine lv_iconst (v := (-1)) hx hb dX3_find_34 (by decide) ?_
  refine lv_icmp_ne (tgt := 42) hx hb dX3_find_35 (by decide) (fun c9 => absurd (by decide) c9) (fun _ => ?_)
  refine lv_iconst (v := 1) hx hb dX3_find_38 (by decide) ?_
  refine lv_goto (tgt := 43) hx hb dX3_find_39 (by decide) ?_
  refine lv_istore (lv' := [(6, .int 1), (5, .int 0), (4, .int (-1)), (0, .ref h0), (1, .int 1), (2, .int 2), (3, .int 0)]) hx hb dX3_find_43 hl (by decide) rfl (fun ls hl => ?_)
  refine lv_iload hx hb dX3_find_45 (lv_at hl 0 rfl) ?_
  refine lv_if_eq (tgt := 74) hx hb dX3_find_47 (by decide) (fun c9 => absurd c9 (by decide)) (fun _ => ?_)
  refine lv_aload_n hx hb dX3_find_50 rfl (lv_at hl 3 rfl) ?_
  refine va_get (D := (dC, dI)) (ci := 7) (v := .ref h1) (C := RX3) (T := TX3) (N := 9) hx hb hts (by decide +kernel) hown hK hP 0 rfl rfl 0 (by decide) (hts (.fieldLink RX3 11 "Rewriterope" "ropes" "[LRewriterope$Text;") (by decide +kernel)) (fun _ h9 => h9) rfl dX3_find_51 ?_
  refine lv_iload_n hx hb dX3_find_54 rfl (lv_at hl 4 rfl) ?_
  refine va_aldq (D := (dC, dI)) hx hb hK hP 1 0 rfl rfl (by unfold vp_in; decide) dX3_find_55 ?_
  refine W.eq (g2 := F0 m 56 ls [.ref h3]) rfl ?_
  refine lv_aload_n hx hb dX3_find_56 rfl (lv_at hl 3 rfl) ?_
  refine va_get (D := (dC, dI)) (ci := 7) (v := .ref h1) (C := RX3) (T := TX3) (N := 9) hx hb hts (by decide +kernel) hown hK hP 0 rfl rfl 0 (by decide) (hts (.fieldLink RX3 11 "Rewriterope" "ropes" "[LRewriterope$Text;") (by decide +kernel)) (fun _ h9 => h9) rfl dX3_find_57 ?_
  refine lv_iload_n hx hb dX3_find_60 rfl (lv_at hl 5 rfl) ?_
  refine va_aldq (D := (dC, dI)) hx hb hK hP 1 0 rfl rfl (by unfold vp_in; decide) dX3_find_61 ?_
  refine W.eq (g2 := F0 m 62 ls [.ref h4, .ref h3]) rfl ?_
  refine lv_iload hx hb dX3_find_62 (lv_at hl 1 rfl) ?_
  have hPc := hP.sub (ws' := [(h3, .inr (6, [.ref z6, .int 0])), (h4, .inr (6, [.ref z7, .int 0]))]) [3, 4] rfl
  have hDc := hD.sub (ws' := [(h3, .inr (6, [.ref z6, .int 0])), (h4, .inr (6, [.ref z7, .int 0]))]) [3, 4] (by decide) rfl
  have hKc := hK.sub (tys' := []) [] rfl
  have hFc := va_free (wc := [(h3, .inr (6, [.ref z6, .int 0])), (h4, .inr (6, [.ref z7, .int 0]))]) hD hS hA [3, 4] rfl
  refine va_calli (va_runV (As := [.ref h4, .int 0]) (rest := []) ⟨hx, hb, hml, hown, hts⟩ (kx_X2_holds_1 l dC dI h3 h4 z6 z7 H.size) (cwV 2 hts gX3_find_X2_holds rfl rfl rfl (by decide +kernel) ⟨Nat.le_of_ble_eq_true rfl, Nat.le_of_ble_eq_true rfl⟩) ⟨fun a U g mk q => by obtain ⟨q0, q1, qP, qK, qD⟩ := q; exact ⟨q0, q1, qP, va_K.moved (u := U) (U := U.calling g mk a) (Vm.Alike.refl U.vm) qK, qD⟩, va_recv hKc hPc (ci := 6) (q0 := 0) rfl rfl, fun U hU hW => ⟨rfl, by rw [hU], by rw [hU]; exact hPc, va_K.moved hW.alike hKc, hDc.weaken (fun _ _ _ _ => trivial)⟩⟩ rfl rfl hl.1 rfl (lv_room (Nat.le_of_ble_eq_true rfl)) dX3_find_64 ⟨Nat.le_of_ble_eq_true rfl, Nat.le_of_ble_eq_true rfl⟩) hS (fun q _ h => hFc q h) hFc (fun r9 u t H1 locs ht hvm hw hB hz1 hk1 hS => ?_)
  obtain rfl := hw
  obtain ⟨hP1, hK1, hD1⟩ := hB
  rw [ht] at hP1
  have hK1 := va_K.moved hvm.symm hK1
  obtain ⟨hP, hD⟩ := va_join (wr := [(h0, .inr (7, [.ref h1, .ref z0, .ref z1, .ref z2, .ref z3, .ref z4, .int 0, .int 0, .int 0])), (h1, .inl (k0, 4, .inr (.inr (.inr (.inr (va_up (va_up (va_up (va_up (fun _ => none) 0 (some h2)) 1 (some h3)) 2 (some h4)) 3 (some h5))))))), (h2, .inr (6, [.ref z5, .int 0])), (h5, .inr (6, [.ref z8, .int 0]))]) (w1 := [(h3, .inr (6, [.ref z6, .int 0])), (h4, .inr (6, [.ref z7, .int 0]))]) hP hD [3, 4] [0, 1, 2, 5] rfl rfl (by decide) (by decide) hk1 hFc hP1 hD1
  generalize H1 = H at hP hS ⊢
  have hP : va_P (dC, dI) vwCl [(h0, .inr (7, [.ref h1, .ref z0, .ref z1, .ref z2, .ref z3, .ref z4, .int 0, .int 0, .int 0])), (h1, .inl (k0, 4, .inr (.inr (.inr (.inr (va_up (va_up (va_up (va_up (fun _ => none) 0 (some h2)) 1 (some h3)) 2 (some h4)) 3 (some h5))))))), (h2, .inr (6, [.ref z5, .int 0])), (h5, .inr (6, [.ref z8, .int 0])), (h3, .inr (6, [.ref z6, .int 0])), (h4, .inr (6, [.ref z7, .int 0]))] H := hP
  have hD : va_D A [(h0, .inr (7, [.ref h1, .ref z0, .ref z1, .ref z2, .ref z3, .ref z4, .int 0, .int 0, .int 0])), (h1, .inl (k0, 4, .inr (.inr (.inr (.inr (va_up (va_up (va_up (va_up (fun _ => none) 0 (some h2)) 1 (some h3)) 2 (some h4)) 3 (some h5))))))), (h2, .inr (6, [.ref z5, .int 0])), (h5, .inr (6, [.ref z8, .int 0])), (h3, .inr (6, [.ref z6, .int 0])), (h4, .inr (6, [.ref z7, .int 0]))] := hD
  refine lv_if_eq (tgt := 74) hx hb dX3_find_67 (by decide) (fun c9 => absurd c9 (by decide)) (fun _ => ?_)
  refine lv_iload hx hb dX3_find_70 (lv_at hl 1 rfl) ?_
  refine lv_istore (lv' := [(4, .int 0), (6, .int 1), (5, .int 0), (0, .ref h0), (1, .int 1), (2, .int 2), (3, .int 0)]) hx hb dX3_find_72 hl (by decide) rfl (fun ls hl => ?_)
  refine lv_iinc (v := 1) (lv' := [(5, .int 1), (4, .int 0), (6, .int 1), (0, .ref h0), (1, .int 1), (2, .int 2), (3, .int 0)]) hx hb dX3_find_74 hl (k := 2) rfl (by decide) (by decide) rfl (fun ls hl => ?_)
  refine lv_goto (tgt := 14) hx hb dX3_find_77 (by decide) ?_
  refine lv_iload hx hb dX3_find_14 (lv_at hl 0 rfl) ?_
  refine lv_aload_n hx hb dX3_find_16 rfl (lv_at hl 3 rfl) ?_
  refine va_get (D := (dC, dI)) (ci := 7) (v := .ref h1) (C := RX3) (T := TX3) (N := 9) hx hb hts (by decide +kernel) hown hK hP 0 rfl rfl 0 (by decide) (hts (.fieldLink RX3 11 "Rewriterope" "ropes" "[LRewriterope$Text;") (by decide +kernel)) (fun _ h9 => h9) rfl dX3_find_17 ?_
  refine lv_iload_n hx hb dX3_find_20 rfl (lv_at hl 4 rfl) ?_
  refine va_aldq (D := (dC, dI)) hx hb hK hP 1 0 rfl rfl (by unfold vp_in; decide) dX3_find_21 ?_
  refine W.eq (g2 := F0 m 22 ls [.ref h3, .int 1]) rfl ?_
  refine va_get (D := (dC, dI)) (ci := 6) (v := .int 0) (C := RX2) (T := TX2) (N := 2) hx hb hts (by decide +kernel) hown hK hP 4 rfl rfl 1 (by decide) (hts (.fieldLink RX3 65 "Rewriterope$Text" "length" "I") (by decide +kernel)) (fun _ h9 => h9) rfl dX3_find_22 ?_
  refine lv_icmp_gt (tgt := 80) hx hb dX3_find_25 (by decide) (fun _ => ?_) (fun c9 => absurd (by decide) c9)
  refine lv_iload hx hb dX3_find_80 (lv_at hl 1 rfl) ?_
  have hP := hP.sub (ws' := [(h0, .inr (7, [.ref h1, .ref z0, .ref z1, .ref z2, .ref z3, .ref z4, .int 0, .int 0, .int 0])), (h1, .inl (k0, 4, .inr (.inr (.inr (.inr (va_up (va_up (va_up (va_up (fun _ => none) 0 (some h2)) 1 (some h3)) 2 (some h4)) 3 (some h5))))))), (h2, .inr (6, [.ref z5, .int 0])), (h3, .inr (6, [.ref z6, .int 0])), (h4, .inr (6, [.ref z7, .int 0])), (h5, .inr (6, [.ref z8, .int 0]))]) [0, 1, 2, 4, 5, 3] rfl
  have hD := hD.sub (ws' := [(h0, .inr (7, [.ref h1, .ref z0, .ref z1, .ref z2, .ref z3, .ref z4, .int 0, .int 0, .int 0])), (h1, .inl (k0, 4, .inr (.inr (.inr (.inr (va_up (va_up (va_up (va_up (fun _ => none) 0 (some h2)) 1 (some h3)) 2 (some h4)) 3 (some h5))))))), (h2, .inr (6, [.ref z5, .int 0])), (h3, .inr (6, [.ref z6, .int 0])), (h4, .inr (6, [.ref z7, .int 0])), (h5, .inr (6, [.ref z8, .int 0]))]) [0, 1, 2, 4, 5, 3] (by decide) rfl
  exact W.iret (v := 0) hx hb hr (fun t ht hW => ⟨⟨0, (), rfl, rfl, by rw [ht]; exact hP, va_K.moved hW.alike hK, hD⟩, hS.F ht⟩) hS.2.2 dX3_find_82
set_option maxHeartbeats 4000000 in
set_option maxRecDepth 100000 in
theorem kx_X3_find_7 (l : Launch) (dC : Nat → ClassId) (dI : Nat → Nat → Nat) (h0 : Nat) (h1 : Nat) (h2 : Nat) (h3 : Nat) (h4 : Nat) (h5 : Nat) (z0 : Nat) (z1 : Nat) (z2 : Nat) (z3 : Nat) (z4 : Nat) (z5 : Nat) (z6 : Nat) (z7 : Nat) (z8 : Nat) (k0 : ClassId) (sz : Nat) : Met l yX3_find wsX3_find ({ frames := 1, cells := 0, slots := 0, locals := 23 }) (va_Pc [.ref h0, .int 1, .int 3, .int 0] (fun U => U.heap.size = sz ∧ va_P (dC, dI) vwCl [(h0, .inr (7, [.ref h1, .ref z0, .ref z1, .ref z2, .ref z3, .ref z4, .int 0, .int 0, .int 0])), (h1, .inl (k0, 4, .inr (.inr (.inr (.inr (va_up (va_up (va_up (va_up (fun _ => none) 0 (some h2)) 1 (some h3)) 2 (some h4)) 3 (some h5))))))), (h2, .inr (6, [.ref z5, .int 0])), (h3, .inr (6, [.ref z6, .int 0])), (h4, .inr (6, [.ref z7, .int 0])), (h5, .inr (6, [.ref z8, .int 0]))] U.heap ∧ va_K (dC, dI) vwCl [(k0, .object "Rewriterope$Text")] U ∧ va_D (fun _ => True) [(h0, .inr (7, [.ref h1, .ref z0, .ref z1, .ref z2, .ref z3, .ref z4, .int 0, .int 0, .int 0])), (h1, .inl (k0, 4, .inr (.inr (.inr (.inr (va_up (va_up (va_up (va_up (fun _ => none) 0 (some h2)) 1 (some h3)) 2 (some h4)) 3 (some h5))))))), (h2, .inr (6, [.ref z5, .int 0])), (h3, .inr (6, [.ref z6, .int 0])), (h4, .inr (6, [.ref z7, .int 0])), (h5, .inr (6, [.ref z8, .int 0]))])) (va_Qi (fun (r : Int32) (_ : Unit) => r = 0) (fun (_ : Unit) (t : State) => va_P (dC, dI) vwCl [(h0, .inr (7, [.ref h1, .ref z0, .ref z1, .ref z2, .ref z3, .ref z4, .int 0, .int 0, .int 0])), (h1, .inl (k0, 4, .inr (.inr (.inr (.inr (va_up (va_up (va_up (va_up (fun _ => none) 0 (some h2)) 1 (some h3)) 2 (some h4)) 3 (some h5))))))), (h2, .inr (6, [.ref z5, .int 0])), (h3, .inr (6, [.ref z6, .int 0])), (h4, .inr (6, [.ref z7, .int 0])), (h5, .inr (6, [.ref z8, .int 0]))] t.heap ∧ va_K (dC, dI) vwCl [(k0, .object "Rewriterope$Text")] t ∧ va_D (va_A [(h0, .inr (7, [.ref h1, .ref z0, .ref z1, .ref z2, .ref z3, .ref z4, .int 0, .int 0, .int 0])), (h1, .inl (k0, 4, .inr (.inr (.inr (.inr (va_up (va_up (va_up (va_up (fun _ => none) 0 (some h2)) 1 (some h3)) 2 (some h4)) 3 (some h5))))))), (h2, .inr (6, [.ref z5, .int 0])), (h3, .inr (6, [.ref z6, .int 0])), (h4, .inr (6, [.ref z7, .int 0])), (h5, .inr (6, [.ref z8, .int 0]))] sz) [(h0, .inr (7, [.ref h1, .ref z0, .ref z1, .ref z2, .ref z3, .ref z4, .int 0, .int 0, .int 0])), (h1, .inl (k0, 4, .inr (.inr (.inr (.inr (va_up (va_up (va_up (va_up (fun _ => none) 0 (some h2)) 1 (some h3)) 2 (some h4)) 3 (some h5))))))), (h2, .inr (6, [.ref z5, .int 0])), (h3, .inr (6, [.ref z6, .int 0])), (h4, .inr (6, [.ref z7, .int 0])), (h5, .inr (6, [.ref z8, .int 0]))]) (va_A [(h0, .inr (7, [.ref h1, .ref z0, .ref z1, .ref z2, .ref z3, .ref z4, .int 0, .int 0, .int 0])), (h1, .inl (k0, 4, .inr (.inr (.inr (.inr (va_up (va_up (va_up (va_up (fun _ => none) 0 (some h2)) 1 (some h3)) 2 (some h4)) 3 (some h5))))))), (h2, .inr (6, [.ref z5, .int 0])), (h3, .inr (6, [.ref z6, .int 0])), (h4, .inr (6, [.ref z7, .int 0])), (h5, .inr (6, [.ref z8, .int 0]))] sz)) 0 0 (va_A [(h0, .inr (7, [.ref h1, .ref z0, .ref z1, .ref z2, .ref z3, .ref z4, .int 0, .int 0, .int 0])), (h1, .inl (k0, 4, .inr (.inr (.inr (.inr (va_up (va_up (va_up (va_up (fun _ => none) 0 (some h2)) 1 (some h3)) 2 (some h4)) 3 (some h5))))))), (h2, .inr (6, [.ref z5, .int 0])), (h3, .inr (6, [.ref z6, .int 0])), (h4, .inr (6, [.ref z7, .int 0])), (h5, .inr (6, [.ref z8, .int 0]))] sz) := by
  refine Met.ofW (cc := cX3_find) (maxL := 7) (ret := (some .int)) (by decide) rfl ?_
  intro p e s m args below meth c s₁ B hml hv
  obtain ⟨rfl, hsz, hP, hK, hD0⟩ := hv
  have hx := B.exec
  have hb := B.bytes
  have hr := B.returns
  have hts := atoms_spec (ws := wsX3_find) B.pre
  have hown : s.vm.findClass RX3 = some m.cls := findClass_of_methodNamed B.named
  have hlocks := B.notSynchronized
  subst hsz
  have hD := hD0.self (sz := s.heap.size)
  generalize hAe : va_A [(h0, .inr (7, [.ref h1, .ref z0, .ref z1, .ref z2, .ref z3, .ref z4, .int 0, .int 0, .int 0])), (h1, .inl (k0, 4, .inr (.inr (.inr (.inr (va_up (va_up (va_up (va_up (fun _ => none) 0 (some h2)) 1 (some h3)) 2 (some h4)) 3 (some h5))))))), (h2, .inr (6, [.ref z5, .int 0])), (h3, .inr (6, [.ref z6, .int 0])), (h4, .inr (6, [.ref z7, .int 0])), (h5, .inr (6, [.ref z8, .int 0]))] s.heap.size = A at hD ⊢
  have hA : ∀ q : Nat, s.heap.size ≤ q → A q := fun q h => by rw [← hAe]; exact Or.inr h
  have hS : va_S A s.heap s.heap [] := va_S.rf
  have hP : va_P (dC, dI) vwCl [(h0, .inr (7, [.ref h1, .ref z0, .ref z1, .ref z2, .ref z3, .ref z4, .int 0, .int 0, .int 0])), (h1, .inl (k0, 4, .inr (.inr (.inr (.inr (va_up (va_up (va_up (va_up (fun _ => none) 0 (some h2)) 1 (some h3)) 2 (some h4)) 3 (some h5))))))), (h2, .inr (6, [.ref z5, .int 0])), (h3, .inr (6, [.ref z6, .int 0])), (h4, .inr (6, [.ref z7, .int 0])), (h5, .inr (6, [.ref z8, .int 0]))] s.heap := hP
  have hl := lv_entry ([.ref h0, .int 1, .int 3, .int 0]) (n := 7) (Nat.le_of_ble_eq_true rfl)
  rw [lg_entry_eq]
  generalize (lg_sl ([.ref h0, .int 1, .int 3, .int 0]) ++ List.replicate (7 - (lg_sl ([.ref h0, .int 1, .int 3, .int 0])).length) Slot.unset).toArray = ls at hl ⊢
  have hl : lv_has ls 7 [(0, .ref h0), (1, .int 1), (2, .int 3), (3, .int 0)] := hl
  refine lv_iload_n hx hb dX3_find_0 rfl (lv_at hl 1 rfl) ?_
  have hPc := hP.sub (ws' := []) [] rfl
  have hDc := hD.sub (ws' := []) [] (by decide) rfl
  have hKc := hK.sub (tys' := []) [] rfl
  have hFc := va_free (wc := []) hD hS hA [] rfl
  refine va_callv (va_runS (As := [.int 1]) (rest := []) ⟨hx, hb, hml, hown, hts⟩ (kx_X3_needRope_1 l dC dI s.heap.size) (cwS 1 hts gX3_find_X3_needRope rfl rfl rfl (by decide +kernel) ⟨Nat.le_of_ble_eq_true rfl, Nat.le_of_ble_eq_true rfl⟩) ⟨fun a U g mk q => by obtain ⟨q0, q1, qP, qK, qD⟩ := q; exact ⟨q0, q1, qP, va_K.moved (u := U) (U := U.calling g mk a) (Vm.Alike.refl U.vm) qK, qD⟩, fun U hU hW => ⟨rfl, by rw [hU], by rw [hU]; exact hPc, va_K.moved hW.alike hKc, hDc.weaken (fun _ _ _ _ => trivial)⟩⟩ rfl rfl hl.1 rfl (lv_room (Nat.le_of_ble_eq_true rfl)) dX3_find_1 ⟨Nat.le_of_ble_eq_true rfl, Nat.le_of_ble_eq_true rfl⟩) hS (fun q _ h => hFc q h) hFc (fun u t H1 locs ht hvm hw hB hz1 hk1 hS => ?_)
  obtain ⟨hP1, hK1, hD1⟩ := hB
  rw [ht] at hP1
  have hK1 := va_K.moved hvm.symm hK1
  obtain ⟨hP, hD⟩ := va_join (wr := [(h0, .inr (7, [.ref h1, .ref z0, .ref z1, .ref z2, .ref z3, .ref z4, .int 0, .int 0, .int 0])), (h1, .inl (k0, 4, .inr (.inr (.inr (.inr (va_up (va_up (va_up (va_up (fun _ => none) 0 (some h2)) 1 (some h3)) 2 (some h4)) 3 (some h5))))))), (h2, .inr (6, [.ref z5, .int 0])), (h3, .inr (6, [.ref z6, .int 0])), (h4, .inr (6, [.ref z7, .int 0])), (h5, .inr (6, [.ref z8, .int 0]))]) (w1 := []) hP hD [] [0, 1, 2, 3, 4, 5] rfl rfl (by decide) (by decide) hk1 hFc hP1 hD1
  generalize H1 = H at hP hS ⊢
  have hP : va_P (dC, dI) vwCl [(h0, .inr (7, [.ref h1, .ref z0, .ref z1, .ref z2, .ref z3, .ref z4, .int 0, .int 0, .int 0])), (h1, .inl (k0, 4, .inr (.inr (.inr (.inr (va_up (va_up (va_up (va_up (fun _ => none) 0 (some h2)) 1 (some h3)) 2 (some h4)) 3 (some h5))))))), (h2, .inr (6, [.ref z5, .int 0])), (h3, .inr (6, [.ref z6, .int 0])), (h4, .inr (6, [.ref z7, .int 0])), (h5, .inr (6, [.ref z8, .int 0]))] H := hP
  have hD : va_D A [(h0, .inr (7, [.ref h1, .ref z0, .ref z1, .ref z2, .ref z3, .ref z4, .int 0, .int 0, .int 0])), (h1, .inl (k0, 4, .inr (.inr (.inr (.inr (va_up (va_up (va_up (va_up (fun _ => none) 0 (some h2)) 1 (some h3)) 2 (some h4)) 3 (some h5))))))), (h2, .inr (6, [.ref z5, .int 0])), (h3, .inr (6, [.ref z6, .int 0])), (h4, .inr (6, [.ref z7, .int 0])), (h5, .inr (6, [.ref z8, .int 0]))] := hD
  refine lv_iload_n hx hb dX3_find_4 rfl (lv_at hl 2 rfl) ?_
  have hPc := hP.sub (ws' := []) [] rfl
  have hDc := hD.sub (ws' := []) [] (by decide) rfl
  have hKc := hK.sub (tys' := []) [] rfl
  have hFc := va_free (wc := []) hD hS hA [] rfl
  refine va_callv (va_runS (As := [.int 3]) (rest := []) ⟨hx, hb, hml, hown, hts⟩ (kx_X3_needRope_3 l dC dI H.size) (cwS 1 hts gX3_find_X3_needRope rfl rfl rfl (by decide +kernel) ⟨Nat.le_of_ble_eq_true rfl, Nat.le_of_ble_eq_true rfl⟩) ⟨fun a U g mk q => by obtain ⟨q0, q1, qP, qK, qD⟩ := q; exact ⟨q0, q1, qP, va_K.moved (u := U) (U := U.calling g mk a) (Vm.Alike.refl U.vm) qK, qD⟩, fun U hU hW => ⟨rfl, by rw [hU], by rw [hU]; exact hPc, va_K.moved hW.alike hKc, hDc.weaken (fun _ _ _ _ => trivial)⟩⟩ rfl rfl hl.1 rfl (lv_room (Nat.le_of_ble_eq_true rfl)) dX3_find_5 ⟨Nat.le_of_ble_eq_true rfl, Nat.le_of_ble_eq_true rfl⟩) hS (fun q _ h => hFc q h) hFc (fun u t H1 locs ht hvm hw hB hz1 hk1 hS => ?_)
  obtain ⟨hP1, hK1, hD1⟩ := hB
  rw [ht] at hP1
  have hK1 := va_K.moved hvm.symm hK1
  obtain ⟨hP, hD⟩ := va_join (wr := [(h0, .inr (7, [.ref h1, .ref z0, .ref z1, .ref z2, .ref z3, .ref z4, .int 0, .int 0, .int 0])), (h1, .inl (k0, 4, .inr (.inr (.inr (.inr (va_up (va_up (va_up (va_up (fun _ => none) 0 (some h2)) 1 (some h3)) 2 (some h4)) 3 (some h5))))))), (h2, .inr (6, [.ref z5, .int 0])), (h3, .inr (6, [.ref z6, .int 0])), (h4, .inr (6, [.ref z7, .int 0])), (h5, .inr (6, [.ref z8, .int 0]))]) (w1 := []) hP hD [] [0, 1, 2, 3, 4, 5] rfl rfl (by decide) (by decide) hk1 hFc hP1 hD1
  generalize H1 = H at hP hS ⊢
  have hP : va_P (dC, dI) vwCl [(h0, .inr (7, [.ref h1, .ref z0, .ref z1, .ref z2, .ref z3, .ref z4, .int 0, .int 0, .int 0])), (h1, .inl (k0, 4, .inr (.inr (.inr (.inr (va_up (va_up (va_up (va_up (fun _ => none) 0 (some h2)) 1 (some h3)) 2 (some h4)) 3 (some h5))))))), (h2, .inr (6, [.ref z5, .int 0])), (h3, .inr (6, [.ref z6, .int 0])), (h4, .inr (6, [.ref z7, .int 0])), (h5, .inr (6, [.ref z8, .int 0]))] H := hP
  have hD : va_D A [(h0, .inr (7, [.ref h1, .ref z0, .ref z1, .ref z2, .ref z3, .ref z4, .int 0, .int 0, .int 0])), (h1, .inl (k0, 4, .inr (.inr (.inr (.inr (va_up (va_up (va_up (va_up (fun _ => none) 0 (some h2)) 1 (some h3)) 2 (some h4)) 3 (some h5))))))), (h2, .inr (6, [.ref z5, .int 0])), (h3, .inr (6, [.ref z6, .int 0])), (h4, .inr (6, [.ref z7, .int 0])), (h5, .inr (6, [.ref z8, .int 0]))] := hD
  refine lv_iconst (v := (-1)) hx hb dX3_find_8 (by decide) ?_
  refine lv_istore (lv' := [(4, .int (-1)), (0, .ref h0), (1, .int 1), (2, .int 3), (3, .int 0)]) hx hb dX3_find_9 hl (by decide) rfl (fun ls hl => ?_)
  refine lv_iconst (v := 0) hx hb dX3_find_11 (by decide) ?_
  refine lv_istore (lv' := [(5, .int 0), (4, .int (-1)), (0, .ref h0), (1, .int 1), (2, .int 3), (3, .int 0)]) hx hb dX3_find_12 hl (by decide) rfl (fun ls hl => ?_)
  refine lv_iload hx hb dX3_find_14 (lv_at hl 0 rfl) ?_
  refine lv_aload_n hx hb dX3_find_16 rfl (lv_at hl 2 rfl) ?_
  refine va_get (D := (dC, dI)) (ci := 7) (v := .ref h1) (C := RX3) (T := TX3) (N := 9) hx hb hts (by decide +kernel) hown hK hP 0 rfl rfl 0 (by decide) (hts (.fieldLink RX3 11 "Rewriterope" "ropes" "[LRewriterope$Text;") (by decide +kernel)) (fun _ h9 => h9) rfl dX3_find_17 ?_
  refine lv_iload_n hx hb dX3_find_20 rfl (lv_at hl 3 rfl) ?_
  refine va_aldq (D := (dC, dI)) hx hb hK hP 1 0 rfl rfl (by unfold vp_in; decide) dX3_find_21 ?_
  refine W.eq (g2 := F0 m 22 ls [.ref h3, .int 0]) rfl ?_
  refine va_get (D := (dC, dI)) (ci := 6) (v := .int 0) (C := RX2) (T := TX2) (N := 2) hx hb hts (by decide +kernel) hown hK hP 3 rfl rfl 1 (by decide) (hts (.fieldLink RX3 65 "Rewriterope$Text" "length" "I") (by decide +kernel)) (fun _ h9 => h9) rfl dX3_find_22 ?_
  refine lv_icmp_gt (tgt := 80) hx hb dX3_find_25 (by decide) (fun c9 => absurd c9 (by decide)) (fun _ => ?_)
  refine lv_iload_n hx hb dX3_find_28 rfl (lv_at hl 5 rfl) ?_
  refine lv_if_ne (tgt := 38) hx hb dX3_find_29 (by decide) (fun c9 => absurd (by decide) c9) (fun _ => ?_)
  refine lv_iload hx hb dX3_find_32 (lv_at hl 1 rfl) ?_
  refine lv_iconst (v := (-1)) hx hb dX3_find_34 (by decide) ?_
  refine lv_icmp_ne (tgt := 42) hx hb dX3_find_35 (by decide) (fun c9 => absurd (by decide) c9) (fun _ => ?_)
  refine lv_iconst (v := 1) hx hb dX3_find_38 (by decide) ?_
  refine lv_goto (tgt := 43) hx hb dX3_find_39 (by decide) ?_
  refine lv_istore (lv' := [(6, .int 1), (5, .int 0), (4, .int (-1)), (0, .ref h0), (1, .int 1), (2, .int 3), (3, .int 0)]) hx hb dX3_find_43 hl (by decide) rfl (fun ls hl => ?_)
  refine lv_iload hx hb dX3_find_45 (lv_at hl 0 rfl) ?_
  refine lv_if_eq (tgt := 74) hx hb dX3_find_47 (by decide) (fun c9 => absurd c9 (by decide)) (fun _ => ?_)
  refine lv_aload_n hx hb dX3_find_50 rfl (lv_at hl 3 rfl) ?_
  refine va_get (D := (dC, dI)) (ci := 7) (v := .ref h1) (C := RX3) (T := TX3) (N := 9) hx hb hts (by decide +kernel) hown hK hP 0 rfl rfl 0 (by decide) (hts (.fieldLink RX3 11 "Rewriterope" "ropes" "[LRewriterope$Text;") (by decide +kernel)) (fun _ h9 => h9) rfl dX3_find_51 ?_
  refine lv_iload_n hx hb dX3_find_54 rfl (lv_at hl 4 rfl) ?_
  refine va_aldq (D := (dC, dI)) hx hb hK hP 1 0 rfl rfl (by unfold vp_in; decide) dX3_find_55 ?_
  refine W.eq (g2 := F0 m 56 ls [.ref h3]) rfl ?_
  refine lv_aload_n hx hb dX3_find_56 rfl (lv_at hl 3 rfl) ?_
  refine va_get (D := (dC, dI)) (ci := 7) (v := .ref h1) (C := RX3) (T := TX3) (N := 9) hx hb hts (by decide +kernel) hown hK hP 0 rfl rfl 0 (by decide) (hts (.fieldLink RX3 11 "Rewriterope" "ropes" "[LRewriterope$Text;") (by decide +kernel)) (fun _ h9 => h9) rfl dX3_find_57 ?_
  refine lv_iload_n hx hb dX3_find_60 rfl (lv_at hl 5 rfl) ?_
  refine va_aldq (D := (dC, dI)) hx hb hK hP 1 0 rfl rfl (by unfold vp_in; decide) dX3_find_61 ?_
  refine W.eq (g2 := F0 m 62 ls [.ref h5, .ref h3]) rfl ?_
  refine lv_iload hx hb dX3_find_62 (lv_at hl 1 rfl) ?_
  have hPc := hP.sub (ws' := [(h3, .inr (6, [.ref z6, .int 0])), (h5, .inr (6, [.ref z8, .int 0]))]) [3, 5] rfl
  have hDc := hD.sub (ws' := [(h3, .inr (6, [.ref z6, .int 0])), (h5, .inr (6, [.ref z8, .int 0]))]) [3, 5] (by decide) rfl
  have hKc := hK.sub (tys' := []) [] rfl
  have hFc := va_free (wc := [(h3, .inr (6, [.ref z6, .int 0])), (h5, .inr (6, [.ref z8, .int 0]))]) hD hS hA [3, 5] rfl
  refine va_calli (va_runV (As := [.ref h5, .int 0]) (rest := []) ⟨hx, hb, hml, hown, hts⟩ (kx_X2_holds_1 l dC dI h3 h5 z6 z8 H.size) (cwV 2 hts gX3_find_X2_holds rfl rfl rfl (by decide +kernel) ⟨Nat.le_of_ble_eq_true rfl, Nat.le_of_ble_eq_true rfl⟩) ⟨fun a U g mk q => by obtain ⟨q0, q1, qP, qK, qD⟩ := q; exact ⟨q0, q1, qP, va_K.moved (u := U) (U := U.calling g mk a) (Vm.Alike.refl U.vm) qK, qD⟩, va_recv hKc hPc (ci := 6) (q0 := 0) rfl rfl, fun U hU hW => ⟨rfl, by rw [hU], by rw [hU]; exact hPc, va_K.moved hW.alike hKc, hDc.weaken (fun _ _ _ _ => trivial)⟩⟩ rfl rfl hl.1 rfl (lv_room (Nat.le_of_ble_eq_true rfl)) dX3_find_64 ⟨Nat.le_of_ble_eq_true rfl, Nat.le_of_ble_eq_true rfl⟩) hS (fun q _ h => hFc q h) hFc (fun r9 u t H1 locs ht hvm hw hB hz1 hk1 hS => ?_)
  obtain rfl := hw
  obtain ⟨hP1, hK1, hD1⟩ := hB
  rw [ht] at hP1
  have hK1 := va_K.moved hvm.symm hK1
  obtain ⟨hP, hD⟩ := va_join (wr := [(h0, .inr (7, [.ref h1, .ref z0, .ref z1, .ref z2, .ref z3, .ref z4, .int 0, .int 0, .int 0])), (h1, .inl (k0, 4, .inr (.inr (.inr (.inr (va_up (va_up (va_up (va_up (fun _ => none) 0 (some h2)) 1 (some h3)) 2 (some h4)) 3 (some h5))))))), (h2, .inr (6, [.ref z5, .int 0])), (h4, .inr (6, [.ref z7, .int 0]))]) (w1 := [(h3, .inr (6, [.ref z6, .int 0])), (h5, .inr (6, [.ref z8, .int 0]))]) hP hD [3, 5] [0, 1, 2, 4] rfl rfl (by decide) (by decide) hk1 hFc hP1 hD1
  generalize H1 = H at hP hS ⊢
  have hP : va_P (dC, dI) vwCl [(h0, .inr (7, [.ref h1, .ref z0, .ref z1, .ref z2, .ref z3, .ref z4, .int 0, .int 0, .int 0])), (h1, .inl (k0, 4, .inr (.inr (.inr (.inr (va_up (va_up (va_up (va_up (fun _ => none) 0 (some h2)) 1 (some h3)) 2 (some h4)) 3 (some h5))))))), (h2, .inr (6, [.ref z5, .int 0])), (h4, .inr (6, [.ref z7, .int 0])), (h3, .inr (6, [.ref z6, .int 0])), (h5, .inr (6, [.ref z8, .int 0]))] H := hP
  have hD : va_D A [(h0, .inr (7, [.ref h1, .ref z0, .ref z1, .ref z2, .ref z3, .ref z4, .int 0, .int 0, .int 0])), (h1, .inl (k0, 4, .inr (.inr (.inr (.inr (va_up (va_up (va_up (va_up (fun _ => none) 0 (some h2)) 1 (some h3)) 2 (some h4)) 3 (some h5))))))), (h2, .inr (6, [.ref z5, .int 0])), (h4, .inr (6, [.ref z7, .int 0])), (h3, .inr (6, [.ref z6, .int 0])), (h5, .inr (6, [.ref z8, .int 0]))] := hD
  refine lv_if_eq (tgt := 74) hx hb dX3_find_67 (by decide) (fun c9 => absurd c9 (by decide)) (fun _ => ?_)
  refine lv_iload hx hb dX3_find_70 (lv_at hl 1 rfl) ?_
  refine lv_istore (lv' := [(4, .int 0), (6, .int 1), (5, .int 0), (0, .ref h0), (1, .int 1), (2, .int 3), (3, .int 0)]) hx hb dX3_find_72 hl (by decide) rfl (fun ls hl => ?_)
  refine lv_iinc (v := 1) (lv' := [(5, .int 1), (4, .int 0), (6, .int 1), (0, .ref h0), (1, .int 1), (2, .int 3), (3, .int 0)]) hx hb dX3_find_74 hl (k := 2) rfl (by decide) (by decide) rfl (fun ls hl => ?_)
  refine lv_goto (tgt := 14) hx hb dX3_find_77 (by decide) ?_
  refine lv_iload hx hb dX3_find_14 (lv_at hl 0 rfl) ?_
  refine lv_aload_n hx hb dX3_find_16 rfl (lv_at hl 3 rfl) ?_
  refine va_get (D := (dC, dI)) (ci := 7) (v := .ref h1) (C := RX3) (T := TX3) (N := 9) hx hb hts (by decide +kernel) hown hK hP 0 rfl rfl 0 (by decide) (hts (.fieldLink RX3 11 "Rewriterope" "ropes" "[LRewriterope$Text;") (by decide +kernel)) (fun _ h9 => h9) rfl dX3_find_17 ?_
  refine lv_iload_n hx hb dX3_find_20 rfl (lv_at hl 4 rfl) ?_
  refine va_aldq (D := (dC, dI)) hx hb hK hP 1 0 rfl rfl (by unfold vp_in; decide) dX3_find_21 ?_
  refine W.eq (g2 := F0 m 22 ls [.ref h3, .int 1]) rfl ?_
  refine va_get (D := (dC, dI)) (ci := 6) (v := .int 0) (C := RX2) (T := TX2) (N := 2) hx hb hts (by decide +kernel) hown hK hP 4 rfl rfl 1 (by decide) (hts (.fieldLink RX3 65 "Rewriterope$Text" "length" "I") (by decide +kernel)) (fun _ h9 => h9) rfl dX3_find_22 ?_
  refine lv_icmp_gt (tgt := 80) hx hb dX3_find_25 (by decide) (fun _ => ?_) (fun c9 => absurd (by decide) c9)
  refine lv_iload hx hb dX3_find_80 (lv_at hl 1 rfl) ?_
  have hP := hP.sub (ws' := [(h0, .inr (7, [.ref h1, .ref z0, .ref z1, .ref z2, .ref z3, .ref z4, .int 0, .int 0, .int 0])), (h1, .inl (k0, 4, .inr (.inr (.inr (.inr (va_up (va_up (va_up (va_up (fun _ => none) 0 (some h2)) 1 (some h3)) 2 (some h4)) 3 (some h5))))))), (h2, .inr (6, [.ref z5, .int 0])), (h3, .inr (6, [.ref z6, .int 0])), (h4, .inr (6, [.ref z7, .int 0])), (h5, .inr (6, [.ref z8, .int 0]))]) [0, 1, 2, 4, 3, 5] rfl
  have hD := hD.sub (ws' := [(h0, .inr (7, [.ref h1, .ref z0, .ref z1, .ref z2, .ref z3, .ref z4, .int 0, .int 0, .int 0])), (h1, .inl (k0, 4, .inr (.inr (.inr (.inr (va_up (va_up (va_up (va_up (fun _ => none) 0 (some h2)) 1 (some h3)) 2 (some h4)) 3 (some h5))))))), (h2, .inr (6, [.ref z5, .int 0])), (h3, .inr (6, [.ref z6, .int 0])), (h4, .inr (6, [.ref z7, .int 0])), (h5, .inr (6, [.ref z8, .int 0]))]) [0, 1, 2, 4, 3, 5] (by decide) rfl
  exact W.iret (v := 0) hx hb hr (fun t ht hW => ⟨⟨0, (), rfl, rfl, by rw [ht]; exact hP, va_K.moved hW.alike hK, hD⟩, hS.F ht⟩) hS.2.2 dX3_find_82
set_option maxHeartbeats 4000000 in
set_option maxRecDepth 100000 in
theorem kx_X3_find_s1 (l : Launch) (dC : Nat → ClassId) (dI : Nat → Nat → Nat) (h0 : Nat) (h1 : Nat) (h2 : Nat) (h3 : Nat) (h4 : Nat) (h5 : Nat) (z0 : Nat) (z1 : Nat) (z2 : Nat) (z3 : Nat) (z4 : Nat) (z5 : Nat) (z6 : Nat) (z7 : Nat) (z8 : Nat) (k0 : ClassId) (sz : Nat) (j0 : Int32) (j0_l : (0 : Int) ≤ j0.toInt) (j0_u : j0.toInt ≤ (3 : Int)) : Met l yX3_find wsX3_find ({ frames := 1, cells := 0, slots := 0, locals := 23 }) (va_Pc [.ref h0, .int 1, .int j0, .int 0] (fun U => U.heap.size = sz ∧ va_P (dC, dI) vwCl [(h0, .inr (7, [.ref h1, .ref z0, .ref z1, .ref z2, .ref z3, .ref z4, .int 0, .int 0, .int 0])), (h1, .inl (k0, 4, .inr (.inr (.inr (.inr (va_up (va_up (va_up (va_up (fun _ => none) 0 (some h2)) 1 (some h3)) 2 (some h4)) 3 (some h5))))))), (h2, .inr (6, [.ref z5, .int 0])), (h3, .inr (6, [.ref z6, .int 0])), (h4, .inr (6, [.ref z7, .int 0])), (h5, .inr (6, [.ref z8, .int 0]))] U.heap ∧ va_K (dC, dI) vwCl [(k0, .object "Rewriterope$Text")] U ∧ va_D (fun _ => True) [(h0, .inr (7, [.ref h1, .ref z0, .ref z1, .ref z2, .ref z3, .ref z4, .int 0, .int 0, .int 0])), (h1, .inl (k0, 4, .inr (.inr (.inr (.inr (va_up (va_up (va_up (va_up (fun _ => none) 0 (some h2)) 1 (some h3)) 2 (some h4)) 3 (some h5))))))), (h2, .inr (6, [.ref z5, .int 0])), (h3, .inr (6, [.ref z6, .int 0])), (h4, .inr (6, [.ref z7, .int 0])), (h5, .inr (6, [.ref z8, .int 0]))])) (va_Qi (fun (r : Int32) (_ : Unit) => r = 0) (fun (_ : Unit) (t : State) => va_P (dC, dI) vwCl [(h0, .inr (7, [.ref h1, .ref z0, .ref z1, .ref z2, .ref z3, .ref z4, .int 0, .int 0, .int 0])), (h1, .inl (k0, 4, .inr (.inr (.inr (.inr (va_up (va_up (va_up (va_up (fun _ => none) 0 (some h2)) 1 (some h3)) 2 (some h4)) 3 (some h5))))))), (h2, .inr (6, [.ref z5, .int 0])), (h3, .inr (6, [.ref z6, .int 0])), (h4, .inr (6, [.ref z7, .int 0])), (h5, .inr (6, [.ref z8, .int 0]))] t.heap ∧ va_K (dC, dI) vwCl [(k0, .object "Rewriterope$Text")] t ∧ va_D (va_A [(h0, .inr (7, [.ref h1, .ref z0, .ref z1, .ref z2, .ref z3, .ref z4, .int 0, .int 0, .int 0])), (h1, .inl (k0, 4, .inr (.inr (.inr (.inr (va_up (va_up (va_up (va_up (fun _ => none) 0 (some h2)) 1 (some h3)) 2 (some h4)) 3 (some h5))))))), (h2, .inr (6, [.ref z5, .int 0])), (h3, .inr (6, [.ref z6, .int 0])), (h4, .inr (6, [.ref z7, .int 0])), (h5, .inr (6, [.ref z8, .int 0]))] sz) [(h0, .inr (7, [.ref h1, .ref z0, .ref z1, .ref z2, .ref z3, .ref z4, .int 0, .int 0, .int 0])), (h1, .inl (k0, 4, .inr (.inr (.inr (.inr (va_up (va_up (va_up (va_up (fun _ => none) 0 (some h2)) 1 (some h3)) 2 (some h4)) 3 (some h5))))))), (h2, .inr (6, [.ref z5, .int 0])), (h3, .inr (6, [.ref z6, .int 0])), (h4, .inr (6, [.ref z7, .int 0])), (h5, .inr (6, [.ref z8, .int 0]))]) (va_A [(h0, .inr (7, [.ref h1, .ref z0, .ref z1, .ref z2, .ref z3, .ref z4, .int 0, .int 0, .int 0])), (h1, .inl (k0, 4, .inr (.inr (.inr (.inr (va_up (va_up (va_up (va_up (fun _ => none) 0 (some h2)) 1 (some h3)) 2 (some h4)) 3 (some h5))))))), (h2, .inr (6, [.ref z5, .int 0])), (h3, .inr (6, [.ref z6, .int 0])), (h4, .inr (6, [.ref z7, .int 0])), (h5, .inr (6, [.ref z8, .int 0]))] sz)) 0 0 (va_A [(h0, .inr (7, [.ref h1, .ref z0, .ref z1, .ref z2, .ref z3, .ref z4, .int 0, .int 0, .int 0])), (h1, .inl (k0, 4, .inr (.inr (.inr (.inr (va_up (va_up (va_up (va_up (fun _ => none) 0 (some h2)) 1 (some h3)) 2 (some h4)) 3 (some h5))))))), (h2, .inr (6, [.ref z5, .int 0])), (h3, .inr (6, [.ref z6, .int 0])), (h4, .inr (6, [.ref z7, .int 0])), (h5, .inr (6, [.ref z8, .int 0]))] sz) := by
  have e9 : j0 = 0 ∨ j0 = 1 ∨ j0 = 2 ∨ j0 = 3 := by
    have h9 : j0.toInt = 0 ∨ j0.toInt = 1 ∨ j0.toInt = 2 ∨ j0.toInt = 3 := by omega
    rcases h9 with h9 | h9 | h9 | h9
    · exact Or.inl (Int32.toInt_inj.mp (h9.trans (by decide)))
    · exact Or.inr (Or.inl (Int32.toInt_inj.mp (h9.trans (by decide))))
    · exact Or.inr (Or.inr (Or.inl (Int32.toInt_inj.mp (h9.trans (by decide)))))
    · exact Or.inr (Or.inr (Or.inr (Int32.toInt_inj.mp (h9.trans (by decide)))))
  rcases e9 with rfl | rfl | rfl | rfl
  · exact kx_X3_find_4 l dC dI h0 h1 h2 h3 h4 h5 z0 z1 z2 z3 z4 z5 z6 z7 z8 k0 sz
  · exact kx_X3_find_5 l dC dI h0 h1 h2 h3 h4 h5 z0 z1 z2 z3 z4 z5 z6 z7 z8 k0 sz
  · exact kx_X3_find_6 l dC dI h0 h1 h2 h3 h4 h5 z0 z1 z2 z3 z4 z5 z6 z7 z8 k0 sz
  · exact kx_X3_find_7 l dC dI h0 h1 h2 h3 h4 h5 z0 z1 z2 z3 z4 z5 z6 z7 z8 k0 sz
set_option maxHeartbeats 4000000 in
set_option maxRecDepth 100000 in
theorem kx_X3_find_8 (l : Launch) (dC : Nat → ClassId) (dI : Nat → Nat → Nat) (h0 : Nat) (h1 : Nat) (h2 : Nat) (h3 : Nat) (h4 : Nat) (h5 : Nat) (z0 : Nat) (z1 : Nat) (z2 : Nat) (z3 : Nat) (z4 : Nat) (z5 : Nat) (z6 : Nat) (z7 : Nat) (z8 : Nat) (k0 : ClassId) (sz : Nat) : Met l yX3_find wsX3_find ({ frames := 1, cells := 0, slots := 0, locals := 23 }) (va_Pc [.ref h0, .int 2, .int 0, .int 0] (fun U => U.heap.size = sz ∧ va_P (dC, dI) vwCl [(h0, .inr (7, [.ref h1, .ref z0, .ref z1, .ref z2, .ref z3, .ref z4, .int 0, .int 0, .int 0])), (h1, .inl (k0, 4, .inr (.inr (.inr (.inr (va_up (va_up (va_up (va_up (fun _ => none) 0 (some h2)) 1 (some h3)) 2 (some h4)) 3 (some h5))))))), (h2, .inr (6, [.ref z5, .int 0])), (h3, .inr (6, [.ref z6, .int 0])), (h4, .inr (6, [.ref z7, .int 0])), (h5, .inr (6, [.ref z8, .int 0]))] U.heap ∧ va_K (dC, dI) vwCl [(k0, .object "Rewriterope$Text")] U ∧ va_D (fun _ => True) [(h0, .inr (7, [.ref h1, .ref z0, .ref z1, .ref z2, .ref z3, .ref z4, .int 0, .int 0, .int 0])), (h1, .inl (k0, 4, .inr (.inr (.inr (.inr (va_up (va_up (va_up (va_up (fun _ => none) 0 (some h2)) 1 (some h3)) 2 (some h4)) 3 (some h5))))))), (h2, .inr (6, [.ref z5, .int 0])), (h3, .inr (6, [.ref z6, .int 0])), (h4, .inr (6, [.ref z7, .int 0])), (h5, .inr (6, [.ref z8, .int 0]))])) (va_Qi (fun (r : Int32) (_ : Unit) => r = 0) (fun (_ : Unit) (t : State) => va_P (dC, dI) vwCl [(h0, .inr (7, [.ref h1, .ref z0, .ref z1, .ref z2, .ref z3, .ref z4, .int 0, .int 0, .int 0])), (h1, .inl (k0, 4, .inr (.inr (.inr (.inr (va_up (va_up (va_up (va_up (fun _ => none) 0 (some h2)) 1 (some h3)) 2 (some h4)) 3 (some h5))))))), (h2, .inr (6, [.ref z5, .int 0])), (h3, .inr (6, [.ref z6, .int 0])), (h4, .inr (6, [.ref z7, .int 0])), (h5, .inr (6, [.ref z8, .int 0]))] t.heap ∧ va_K (dC, dI) vwCl [(k0, .object "Rewriterope$Text")] t ∧ va_D (va_A [(h0, .inr (7, [.ref h1, .ref z0, .ref z1, .ref z2, .ref z3, .ref z4, .int 0, .int 0, .int 0])), (h1, .inl (k0, 4, .inr (.inr (.inr (.inr (va_up (va_up (va_up (va_up (fun _ => none) 0 (some h2)) 1 (some h3)) 2 (some h4)) 3 (some h5))))))), (h2, .inr (6, [.ref z5, .int 0])), (h3, .inr (6, [.ref z6, .int 0])), (h4, .inr (6, [.ref z7, .int 0])), (h5, .inr (6, [.ref z8, .int 0]))] sz) [(h0, .inr (7, [.ref h1, .ref z0, .ref z1, .ref z2, .ref z3, .ref z4, .int 0, .int 0, .int 0])), (h1, .inl (k0, 4, .inr (.inr (.inr (.inr (va_up (va_up (va_up (va_up (fun _ => none) 0 (some h2)) 1 (some h3)) 2 (some h4)) 3 (some h5))))))), (h2, .inr (6, [.ref z5, .int 0])), (h3, .inr (6, [.ref z6, .int 0])), (h4, .inr (6, [.ref z7, .int 0])), (h5, .inr (6, [.ref z8, .int 0]))]) (va_A [(h0, .inr (7, [.ref h1, .ref z0, .ref z1, .ref z2, .ref z3, .ref z4, .int 0, .int 0, .int 0])), (h1, .inl (k0, 4, .inr (.inr (.inr (.inr (va_up (va_up (va_up (va_up (fun _ => none) 0 (some h2)) 1 (some h3)) 2 (some h4)) 3 (some h5))))))), (h2, .inr (6, [.ref z5, .int 0])), (h3, .inr (6, [.ref z6, .int 0])), (h4, .inr (6, [.ref z7, .int 0])), (h5, .inr (6, [.ref z8, .int 0]))] sz)) 0 0 (va_A [(h0, .inr (7, [.ref h1, .ref z0, .ref z1, .ref z2, .ref z3, .ref z4, .int 0, .int 0, .int 0])), (h1, .inl (k0, 4, .inr (.inr (.inr (.inr (va_up (va_up (va_up (va_up (fun _ => none) 0 (some h2)) 1 (some h3)) 2 (some h4)) 3 (some h5))))))), (h2, .inr (6, [.ref z5, .int 0])), (h3, .inr (6, [.ref z6, .int 0])), (h4, .inr (6, [.ref z7, .int 0])), (h5, .inr (6, [.ref z8, .int 0]))] sz) := by
  refine Met.ofW (cc := cX3_find) (maxL := 7) (ret := (some .int)) (by decide) rfl ?_
  intro p e s m args below meth c s₁ B hml hv
  obtain ⟨rfl, hsz, hP, hK, hD0⟩ := hv
  have hx := B.exec
  have hb := B.bytes
  have hr := B.returns
  have hts := atoms_spec (ws := wsX3_find) B.pre
  have hown : s.vm.findClass RX3 = some m.cls := findClass_of_methodNamed B.named
  have hlocks := B.notSynchronized
  subst hsz
  have hD := hD0.self (sz := s.heap.size)
  generalize hAe : va_A [(h0, .inr (7, [.ref h1, .ref z0, .ref z1, .ref z2, .ref z3, .ref z4, .int 0, .int 0, .int 0])), (h1, .inl (k0, 4, .inr (.inr (.inr (.inr (va_up (va_up (va_up (va_up (fun _ => none) 0 (some h2)) 1 (some h3)) 2 (some h4)) 3 (some h5))))))), (h2, .inr (6, [.ref z5, .int 0])), (h3, .inr (6, [.ref z6, .int 0])), (h4, .inr (6, [.ref z7, .int 0])), (h5, .inr (6, [.ref z8, .int 0]))] s.heap.size = A at hD ⊢
  have hA : ∀ q : Nat, s.heap.size ≤ q → A q := fun q h => by rw [← hAe]; exact Or.inr h
  have hS : va_S A s.heap s.heap [] := va_S.rf
  have hP : va_P (dC, dI) vwCl [(h0, .inr (7, [.ref h1, .ref z0, .ref z1, .ref z2, .ref z3, .ref z4, .int 0, .int 0, .int 0])), (h1, .inl (k0, 4, .inr (.inr (.inr (.inr (va_up (va_up (va_up (va_up (fun _ => none) 0 (some h2)) 1 (some h3)) 2 (some h4)) 3 (some h5))))))), (h2, .inr (6, [.ref z5, .int 0])), (h3, .inr (6, [.ref z6, .int 0])), (h4, .inr (6, [.ref z7, .int 0])), (h5, .inr (6, [.ref z8, .int 0]))] s.heap := hP
  have hl := lv_entry ([.ref h0, .int 2, .int 0, .int 0]) (n := 7) (Nat.le_of_ble_eq_true rfl)
  rw [lg_entry_eq]
  generalize (lg_sl ([.ref h0, .int 2, .int 0, .int 0]) ++ List.replicate (7 - (lg_sl ([.ref h0, .int 2, .int 0, .int 0])).length) Slot.unset).toArray = ls at hl ⊢
  have hl : lv_has ls 7 [(0, .ref h0), (1, .int 2), (2, .int 0), (3, .int 0)] := hl
  refine lv_iload_n hx hb dX3_find_0 rfl (lv_at hl 1 rfl) ?_
  have hPc := hP.sub (ws' := []) [] rfl
  have hDc := hD.sub (ws' := []) [] (by decide) rfl
  have hKc := hK.sub (tys' := []) [] rfl
  have hFc := va_free (wc := []) hD hS hA [] rfl
  refine va_callv (va_runS (As := [.int 2]) (rest := []) ⟨hx, hb, hml, hown, hts⟩ (kx_X3_needRope_2 l dC dI s.heap.size) (cwS 1 hts gX3_find_X3_needRope rfl rfl rfl (by decide +kernel) ⟨Nat.le_of_ble_eq_true rfl, Nat.le_of_ble_eq_true rfl⟩) ⟨fun a U g mk q => by obtain ⟨q0, q1, qP, qK, qD⟩ := q; exact ⟨q0, q1, qP, va_K.moved (u := U) (U := U.calling g mk a) (Vm.Alike.refl U.vm) qK, qD⟩, fun U hU hW => ⟨rfl, by rw [hU], by rw [hU]; exact hPc, va_K.moved hW.alike hKc, hDc.weaken (fun _ _ _ _ => trivial)⟩⟩ rfl rfl hl.1 rfl (lv_room (Nat.le_of_ble_eq_true rfl)) dX3_find_1 ⟨Nat.le_of_ble_eq_true rfl, Nat.le_of_ble_eq_true rfl⟩) hS (fun q _ h => hFc q h) hFc (fun u t H1 locs ht hvm hw hB hz1 hk1 hS => ?_)
  obtain ⟨hP1, hK1, hD1⟩ := hB
  rw [ht] at hP1
  have hK1 := va_K.moved hvm.symm hK1
  obtain ⟨hP, hD⟩ := va_join (wr := [(h0, .inr (7, [.ref h1, .ref z0, .ref z1, .ref z2, .ref z3, .ref z4, .int 0, .int 0, .int 0])), (h1, .inl (k0, 4, .inr (.inr (.inr (.inr (va_up (va_up (va_up (va_up (fun _ => none) 0 (some h2)) 1 (some h3)) 2 (some h4)) 3 (some h5))))))), (h2, .inr (6, [.ref z5, .int 0])), (h3, .inr (6, [.ref z6, .int 0])), (h4, .inr (6, [.ref z7, .int 0])), (h5, .inr (6, [.ref z8, .int 0]))]) (w1 := []) hP hD [] [0, 1, 2, 3, 4, 5] rfl rfl (by decide) (by decide) hk1 hFc hP1 hD1
  generalize H1 = H at hP hS ⊢
  have hP : va_P (dC, dI) vwCl [(h0, .inr (7, [.ref h1, .ref z0, .ref z1, .ref z2, .ref z3, .ref z4, .int 0, .int 0, .int 0])), (h1, .inl (k0, 4, .inr (.inr (.inr (.inr (va_up (va_up (va_up (va_up (fun _ => none) 0 (some h2)) 1 (some h3)) 2 (some h4)) 3 (some h5))))))), (h2, .inr (6, [.ref z5, .int 0])), (h3, .inr (6, [.ref z6, .int 0])), (h4, .inr (6, [.ref z7, .int 0])), (h5, .inr (6, [.ref z8, .int 0]))] H := hP
  have hD : va_D A [(h0, .inr (7, [.ref h1, .ref z0, .ref z1, .ref z2, .ref z3, .ref z4, .int 0, .int 0, .int 0])), (h1, .inl (k0, 4, .inr (.inr (.inr (.inr (va_up (va_up (va_up (va_up (fun _ => none) 0 (some h2)) 1 (some h3)) 2 (some h4)) 3 (some h5))))))), (h2, .inr (6, [.ref z5, .int 0])), (h3, .inr (6, [.ref z6, .int 0])), (h4, .inr (6, [.ref z7, .int 0])), (h5, .inr (6, [.ref z8, .int 0]))] := hD
  refine lv_iload_n hx hb dX3_find_4 rfl (lv_at hl 2 rfl) ?_
  have hPc := hP.sub (ws' := []) [] rfl
  have hDc := hD.sub (ws' := []) [] (by decide) rfl
  have hKc := hK.sub (tys' := []) [] rfl
  have hFc := va_free (wc := []) hD hS hA [] rfl
  refine va_callv (va_runS (As := [.int 0]) (rest := []) ⟨hx, hb, hml, hown, hts⟩ (kx_X3_needRope_0 l dC dI H.size) (cwS 1 hts gX3_find_X3_needRope rfl rfl rfl (by decide +kernel) ⟨Nat.le_of_ble_eq_true rfl, Nat.le_of_ble_eq_true rfl⟩) ⟨fun a U g mk q => by obtain ⟨q0, q1, qP, qK, qD⟩ := q; exact ⟨q0, q1, qP, va_K.moved (u := U) (U := U.calling g mk a) (Vm.Alike.refl U.vm) qK, qD⟩, fun U hU hW => ⟨rfl, by rw [hU], by rw [hU]; exact hPc, va_K.moved hW.alike hKc, hDc.weaken (fun _ _ _ _ => trivial)⟩⟩ rfl rfl hl.1 rfl (lv_room (Nat.le_of_ble_eq_true rfl)) dX3_find_5 ⟨Nat.le_of_ble_eq_true rfl, Nat.le_of_ble_eq_true rfl⟩) hS (fun q _ h => hFc q h) hFc (fun u t H1 locs ht hvm hw hB hz1 hk1 hS => ?_)
  obtain ⟨hP1, hK1, hD1⟩ := hB
  rw [ht] at hP1
  have hK1 := va_K.moved hvm.symm hK1
  obtain ⟨hP, hD⟩ := va_join (wr := [(h0, .inr (7, [.ref h1, .ref z0, .ref z1, .ref z2, .ref z3, .ref z4, .int 0, .int 0, .int 0])), (h1, .inl (k0, 4, .inr (.inr (.inr (.inr (va_up (va_up (va_up (va_up (fun _ => none) 0 (some h2)) 1 (some h3)) 2 (some h4)) 3 (some h5))))))), (h2, .inr (6, [.ref z5, .int 0])), (h3, .inr (6, [.ref z6, .int 0])), (h4, .inr (6, [.ref z7, .int 0])), (h5, .inr (6, [.ref z8, .int 0]))]) (w1 := []) hP hD [] [0, 1, 2, 3, 4, 5] rfl rfl (by decide) (by decide) hk1 hFc hP1 hD1
  generalize H1 = H at hP hS ⊢
  have hP : va_P (dC, dI) vwCl [(h0, .inr (7, [.ref h1, .ref z0, .ref z1, .ref z2, .ref z3, .ref z4, .int 0, .int 0, .int 0])), (h1, .inl (k0, 4, .inr (.inr (.inr (.inr (va_up (va_up (va_up (va_up (fun _ => none) 0 (some h2)) 1 (some h3)) 2 (some h4)) 3 (some h5))))))), (h2, .inr (6, [.ref z5, .int 0])), (h3, .inr (6, [.ref z6, .int 0])), (h4, .inr (6, [.ref z7, .int 0])), (h5, .inr (6, [.ref z8, .int 0]))] H := hP
  have hD : va_D A [(h0, .inr (7, [.ref h1, .ref z0, .ref z1, .ref z2, .ref z3, .ref z4, .int 0, .int 0, .int 0])), (h1, .inl (k0, 4, .inr (.inr (.inr (.inr (va_up (va_up (va_up (va_up (fun _ => none) 0 (some h2)) 1 (some h3)) 2 (some h4)) 3 (some h5))))))), (h2, .inr (6, [.ref z5, .int 0])), (h3, .inr (6, [.ref z6, .int 0])), (h4, .inr (6, [.ref z7, .int 0])), (h5, .inr (6, [.ref z8, .int 0]))] := hD
  refine lv_iconst (v := (-1)) hx hb dX3_find_8 (by decide) ?_
  refine lv_istore (lv' := [(4, .int (-1)), (0, .ref h0), (1, .int 2), (2, .int 0), (3, .int 0)]) hx hb dX3_find_9 hl (by decide) rfl (fun ls hl => ?_)
  refine lv_iconst (v := 0) hx hb dX3_find_11 (by decide) ?_
  refine lv_istore (lv' := [(5, .int 0), (4, .int (-1)), (0, .ref h0), (1, .int 2), (2, .int 0), (3, .int 0)]) hx hb dX3_find_12 hl (by decide) rfl (fun ls hl => ?_)
  refine lv_iload hx hb dX3_find_14 (lv_at hl 0 rfl) ?_
  refine lv_aload_n hx hb dX3_find_16 rfl (lv_at hl 2 rfl) ?_
  refine va_get (D := (dC, dI)) (ci := 7) (v := .ref h1) (C := RX3) (T := TX3) (N := 9) hx hb hts (by decide +kernel) hown hK hP 0 rfl rfl 0 (by decide) (hts (.fieldLink RX3 11 "Rewriterope" "ropes" "[LRewriterope$Text;") (by decide +kernel)) (fun _ h9 => h9) rfl dX3_find_17 ?_
  refine lv_iload_n hx hb dX3_find_20 rfl (lv_at hl 3 rfl) ?_
  refine va_aldq (D := (dC, dI)) hx hb hK hP 1 0 rfl rfl (by unfold vp_in; decide) dX3_find_21 ?_
  refine W.eq (g2 := F0 m 22 ls [.ref h4, .int 0]) rfl ?_
  refine va_get (D := (dC, dI)) (ci := 6) (v := .int 0) (C := RX2) (T := TX2) (N := 2) hx hb hts (by decide +kernel) hown hK hP 4 rfl rfl 1 (by decide) (hts (.fieldLink RX3 65 "Rewriterope$Text" "length" "I") (by decide +kernel)) (fun _ h9 => h9) rfl dX3_find_22 ?_
  refine lv_icmp_gt (tgt := 80) hx hb dX3_find_25 (by decide) (fun c9 => absurd c9 (by decide)) (fun _ => ?_)
  refine lv_iload_n hx hb dX3_find_28 rfl (lv_at hl 5 rfl) ?_
  refine lv_if_ne (tgt := 38) hx hb dX3_find_29 (by decide) (fun c9 => absurd (by decide) c9) (fun _ => ?_)
  refine lv_iload hx hb dX3_find_32 (lv_at hl 1 rfl) ?_
  refine lv_iconst (v := (-1)) hx hb dX3_find_34 (by decide) ?_
  refine lv_icmp_ne (tgt := 42) hx hb dX3_find_35 (by decide) (fun c9 => absurd (by decide) c9) (fun _ => ?_)
  refine lv_iconst (v := 1) hx hb dX3_find_38 (by decide) ?_
  refine lv_goto (tgt := 43) hx hb dX3_find_39 (by decide) ?_
  refine lv_istore (lv' := [(6, .int 1), (5, .int 0), (4, .int (-1)), (0, .ref h0), (1, .int 2), (2, .int 0), (3, .int 0)]) hx hb dX3_find_43 hl (by decide) rfl (fun ls hl => ?_)
  refine lv_iload hx hb dX3_find_45 (lv_at hl 0 rfl) ?_
  refine lv_if_eq (tgt := 74) hx hb dX3_find_47 (by decide) (fun c9 => absurd c9 (by decide)) (fun _ => ?_)
  refine lv_aload_n hx hb dX3_find_50 rfl (lv_at hl 3 rfl) ?_
  refine va_get (D := (dC, dI)) (ci := 7) (v := .ref h1) (C := RX3) (T := TX3) (N := 9) hx hb hts (by decide +kernel) hown hK hP 0 rfl rfl 0 (by decide) (hts (.fieldLink RX3 11 "Rewriterope" "ropes" "[LRewriterope$Text;") (by decide +kernel)) (fun _ h9 => h9) rfl dX3_find_51 ?_
  refine lv_iload_n hx hb dX3_find_54 rfl (lv_at hl 4 rfl) ?_
  refine va_aldq (D := (dC, dI)) hx hb hK hP 1 0 rfl rfl (by unfold vp_in; decide) dX3_find_55 ?_
  refine W.eq (g2 := F0 m 56 ls [.ref h4]) rfl ?_
  refine lv_aload_n hx hb dX3_find_56 rfl (lv_at hl 3 rfl) ?_
  refine va_get (D := (dC, dI)) (ci := 7) (v := .ref h1) (C := RX3) (T := TX3) (N := 9) hx hb hts (by decide +kernel) hown hK hP 0 rfl rfl 0 (by decide) (hts (.fieldLink RX3 11 "Rewriterope" "ropes" "[LRewriterope$Text;") (by decide +kernel)) (fun _ h9 => h9) rfl dX3_find_57 ?_
  refine lv_iload_n hx hb dX3_find_60 rfl (lv_at hl 5 rfl) ?_
  refine va_aldq (D := (dC, dI)) hx hb hK hP 1 0 rfl rfl (by unfold vp_in; decide) dX3_find_61 ?_
  refine W.eq (g2 := F0 m 62 ls [.ref h2, .ref h4]) rfl ?_
  refine lv_iload hx hb dX3_find_62 (lv_at hl 1 rfl) ?_
  have hPc := hP.sub (ws' := [(h2, .inr (6, [.ref z5, .int 0])), (h4, .inr (6, [.ref z7, .int 0]))]) [2, 4] rfl
  have hDc := hD.sub (ws' := [(h2, .inr (6, [.ref z5, .int 0])), (h4, .inr (6, [.ref z7, .int 0]))]) [2, 4] (by decide) rfl
  have hKc := hK.sub (tys' := []) [] rfl
  have hFc := va_free (wc := [(h2, .inr (6, [.ref z5, .int 0])), (h4, .inr (6, [.ref z7, .int 0]))]) hD hS hA [2, 4] rfl
  refine va_calli (va_runV (As := [.ref h2, .int 0]) (rest := []) ⟨hx, hb, hml, hown, hts⟩ (kx_X2_holds_2 l dC dI h2 h4 z5 z7 H.size) (cwV 2 hts gX3_find_X2_holds rfl rfl rfl (by decide +kernel) ⟨Nat.le_of_ble_eq_true rfl, Nat.le_of_ble_eq_true rfl⟩) ⟨fun a U g mk q => by obtain ⟨q0, q1, qP, qK, qD⟩ := q; exact ⟨q0, q1, qP, va_K.moved (u := U) (U := U.calling g mk a) (Vm.Alike.refl U.vm) qK, qD⟩, va_recv hKc hPc (ci := 6) (q0 := 1) rfl rfl, fun U hU hW => ⟨rfl, by rw [hU], by rw [hU]; exact hPc, va_K.moved hW.alike hKc, hDc.weaken (fun _ _ _ _ => trivial)⟩⟩ rfl rfl hl.1 rfl (lv_room (Nat.le_of_ble_eq_true rfl)) dX3_find_64 ⟨Nat.le_of_ble_eq_true rfl, Nat.le_of_ble_eq_true rfl⟩) hS (fun q _ h => hFc q h) hFc (fun r9 u t H1 locs ht hvm hw hB hz1 hk1 hS => ?_)
  obtain rfl := hw
  obtain ⟨hP1, hK1, hD1⟩ := hB
  rw [ht] at hP1
  have hK1 := va_K.moved hvm.symm hK1
  obtain ⟨hP, hD⟩ := va_join (wr := [(h0, .inr (7, [.ref h1, .ref z0, .ref z1, .ref z2, .ref z3, .ref z4, .int 0, .int 0, .int 0])), (h1, .inl (k0, 4, .inr (.inr (.inr (.inr (va_up (va_up (va_up (va_up (fun _ => none) 0 (some h2)) 1 (some h3)) 2 (some h4)) 3 (some h5))))))), (h3, .inr (6, [.ref z6, .int 0])), (h5, .inr (6, [.ref z8, .int 0]))]) (w1 := [(h2, .inr (6, [.ref z5, .int 0])), (h4, .inr (6, [.ref z7, .int 0]))]) hP hD [2, 4] [0, 1, 3, 5] rfl rfl (by decide) (by decide) hk1 hFc hP1 hD1
  generalize H1 = H at hP hS ⊢
  have hP : va_P (dC, dI) vwCl [(h0, .inr (7, [.ref h1, .ref z0, .ref z1, .ref z2, .ref z3, .ref z4, .int 0, .int 0, .int 0])), (h1, .inl (k0, 4, .inr (.inr (.inr (.inr (va_up (va_up (va_up (va_up (fun _ => none) 0 (some h2)) 1 (some h3)) 2 (some h4)) 3 (some h5))))))), (h3, .inr (6, [.ref z6, .int 0])), (h5, .inr (6, [.ref z8, .int 0])), (h2, .inr (6, [.ref z5, .int 0])), (h4, .inr (6, [.ref z7, .int 0]))] H := hP
  have hD : va_D A [(h0, .inr (7, [.ref h1, .ref z0, .ref z1, .ref z2, .ref z3, .ref z4, .int 0, .int 0, .int 0])), (h1, .inl (k0, 4, .inr (.inr (.inr (.inr (va_up (va_up (va_up (va_up (fun _ => none) 0 (some h2)) 1 (some h3)) 2 (some h4)) 3 (some h5))))))), (h3, .inr (6, [.ref z6, .int 0])), (h5, .inr (6, [.ref z8, .int 0])), (h2, .inr (6, [.ref z5, .int 0])), (h4, .inr (6, [.ref z7, .int 0]))] := hD
  refine lv_if_eq (tgt := 74) hx hb dX3_find_67 (by decide) (fun c9 => absurd c9 (by decide)) (fun _ => ?_)
  refine lv_iload hx hb dX3_find_70 (lv_at hl 1 rfl) ?_
  refine lv_istore (lv' := [(4, .int 0), (6, .int 1), (5, .int 0), (0, .ref h0), (1, .int 2), (2, .int 0), (3, .int 0)]) hx hb dX3_find_72 hl (by decide) rfl (fun ls hl => ?_)
  refine lv_iinc (v := 1) (lv' := [(5, .int 1), (4, .int 0), (6, .int 1), (0, .ref h0), (1, .int 2), (2, .int 0), (3, .int 0)]) hx hb dX3_find_74 hl (k := 2) rfl (by decide) (by decide) rfl (fun ls hl => ?_)
  refine lv_goto (tgt := 14) hx hb dX3_find_77 (by decide) ?_
  refine lv_iload hx hb dX3_find_14 (lv_at hl 0 rfl) ?_
  refine lv_aload_n hx hb dX3_find_16 rfl (lv_at hl 3 rfl) ?_
  refine va_get (D := (dC, dI)) (ci := 7) (v := .ref h1) (C := RX3) (T := TX3) (N := 9) hx hb hts (by decide +kernel) hown hK hP 0 rfl rfl 0 (by decide) (hts (.fieldLink RX3 11 "Rewriterope" "ropes" "[LRewriterope$Text;") (by decide +kernel)) (fun _ h9 => h9) rfl dX3_find_17 ?_
  refine lv_iload_n hx hb dX3_find_20 rfl (lv_at hl 4 rfl) ?_
  refine va_aldq (D := (dC, dI)) hx hb hK hP 1 0 rfl rfl (by unfold vp_in; decide) dX3_find_21 ?_
  refine W.eq (g2 := F0 m 22 ls [.ref h4, .int 1]) rfl ?_
  refine va_get (D := (dC, dI)) (ci := 6) (v := .int 0) (C := RX2) (T := TX2) (N := 2) hx hb hts (by decide +kernel) hown hK hP 5 rfl rfl 1 (by decide) (hts (.fieldLink RX3 65 "Rewriterope$Text" "length" "I") (by decide +kernel)) (fun _ h9 => h9) rfl dX3_find_22 ?_
  refine lv_icmp_gt (tgt := 80) hx hb dX3_find_25 (by decide) (fun _ => ?_) (fun c9 => absurd (by decide) c9)
  refine lv_iload hx hb dX3_find_80 (lv_at hl 1 rfl) ?_
  have hP := hP.sub (ws' := [(h0, .inr (7, [.ref h1, .ref z0, .ref z1, .ref z2, .ref z3, .ref z4, .int 0, .int 0, .int 0])), (h1, .inl (k0, 4, .inr (.inr (.inr (.inr (va_up (va_up (va_up (va_up (fun _ => none) 0 (some h2)) 1 (some h3)) 2 (some h4)) 3 (some h5))))))), (h2, .inr (6, [.ref z5, .int 0])), (h3, .inr (6, [.ref z6, .int 0])), (h4, .inr (6, [.ref z7, .int 0])), (h5, .inr (6, [.ref z8, .int 0]))]) [0, 1, 4, 2, 5, 3] rfl
  have hD := hD.sub (ws' := [(h0, .inr (7, [.ref h1, .ref z0, .ref z1, .ref z2, .ref z3, .ref z4, .int 0, .int 0, .int 0])), (h1, .inl (k0, 4, .inr (.inr (.inr (.inr (va_up (va_up (va_up (va_up (fun _ => none) 0 (some h2)) 1 (some h3)) 2 (some h4)) 3 (some h5))))))), (h2, .inr (6, [.ref z5, .int 0])), (h3, .inr (6, [.ref z6, .int 0])), (h4, .inr (6, [.ref z7, .int 0])), (h5, .inr (6, [.ref z8, .int 0]))]) [0, 1, 4, 2, 5, 3] (by decide) rfl
  exact W.iret (v := 0) hx hb hr (fun t ht hW => ⟨⟨0, (), rfl, rfl, by rw [ht]; exact hP, va_K.moved hW.alike hK, hD⟩, hS.F ht⟩) hS.2.2 dX3_find_82
