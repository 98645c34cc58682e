set_option maxHeartbeats 4000000 in
set_option maxRecDepth 100000 in
theorem kx_J0_getBytes_840e7_2 (l : Launch) (dC : Nat → ClassId) (dI : Nat → Nat → Nat) (ge5 gea gv5 gva gde gic gi0 : Nat) (h0 : Nat) (h1 : Nat) (h2 : Nat) (k0 : ClassId) (k1 : ClassId) (sz : Nat) (f0 : Nat → Int32) (f0_t : sb_Fit f0) : Met l yJ0_getBytes_840e7 wsJ0_getBytes_840e7 ({ frames := 1, cells := 0, slots := 0, locals := 60 }) (va_Pc [.ref h2, .ref h1, .int 0, .int 0] (fun U => U.heap.size = sz ∧ va_P (dC, dI) vwCl [(h0, .inl (k0, 2, .inl f0)), (h1, .inl (k1, 16, .inl (fun _ => 0))), (h2, .inr (0, [.ref h0, .int 0, .int 0, .int 0]))] U.heap ∧ va_K (dC, dI) vwCl [(k0, .byte), (k1, .byte)] U ∧ va_D (fun _ => True) [(h0, .inl (k0, 2, .inl f0)), (h1, .inl (k1, 16, .inl (fun _ => 0))), (h2, .inr (0, [.ref h0, .int 0, .int 0, .int 0]))] ∧ gv ge5 gea gv5 gva gde gic gi0 (va_A [(h0, .inl (k0, 2, .inl f0)), (h1, .inl (k1, 16, .inl (fun _ => 0))), (h2, .inr (0, [.ref h0, .int 0, .int 0, .int 0]))] sz) U U.heap)) (va_Qv (fun _ : Unit => True) (fun (_ : Unit) (t : State) => ∃ f2 : Nat → Int32, sb_Fit f2 ∧ va_P (dC, dI) vwCl [(h0, .inl (k0, 2, .inl f0)), (h1, .inl (k1, 16, .inl f2)), (h2, .inr (0, [.ref h0, .int 0, .int 0, .int 0]))] t.heap ∧ va_K (dC, dI) vwCl [(k0, .byte), (k1, .byte)] t ∧ va_D (va_A [(h0, .inl (k0, 2, .inl f0)), (h1, .inl (k1, 16, .inl (fun _ => 0))), (h2, .inr (0, [.ref h0, .int 0, .int 0, .int 0]))] sz) [(h0, .inl (k0, 2, .inl f0)), (h1, .inl (k1, 16, .inl f2)), (h2, .inr (0, [.ref h0, .int 0, .int 0, .int 0]))]) (va_A [(h0, .inl (k0, 2, .inl f0)), (h1, .inl (k1, 16, .inl (fun _ => 0))), (h2, .inr (0, [.ref h0, .int 0, .int 0, .int 0]))] sz)) 0 0 (va_A [(h0, .inl (k0, 2, .inl f0)), (h1, .inl (k1, 16, .inl (fun _ => 0))), (h2, .inr (0, [.ref h0, .int 0, .int 0, .int 0]))] sz) := by
  refine Met.ofW (cc := cJ0_getBytes_840e7) (maxL := 4) (ret := none) (by decide) rfl ?_
  intro p e s m args below meth c s₁ B hml hv
  obtain ⟨rfl, hsz, hP, hK, hD0, hG⟩ := hv
  have hx := B.exec
  have hb := B.bytes
  have hr := B.returns
  have hts := atoms_spec (ws := wsJ0_getBytes_840e7) B.pre
  have hown : s.vm.findClass RJ0 = some m.cls := findClass_of_methodNamed B.named
  have hlocks := B.notSynchronized
  subst hsz
  have hD := hD0.self (sz := s.heap.size)
  generalize hAe : va_A [(h0, .inl (k0, 2, .inl f0)), (h1, .inl (k1, 16, .inl (fun _ => 0))), (h2, .inr (0, [.ref h0, .int 0, .int 0, .int 0]))] s.heap.size = A at hD hG ⊢
  obtain ⟨⟨g_AO_Text, g_AO_String, g_AO_Object, g_nm_RX1_20, g_nm_RX0_17, g_nm_RX3_31, g_nm_RX2_44, g_nm_RL_121, g_nf_RL_13, g_nf_RL_47, g_ca_IO, g_ca_IA, g_ca_IS, g_ca_IntObj, g_ca_StrObj, g_de_RT, g_de_EX, g_de_TH, g_nc_IA_IO, g_nc_IS_IO, g_nc_IS_IA⟩, ⟨g_s3, g_s5, g_sa, g_x278, g_x280, g_x282, g_x284, g_x286, g_x180, g_x238, g_x250⟩, ⟨g_o5, g_c5, g_v5, g_t5, g_oa, g_ca, g_va, g_ta, g_zc, g_zd, g_td, g_zf, g_zU, g_zN, g_zh, g_zk, g_tk, g_oi, g_vi⟩⟩ := id hG
  have hA : ∀ q : Nat, s.heap.size ≤ q → A q := fun q h => by rw [← hAe]; exact Or.inr h
  have hS : va_S A s.heap s.heap [] := va_S.rf
  have hP : va_P (dC, dI) vwCl [(h0, .inl (k0, 2, .inl f0)), (h1, .inl (k1, 16, .inl (fun _ => 0))), (h2, .inr (0, [.ref h0, .int 0, .int 0, .int 0]))] s.heap := hP
  have hl := lv_entry ([.ref h2, .ref h1, .int 0, .int 0]) (n := 4) (Nat.le_of_ble_eq_true rfl)
  rw [lg_entry_eq]
  generalize (lg_sl ([.ref h2, .ref h1, .int 0, .int 0]) ++ List.replicate (4 - (lg_sl ([.ref h2, .ref h1, .int 0, .int 0])).length) Slot.unset).toArray = ls at hl ⊢
  have hl : lv_has ls 4 [(0, .ref h2), (1, .ref h1), (2, .int 0), (3, .int 0)] := hl
  refine lv_aload_n hx hb dJ0_getBytes_840e7_0 rfl (lv_at hl 0 rfl) ?_
  have hPc := hP.sub (ws' := [(h2, .inr (0, [.ref h0, .int 0, .int 0, .int 0]))]) [2] rfl
  have hDc := hD.sub (ws' := [(h2, .inr (0, [.ref h0, .int 0, .int 0, .int 0]))]) [2] (by decide) rfl
  have hKc := hK.sub (tys' := []) [] rfl
  have hFc := va_free (wc := [(h2, .inr (0, [.ref h0, .int 0, .int 0, .int 0]))]) hD hS hA [2] rfl
  refine va_calli (va_runV (As := []) (rest := []) ⟨hx, hb, hml, hown, hts⟩ (kx_J0_coder_7d493_1 l dC dI ge5 gea gv5 gva gde gic gi0 h2 h0 s.heap.size) (cwV 0 hts gJ0_getBytes_840e7_J0_coder_7d493 rfl rfl rfl (by decide +kernel) ⟨Nat.le_of_ble_eq_true rfl, Nat.le_of_ble_eq_true rfl⟩) ⟨fun a U g mk q => by obtain ⟨q0, q1, qP, qK, qD, qG⟩ := q; exact ⟨q0, q1, qP, va_K.moved (u := U) (U := U.calling g mk a) (Vm.Alike.refl U.vm) qK, qD, gv.fb qG⟩, va_recv hKc hPc (ci := 0) (q0 := 0) rfl rfl, fun U hU hW => ⟨rfl, by rw [hU], by rw [hU]; exact hPc, va_K.moved hW.alike hKc, hDc.weaken (fun _ _ _ _ => trivial), gv.pass hW hU hS hFc hG⟩⟩ rfl rfl hl.1 rfl (lv_room (Nat.le_of_ble_eq_true rfl)) dJ0_getBytes_840e7_1 ⟨Nat.le_of_ble_eq_true rfl, Nat.le_of_ble_eq_true rfl⟩) hS (fun q _ h => hFc q h) hFc (fun r9 u t H1 locs ht hvm hw hB hz1 hk1 hS => ?_)
  obtain rfl := hw
  obtain ⟨hP1, hK1, hD1⟩ := hB
  rw [ht] at hP1
  have hK1 := va_K.moved hvm.symm hK1
  obtain ⟨hP, hD⟩ := va_join (wr := [(h0, .inl (k0, 2, .inl f0)), (h1, .inl (k1, 16, .inl (fun _ => 0)))]) (w1 := [(h2, .inr (0, [.ref h0, .int 0, .int 0, .int 0]))]) hP hD [2] [0, 1] rfl rfl (by decide) (by decide) hk1 hFc hP1 hD1
  generalize H1 = H at hP hS ⊢
  have hP : va_P (dC, dI) vwCl [(h0, .inl (k0, 2, .inl f0)), (h1, .inl (k1, 16, .inl (fun _ => 0))), (h2, .inr (0, [.ref h0, .int 0, .int 0, .int 0]))] H := hP
  have hD : va_D A [(h0, .inl (k0, 2, .inl f0)), (h1, .inl (k1, 16, .inl (fun _ => 0))), (h2, .inr (0, [.ref h0, .int 0, .int 0, .int 0]))] := hD
  refine lv_iload_n hx hb dJ0_getBytes_840e7_4 rfl (lv_at hl 3 rfl) ?_
  refine lv_icmp_ne (tgt := 28) hx hb dJ0_getBytes_840e7_5 (by decide) (fun c9 => absurd (by decide) c9) (fun _ => ?_)
  refine lv_aload_n hx hb dJ0_getBytes_840e7_8 rfl (lv_at hl 0 rfl) ?_
  refine va_get (D := (dC, dI)) (ci := 0) (v := .ref h0) (C := RJ0) (T := TJ0) (N := 4) hx hb hts (by decide +kernel) hown hK hP 2 rfl rfl 0 (by decide) (hts (.fieldLink RJ0 9 "java/lang/String" "value" "[B") (by decide +kernel)) (fun _ h9 => h9) rfl dJ0_getBytes_840e7_9 ?_
  refine lv_iconst (v := 0) hx hb dJ0_getBytes_840e7_12 (by decide) ?_
  refine lv_aload_n hx hb dJ0_getBytes_840e7_13 rfl (lv_at hl 1 rfl) ?_
  refine lv_iload_n hx hb dJ0_getBytes_840e7_14 rfl (lv_at hl 2 rfl) ?_
  refine lv_iload_n hx hb dJ0_getBytes_840e7_15 rfl (lv_at hl 3 rfl) ?_
  refine lv_ishl hx hb dJ0_getBytes_840e7_16 ?_
  refine lv_topi (fun y1 ey1 => ?_)
  obtain rfl : y1 = 0 := ey1.trans (by decide)
  refine lv_aload_n hx hb dJ0_getBytes_840e7_17 rfl (lv_at hl 0 rfl) ?_
  refine va_get (D := (dC, dI)) (ci := 0) (v := .ref h0) (C := RJ0) (T := TJ0) (N := 4) hx hb hts (by decide +kernel) hown hK hP 2 rfl rfl 0 (by decide) (hts (.fieldLink RJ0 9 "java/lang/String" "value" "[B") (by decide +kernel)) (fun _ h9 => h9) rfl dJ0_getBytes_840e7_18 ?_
  refine va_alen (D := (dC, dI)) (v := 2) hx hb hK hP 0 0 rfl rfl (show Int32.ofNat 2 = 2 from by decide) dJ0_getBytes_840e7_21 ?_
  refine va_copyi (D := (dC, dI)) (sp := 0) (dp := 0) (n := 2) hx hb (by rw [hml]; exact hl.1.symm) hown (hts (.methodLink RJ0 212 arraycopyName) (by decide +kernel)) (hts (.native arraycopyName) (by decide +kernel)) (hts (.static arraycopyName) (by decide +kernel)) (hts (.initialized "java/lang/System") (by decide +kernel)) hK hP hD hS 0 1 0 1 rfl rfl rfl rfl rfl (by decide) (by decide) (by decide) (by decide) (by decide) (fun i hi => f0_t _) (Nat.le_of_ble_eq_true rfl) (Nat.le_of_ble_eq_true rfl) dJ0_getBytes_840e7_22 (fun H locs hP hD hS => ?_)
  have hP : va_P (dC, dI) vwCl [(h0, .inl (k0, 2, .inl f0)), (h1, .inl (k1, 16, .inl (va_cpy f0 (fun _ => 0) (0 : Int32).toNatClampNeg (0 : Int32).toNatClampNeg (2 : Int32).toNatClampNeg))), (h2, .inr (0, [.ref h0, .int 0, .int 0, .int 0]))] H := hP
  have hD : va_D A [(h0, .inl (k0, 2, .inl f0)), (h1, .inl (k1, 16, .inl (va_cpy f0 (fun _ => 0) (0 : Int32).toNatClampNeg (0 : Int32).toNatClampNeg (2 : Int32).toNatClampNeg))), (h2, .inr (0, [.ref h0, .int 0, .int 0, .int 0]))] := hD
  obtain ⟨f2, hf2⟩ : ∃ f : Nat → Int32, f = va_cpy f0 (fun _ => 0) (0 : Int32).toNatClampNeg (0 : Int32).toNatClampNeg (2 : Int32).toNatClampNeg := ⟨_, rfl⟩
  have f2_t : sb_Fit f2 := by rw [hf2]; exact sb_fitC f0_t sb_fit0
  rw [← hf2] at hP hD
  refine lv_goto (tgt := 43) hx hb dJ0_getBytes_840e7_25 (by decide) ?_
  exact W.vret hx hb hr (fun t ht hW => ⟨⟨(), rfl, trivial, f2, f2_t, by rw [ht]; exact hP, va_K.moved hW.alike hK, hD⟩, hS.F ht⟩) hS.2.2 dJ0_getBytes_840e7_43
set_option maxHeartbeats 4000000 in
set_option maxRecDepth 100000 in
theorem kx_J5_putStringAt_47b60_2 (l : Launch) (dC : Nat → ClassId) (dI : Nat → Nat → Nat) (ge5 gea gv5 gva gde gic gi0 : Nat) (h0 : Nat) (h1 : Nat) (h2 : Nat) (h3 : Nat) (k0 : ClassId) (k1 : ClassId) (sz : Nat) (f0 : Nat → Int32) (f0_t : sb_Fit f0) : Met l yJ5_putStringAt_47b60 wsJ5_putStringAt_47b60 ({ frames := 2, cells := 0, slots := 0, locals := 83 }) (va_Pc [.ref h2, .int 0, .ref h0] (fun U => U.heap.size = sz ∧ va_P (dC, dI) vwCl [(h0, .inr (0, [.ref h1, .int 0, .int 0, .int 0])), (h1, .inl (k0, 2, .inl f0)), (h2, .inr (1, [.ref h3, .int 0, .int 0, .int 0])), (h3, .inl (k1, 16, .inl (fun _ => 0)))] U.heap ∧ va_K (dC, dI) vwCl [(k0, .byte), (k1, .byte)] U ∧ va_D (fun _ => True) [(h0, .inr (0, [.ref h1, .int 0, .int 0, .int 0])), (h1, .inl (k0, 2, .inl f0)), (h2, .inr (1, [.ref h3, .int 0, .int 0, .int 0])), (h3, .inl (k1, 16, .inl (fun _ => 0)))] ∧ gv ge5 gea gv5 gva gde gic gi0 (va_A [(h0, .inr (0, [.ref h1, .int 0, .int 0, .int 0])), (h1, .inl (k0, 2, .inl f0)), (h2, .inr (1, [.ref h3, .int 0, .int 0, .int 0])), (h3, .inl (k1, 16, .inl (fun _ => 0)))] sz) U U.heap)) (va_Qv (fun _ : Unit => True) (fun (_ : Unit) (t : State) => ∃ f1 : Nat → Int32, sb_Fit f1 ∧ va_P (dC, dI) vwCl [(h0, .inr (0, [.ref h1, .int 0, .int 0, .int 0])), (h1, .inl (k0, 2, .inl f0)), (h2, .inr (1, [.ref h3, .int 0, .int 0, .int 0])), (h3, .inl (k1, 16, .inl f1))] t.heap ∧ va_K (dC, dI) vwCl [(k0, .byte), (k1, .byte)] t ∧ va_D (va_A [(h0, .inr (0, [.ref h1, .int 0, .int 0, .int 0])), (h1, .inl (k0, 2, .inl f0)), (h2, .inr (1, [.ref h3, .int 0, .int 0, .int 0])), (h3, .inl (k1, 16, .inl (fun _ => 0)))] sz) [(h0, .inr (0, [.ref h1, .int 0, .int 0, .int 0])), (h1, .inl (k0, 2, .inl f0)), (h2, .inr (1, [.ref h3, .int 0, .int 0, .int 0])), (h3, .inl (k1, 16, .inl f1))]) (va_A [(h0, .inr (0, [.ref h1, .int 0, .int 0, .int 0])), (h1, .inl (k0, 2, .inl f0)), (h2, .inr (1, [.ref h3, .int 0, .int 0, .int 0])), (h3, .inl (k1, 16, .inl (fun _ => 0)))] sz)) 0 0 (va_A [(h0, .inr (0, [.ref h1, .int 0, .int 0, .int 0])), (h1, .inl (k0, 2, .inl f0)), (h2, .inr (1, [.ref h3, .int 0, .int 0, .int 0])), (h3, .inl (k1, 16, .inl (fun _ => 0)))] sz) := by
  refine Met.ofW (cc := cJ5_putStringAt_47b60) (maxL := 3) (ret := none) (by decide) rfl ?_
  intro p e s m args below meth c s₁ B hml hv
  obtain ⟨rfl, hsz, hP, hK, hD0, hG⟩ := hv
  have hx := B.exec
  have hb := B.bytes
  have hr := B.returns
  have hts := atoms_spec (ws := wsJ5_putStringAt_47b60) B.pre
  have hown : s.vm.findClass RJ5 = some m.cls := findClass_of_methodNamed B.named
  have hlocks := B.notSynchronized
  subst hsz
  have hD := hD0.self (sz := s.heap.size)
  generalize hAe : va_A [(h0, .inr (0, [.ref h1, .int 0, .int 0, .int 0])), (h1, .inl (k0, 2, .inl f0)), (h2, .inr (1, [.ref h3, .int 0, .int 0, .int 0])), (h3, .inl (k1, 16, .inl (fun _ => 0)))] s.heap.size = A at hD hG ⊢
  obtain ⟨⟨g_AO_Text, g_AO_String, g_AO_Object, g_nm_RX1_20, g_nm_RX0_17, g_nm_RX3_31, g_nm_RX2_44, g_nm_RL_121, g_nf_RL_13, g_nf_RL_47, g_ca_IO, g_ca_IA, g_ca_IS, g_ca_IntObj, g_ca_StrObj, g_de_RT, g_de_EX, g_de_TH, g_nc_IA_IO, g_nc_IS_IO, g_nc_IS_IA⟩, ⟨g_s3, g_s5, g_sa, g_x278, g_x280, g_x282, g_x284, g_x286, g_x180, g_x238, g_x250⟩, ⟨g_o5, g_c5, g_v5, g_t5, g_oa, g_ca, g_va, g_ta, g_zc, g_zd, g_td, g_zf, g_zU, g_zN, g_zh, g_zk, g_tk, g_oi, g_vi⟩⟩ := id hG
  have hA : ∀ q : Nat, s.heap.size ≤ q → A q := fun q h => by rw [← hAe]; exact Or.inr h
  have hS : va_S A s.heap s.heap [] := va_S.rf
  have hP : va_P (dC, dI) vwCl [(h0, .inr (0, [.ref h1, .int 0, .int 0, .int 0])), (h1, .inl (k0, 2, .inl f0)), (h2, .inr (1, [.ref h3, .int 0, .int 0, .int 0])), (h3, .inl (k1, 16, .inl (fun _ => 0)))] s.heap := hP
  have hl := lv_entry ([.ref h2, .int 0, .ref h0]) (n := 3) (Nat.le_of_ble_eq_true rfl)
  rw [lg_entry_eq]
  generalize (lg_sl ([.ref h2, .int 0, .ref h0]) ++ List.replicate (3 - (lg_sl ([.ref h2, .int 0, .ref h0])).length) Slot.unset).toArray = ls at hl ⊢
  have hl : lv_has ls 3 [(0, .ref h2), (1, .int 0), (2, .ref h0)] := hl
  refine lv_aload_n hx hb dJ5_putStringAt_47b60_0 rfl (lv_at hl 0 rfl) ?_
  refine lv_aload_n hx hb dJ5_putStringAt_47b60_1 rfl (lv_at hl 2 rfl) ?_
  have hPc := hP.sub (ws' := [(h0, .inr (0, [.ref h1, .int 0, .int 0, .int 0])), (h2, .inr (1, [.ref h3, .int 0, .int 0, .int 0]))]) [0, 2] rfl
  have hDc := hD.sub (ws' := [(h0, .inr (0, [.ref h1, .int 0, .int 0, .int 0])), (h2, .inr (1, [.ref h3, .int 0, .int 0, .int 0]))]) [0, 2] (by decide) rfl
  have hKc := hK.sub (tys' := []) [] rfl
  have hFc := va_free (wc := [(h0, .inr (0, [.ref h1, .int 0, .int 0, .int 0])), (h2, .inr (1, [.ref h3, .int 0, .int 0, .int 0]))]) hD hS hA [0, 2] rfl
  refine va_callv (va_runU (As := [.ref h0]) (rest := []) ⟨hx, hb, hml, hown, hts⟩ (kx_J5_inflateIfNeededFor_a7421_1 l dC dI ge5 gea gv5 gva gde gic gi0 h0 h2 h1 h3 s.heap.size) (va_cwU 1 hts gJ5_putStringAt_47b60_J5_inflateIfNeededFor_a7421_u397J4 rfl rfl rfl rfl (by decide +kernel) ⟨Nat.le_of_ble_eq_true rfl, Nat.le_of_ble_eq_true rfl⟩) ⟨fun a U g mk q => by obtain ⟨q0, q1, qP, qK, qD, qG⟩ := q; exact ⟨q0, q1, qP, va_K.moved (u := U) (U := U.calling g mk a) (Vm.Alike.refl U.vm) qK, qD, gv.fb qG⟩, va_recv hKc hPc (ci := 1) (q0 := 1) rfl rfl, fun U hU hW => ⟨rfl, by rw [hU], by rw [hU]; exact hPc, va_K.moved hW.alike hKc, hDc.weaken (fun _ _ _ _ => trivial), gv.pass hW hU hS hFc hG⟩⟩ rfl rfl hl.1 rfl (lv_room (Nat.le_of_ble_eq_true rfl)) dJ5_putStringAt_47b60_2 ⟨Nat.le_of_ble_eq_true rfl, Nat.le_of_ble_eq_true rfl⟩) hS (fun q _ h => hFc q h) hFc (fun u t H1 locs ht hvm hw hB hz1 hk1 hS => ?_)
  obtain ⟨hP1, hK1, hD1⟩ := hB
  rw [ht] at hP1
  have hK1 := va_K.moved hvm.symm hK1
  obtain ⟨hP, hD⟩ := va_join (wr := [(h1, .inl (k0, 2, .inl f0)), (h3, .inl (k1, 16, .inl (fun _ => 0)))]) (w1 := [(h0, .inr (0, [.ref h1, .int 0, .int 0, .int 0])), (h2, .inr (1, [.ref h3, .int 0, .int 0, .int 0]))]) hP hD [0, 2] [1, 3] rfl rfl (by decide) (by decide) hk1 hFc hP1 hD1
  generalize H1 = H at hP hS ⊢
  have hP : va_P (dC, dI) vwCl [(h1, .inl (k0, 2, .inl f0)), (h3, .inl (k1, 16, .inl (fun _ => 0))), (h0, .inr (0, [.ref h1, .int 0, .int 0, .int 0])), (h2, .inr (1, [.ref h3, .int 0, .int 0, .int 0]))] H := hP
  have hD : va_D A [(h1, .inl (k0, 2, .inl f0)), (h3, .inl (k1, 16, .inl (fun _ => 0))), (h0, .inr (0, [.ref h1, .int 0, .int 0, .int 0])), (h2, .inr (1, [.ref h3, .int 0, .int 0, .int 0]))] := hD
  refine lv_aload_n hx hb dJ5_putStringAt_47b60_5 rfl (lv_at hl 2 rfl) ?_
  refine lv_aload_n hx hb dJ5_putStringAt_47b60_6 rfl (lv_at hl 0 rfl) ?_
  refine va_get (D := (dC, dI)) (ci := 1) (v := .ref h3) (C := RJ4) (T := TJ4) (N := 4) hx hb hts (by decide +kernel) hown hK hP 3 rfl rfl 0 (by decide) (hts (.fieldLink RJ5 15 "java/lang/AbstractStringBuilder" "value" "[B") (by decide +kernel)) (fun _ h9 => h9) rfl dJ5_putStringAt_47b60_7 ?_
  refine lv_iload_n hx hb dJ5_putStringAt_47b60_10 rfl (lv_at hl 1 rfl) ?_
  refine lv_aload_n hx hb dJ5_putStringAt_47b60_11 rfl (lv_at hl 0 rfl) ?_
  refine va_get (D := (dC, dI)) (ci := 1) (v := .int 0) (C := RJ4) (T := TJ4) (N := 4) hx hb hts (by decide +kernel) hown hK hP 3 rfl rfl 1 (by decide) (hts (.fieldLink RJ5 22 "java/lang/AbstractStringBuilder" "coder" "B") (by decide +kernel)) (fun _ h9 => h9) rfl dJ5_putStringAt_47b60_12 ?_
  have hPc := hP.sub (ws' := [(h1, .inl (k0, 2, .inl f0)), (h3, .inl (k1, 16, .inl (fun _ => 0))), (h0, .inr (0, [.ref h1, .int 0, .int 0, .int 0]))]) [0, 1, 2] rfl
  have hDc := hD.sub (ws' := [(h1, .inl (k0, 2, .inl f0)), (h3, .inl (k1, 16, .inl (fun _ => 0))), (h0, .inr (0, [.ref h1, .int 0, .int 0, .int 0]))]) [0, 1, 2] (by decide) rfl
  have hKc := hK.sub (tys' := [(k0, .byte), (k1, .byte)]) [0, 1] rfl
  have hFc := va_free (wc := [(h1, .inl (k0, 2, .inl f0)), (h3, .inl (k1, 16, .inl (fun _ => 0))), (h0, .inr (0, [.ref h1, .int 0, .int 0, .int 0]))]) hD hS hA [0, 1, 2] rfl
  refine va_callv (va_runV (As := [.ref h3, .int 0, .int 0]) (rest := []) ⟨hx, hb, hml, hown, hts⟩ (kx_J0_getBytes_840e7_2 l dC dI ge5 gea gv5 gva gde gic gi0 h1 h3 h0 k0 k1 H.size f0 f0_t) (cwV 3 hts gJ5_putStringAt_47b60_J0_getBytes_840e7 rfl rfl rfl (by decide +kernel) ⟨Nat.le_of_ble_eq_true rfl, Nat.le_of_ble_eq_true rfl⟩) ⟨fun a U g mk q => by obtain ⟨q0, q1, qP, qK, qD, qG⟩ := q; exact ⟨q0, q1, qP, va_K.moved (u := U) (U := U.calling g mk a) (Vm.Alike.refl U.vm) qK, qD, gv.fb qG⟩, va_recv hKc hPc (ci := 0) (q0 := 2) rfl rfl, fun U hU hW => ⟨rfl, by rw [hU], by rw [hU]; exact hPc, va_K.moved hW.alike hKc, hDc.weaken (fun _ _ _ _ => trivial), gv.pass hW hU hS hFc hG⟩⟩ rfl rfl hl.1 rfl (lv_room (Nat.le_of_ble_eq_true rfl)) dJ5_putStringAt_47b60_15 ⟨Nat.le_of_ble_eq_true rfl, Nat.le_of_ble_eq_true rfl⟩) hS (fun q _ h => hFc q h) hFc (fun u t H1 locs ht hvm hw hB hz1 hk1 hS => ?_)
  obtain ⟨f1, f1_t, hP1, hK1, hD1⟩ := hB
  rw [ht] at hP1
  have hK1 := va_K.moved hvm.symm hK1
  obtain ⟨hP, hD⟩ := va_join (wr := [(h2, .inr (1, [.ref h3, .int 0, .int 0, .int 0]))]) (w1 := [(h1, .inl (k0, 2, .inl f0)), (h3, .inl (k1, 16, .inl f1)), (h0, .inr (0, [.ref h1, .int 0, .int 0, .int 0]))]) hP hD [0, 1, 2] [3] rfl rfl (by decide) (by decide) hk1 hFc hP1 hD1
  generalize H1 = H at hP hS ⊢
  have hP : va_P (dC, dI) vwCl [(h2, .inr (1, [.ref h3, .int 0, .int 0, .int 0])), (h1, .inl (k0, 2, .inl f0)), (h3, .inl (k1, 16, .inl f1)), (h0, .inr (0, [.ref h1, .int 0, .int 0, .int 0]))] H := hP
  have hD : va_D A [(h2, .inr (1, [.ref h3, .int 0, .int 0, .int 0])), (h1, .inl (k0, 2, .inl f0)), (h3, .inl (k1, 16, .inl f1)), (h0, .inr (0, [.ref h1, .int 0, .int 0, .int 0]))] := hD
  have hP := hP.sub (ws' := [(h0, .inr (0, [.ref h1, .int 0, .int 0, .int 0])), (h1, .inl (k0, 2, .inl f0)), (h2, .inr (1, [.ref h3, .int 0, .int 0, .int 0])), (h3, .inl (k1, 16, .inl f1))]) [3, 1, 0, 2] rfl
  have hD := hD.sub (ws' := [(h0, .inr (0, [.ref h1, .int 0, .int 0, .int 0])), (h1, .inl (k0, 2, .inl f0)), (h2, .inr (1, [.ref h3, .int 0, .int 0, .int 0])), (h3, .inl (k1, 16, .inl f1))]) [3, 1, 0, 2] (by decide) rfl
  exact W.vret hx hb hr (fun t ht hW => ⟨⟨(), rfl, trivial, f1, f1_t, by rw [ht]; exact hP, va_K.moved hW.alike hK, hD⟩, hS.F ht⟩) hS.2.2 dJ5_putStringAt_47b60_18
set_option maxHeartbeats 4000000 in
set_option maxRecDepth 100000 in
theorem kx_J5_append_cf1ce_2 (l : Launch) (dC : Nat → ClassId) (dI : Nat → Nat → Nat) (ge5 gea gv5 gva gde gic gi0 : Nat) (h0 : Nat) (h1 : Nat) (h2 : Nat) (h3 : Nat) (k0 : ClassId) (k1 : ClassId) (sz : Nat) (f0 : Nat → Int32) (f0_t : sb_Fit f0) : Met l yJ5_append_cf1ce wsJ5_append_cf1ce ({ frames := 3, cells := 0, slots := 0, locals := 105 }) (va_Pc [.ref h2, .ref h0] (fun U => U.heap.size = sz ∧ va_P (dC, dI) vwCl [(h0, .inr (0, [.ref h1, .int 0, .int 0, .int 0])), (h1, .inl (k0, 2, .inl f0)), (h2, .inr (1, [.ref h3, .int 0, .int 0, .int 0])), (h3, .inl (k1, 16, .inl (fun _ => 0)))] U.heap ∧ va_K (dC, dI) vwCl [(k0, .byte), (k1, .byte)] U ∧ va_D (fun _ => True) [(h0, .inr (0, [.ref h1, .int 0, .int 0, .int 0])), (h1, .inl (k0, 2, .inl f0)), (h2, .inr (1, [.ref h3, .int 0, .int 0, .int 0])), (h3, .inl (k1, 16, .inl (fun _ => 0)))] ∧ gv ge5 gea gv5 gva gde gic gi0 (va_A [(h0, .inr (0, [.ref h1, .int 0, .int 0, .int 0])), (h1, .inl (k0, 2, .inl f0)), (h2, .inr (1, [.ref h3, .int 0, .int 0, .int 0])), (h3, .inl (k1, 16, .inl (fun _ => 0)))] sz) U U.heap)) (va_Qr (fun _ : Unit => True) (fun (_ : Unit) (ra : Nat) (t : State) => ∃ f2 : Nat → Int32, sb_Fit f2 ∧ ra = h2 ∧ va_P (dC, dI) vwCl [(h0, .inr (0, [.ref h1, .int 0, .int 0, .int 0])), (h1, .inl (k0, 2, .inl f0)), (h2, .inr (1, [.ref h3, .int 0, .int 0, .int 2])), (h3, .inl (k1, 16, .inl f2))] t.heap ∧ va_K (dC, dI) vwCl [(k0, .byte), (k1, .byte)] t ∧ va_D (va_A [(h0, .inr (0, [.ref h1, .int 0, .int 0, .int 0])), (h1, .inl (k0, 2, .inl f0)), (h2, .inr (1, [.ref h3, .int 0, .int 0, .int 0])), (h3, .inl (k1, 16, .inl (fun _ => 0)))] sz) [(h0, .inr (0, [.ref h1, .int 0, .int 0, .int 0])), (h1, .inl (k0, 2, .inl f0)), (h2, .inr (1, [.ref h3, .int 0, .int 0, .int 2])), (h3, .inl (k1, 16, .inl f2))]) (va_A [(h0, .inr (0, [.ref h1, .int 0, .int 0, .int 0])), (h1, .inl (k0, 2, .inl f0)), (h2, .inr (1, [.ref h3, .int 0, .int 0, .int 0])), (h3, .inl (k1, 16, .inl (fun _ => 0)))] sz)) 0 0 (va_A [(h0, .inr (0, [.ref h1, .int 0, .int 0, .int 0])), (h1, .inl (k0, 2, .inl f0)), (h2, .inr (1, [.ref h3, .int 0, .int 0, .int 0])), (h3, .inl (k1, 16, .inl (fun _ => 0)))] sz) := by
  refine Met.ofW (cc := cJ5_append_cf1ce) (maxL := 3) (ret := (some (.object "java/lang/AbstractStringBuilder"))) (by decide) rfl ?_
  intro p e s m args below meth c s₁ B hml hv
  obtain ⟨rfl, hsz, hP, hK, hD0, hG⟩ := hv
  have hx := B.exec
  have hb := B.bytes
  have hr := B.returns
  have hts := atoms_spec (ws := wsJ5_append_cf1ce) B.pre
  have hown : s.vm.findClass RJ5 = some m.cls := findClass_of_methodNamed B.named
  have hlocks := B.notSynchronized
  subst hsz
  have hD := hD0.self (sz := s.heap.size)
  generalize hAe : va_A [(h0, .inr (0, [.ref h1, .int 0, .int 0, .int 0])), (h1, .inl (k0, 2, .inl f0)), (h2, .inr (1, [.ref h3, .int 0, .int 0, .int 0])), (h3, .inl (k1, 16, .inl (fun _ => 0)))] s.heap.size = A at hD hG ⊢
  obtain ⟨⟨g_AO_Text, g_AO_String, g_AO_Object, g_nm_RX1_20, g_nm_RX0_17, g_nm_RX3_31, g_nm_RX2_44, g_nm_RL_121, g_nf_RL_13, g_nf_RL_47, g_ca_IO, g_ca_IA, g_ca_IS, g_ca_IntObj, g_ca_StrObj, g_de_RT, g_de_EX, g_de_TH, g_nc_IA_IO, g_nc_IS_IO, g_nc_IS_IA⟩, ⟨g_s3, g_s5, g_sa, g_x278, g_x280, g_x282, g_x284, g_x286, g_x180, g_x238, g_x250⟩, ⟨g_o5, g_c5, g_v5, g_t5, g_oa, g_ca, g_va, g_ta, g_zc, g_zd, g_td, g_zf, g_zU, g_zN, g_zh, g_zk, g_tk, g_oi, g_vi⟩⟩ := id hG
  have hA : ∀ q : Nat, s.heap.size ≤ q → A q := fun q h => by rw [← hAe]; exact Or.inr h
  have hS : va_S A s.heap s.heap [] := va_S.rf
  have hP : va_P (dC, dI) vwCl [(h0, .inr (0, [.ref h1, .int 0, .int 0, .int 0])), (h1, .inl (k0, 2, .inl f0)), (h2, .inr (1, [.ref h3, .int 0, .int 0, .int 0])), (h3, .inl (k1, 16, .inl (fun _ => 0)))] s.heap := hP
  have hl := lv_entry ([.ref h2, .ref h0]) (n := 3) (Nat.le_of_ble_eq_true rfl)
  rw [lg_entry_eq]
  generalize (lg_sl ([.ref h2, .ref h0]) ++ List.replicate (3 - (lg_sl ([.ref h2, .ref h0])).length) Slot.unset).toArray = ls at hl ⊢
  have hl : lv_has ls 3 [(0, .ref h2), (1, .ref h0)] := hl
  refine lv_aload_n hx hb dJ5_append_cf1ce_0 rfl (lv_at hl 1 rfl) ?_
  refine lv_ifnonnull (tgt := 9) hx hb dJ5_append_cf1ce_1 (by decide) ?_
  refine lv_aload_n hx hb dJ5_append_cf1ce_9 rfl (lv_at hl 1 rfl) ?_
  have hPc := hP.sub (ws' := [(h0, .inr (0, [.ref h1, .int 0, .int 0, .int 0])), (h1, .inl (k0, 2, .inl f0))]) [0, 1] rfl
  have hDc := hD.sub (ws' := [(h0, .inr (0, [.ref h1, .int 0, .int 0, .int 0])), (h1, .inl (k0, 2, .inl f0))]) [0, 1] (by decide) rfl
  have hKc := hK.sub (tys' := [(k0, .byte)]) [0] rfl
  have hFc := va_free (wc := [(h0, .inr (0, [.ref h1, .int 0, .int 0, .int 0])), (h1, .inl (k0, 2, .inl f0))]) hD hS hA [0, 1] rfl
  refine va_calli (va_runV (As := []) (rest := []) ⟨hx, hb, hml, hown, hts⟩ (kx_J0_length_8abf5_3 l dC dI ge5 gea gv5 gva gde gic gi0 h0 h1 k0 s.heap.size f0 f0_t) (cwV 0 hts gJ5_append_cf1ce_J0_length_8abf5 rfl rfl rfl (by decide +kernel) ⟨Nat.le_of_ble_eq_true rfl, Nat.le_of_ble_eq_true rfl⟩) ⟨fun a U g mk q => by obtain ⟨q0, q1, qP, qK, qD, qG⟩ := q; exact ⟨q0, q1, qP, va_K.moved (u := U) (U := U.calling g mk a) (Vm.Alike.refl U.vm) qK, qD, gv.fb qG⟩, va_recv hKc hPc (ci := 0) (q0 := 0) rfl rfl, fun U hU hW => ⟨rfl, by rw [hU], by rw [hU]; exact hPc, va_K.moved hW.alike hKc, hDc.weaken (fun _ _ _ _ => trivial), gv.pass hW hU hS hFc hG⟩⟩ rfl rfl hl.1 rfl (lv_room (Nat.le_of_ble_eq_true rfl)) dJ5_append_cf1ce_10 ⟨Nat.le_of_ble_eq_true rfl, Nat.le_of_ble_eq_true rfl⟩) hS (fun q _ h => hFc q h) hFc (fun r9 u t H1 locs ht hvm hw hB hz1 hk1 hS => ?_)
  obtain rfl := hw
  obtain ⟨hP1, hK1, hD1⟩ := hB
  rw [ht] at hP1
  have hK1 := va_K.moved hvm.symm hK1
  obtain ⟨hP, hD⟩ := va_join (wr := [(h2, .inr (1, [.ref h3, .int 0, .int 0, .int 0])), (h3, .inl (k1, 16, .inl (fun _ => 0)))]) (w1 := [(h0, .inr (0, [.ref h1, .int 0, .int 0, .int 0])), (h1, .inl (k0, 2, .inl f0))]) hP hD [0, 1] [2, 3] rfl rfl (by decide) (by decide) hk1 hFc hP1 hD1
  generalize H1 = H at hP hS ⊢
  have hP : va_P (dC, dI) vwCl [(h2, .inr (1, [.ref h3, .int 0, .int 0, .int 0])), (h3, .inl (k1, 16, .inl (fun _ => 0))), (h0, .inr (0, [.ref h1, .int 0, .int 0, .int 0])), (h1, .inl (k0, 2, .inl f0))] H := hP
  have hD : va_D A [(h2, .inr (1, [.ref h3, .int 0, .int 0, .int 0])), (h3, .inl (k1, 16, .inl (fun _ => 0))), (h0, .inr (0, [.ref h1, .int 0, .int 0, .int 0])), (h1, .inl (k0, 2, .inl f0))] := hD
  refine lv_istore_n (lv' := [(2, .int 2), (0, .ref h2), (1, .ref h0)]) hx hb dJ5_append_cf1ce_13 rfl hl (by decide) rfl (fun ls hl => ?_)
  refine lv_aload_n hx hb dJ5_append_cf1ce_14 rfl (lv_at hl 1 rfl) ?_
  refine lv_aload_n hx hb dJ5_append_cf1ce_15 rfl (lv_at hl 1 rfl) ?_
  refine va_get (D := (dC, dI)) (ci := 1) (v := .int 0) (C := RJ4) (T := TJ4) (N := 4) hx hb hts (by decide +kernel) hown hK hP 0 rfl rfl 3 (by decide) (hts (.fieldLink RJ5 79 "java/lang/AbstractStringBuilder" "count" "I") (by decide +kernel)) (fun _ h9 => h9) rfl dJ5_append_cf1ce_16 ?_
  refine lv_iload_n hx hb dJ5_append_cf1ce_19 rfl (lv_at hl 0 rfl) ?_
  refine lv_iadd hx hb dJ5_append_cf1ce_20 ?_
  refine lv_topi (fun y1 ey1 => ?_)
  obtain rfl : y1 = 2 := ey1.trans (by decide)
  have hPc := hP.sub (ws' := [(h2, .inr (1, [.ref h3, .int 0, .int 0, .int 0])), (h3, .inl (k1, 16, .inl (fun _ => 0)))]) [0, 1] rfl
  have hDc := hD.sub (ws' := [(h2, .inr (1, [.ref h3, .int 0, .int 0, .int 0])), (h3, .inl (k1, 16, .inl (fun _ => 0)))]) [0, 1] (by decide) rfl
  have hKc := hK.sub (tys' := [(k1, .byte)]) [1] rfl
  have hFc := va_free (wc := [(h2, .inr (1, [.ref h3, .int 0, .int 0, .int 0])), (h3, .inl (k1, 16, .inl (fun _ => 0)))]) hD hS hA [0, 1] rfl
  refine va_callv (va_runU (As := [.int 2]) (rest := []) ⟨hx, hb, hml, hown, hts⟩ (kx_J5_ensureCapacityInternal_d00df_2 l dC dI h2 h3 k1 H.size) (va_cwU 1 hts gJ5_append_cf1ce_J5_ensureCapacityInternal_d00df_u100J4 rfl rfl rfl rfl (by decide +kernel) ⟨Nat.le_of_ble_eq_true rfl, Nat.le_of_ble_eq_true rfl⟩) ⟨fun a U g mk q => by obtain ⟨q0, q1, qP, qK, qD⟩ := q; exact ⟨q0, q1, qP, va_K.moved (u := U) (U := U.calling g mk a) (Vm.Alike.refl U.vm) qK, qD⟩, va_recv hKc hPc (ci := 1) (q0 := 0) rfl rfl, fun U hU hW => ⟨rfl, by rw [hU], by rw [hU]; exact hPc, va_K.moved hW.alike hKc, hDc.weaken (fun _ _ _ _ => trivial)⟩⟩ rfl rfl hl.1 rfl (lv_room (Nat.le_of_ble_eq_true rfl)) dJ5_append_cf1ce_21 ⟨Nat.le_of_ble_eq_true rfl, Nat.le_of_ble_eq_true rfl⟩) hS (fun q _ h => hFc q h) hFc (fun u t H1 locs ht hvm hw hB hz1 hk1 hS => ?_)
  obtain ⟨hP1, hK1, hD1⟩ := hB
  rw [ht] at hP1
  have hK1 := va_K.moved hvm.symm hK1
  obtain ⟨hP, hD⟩ := va_join (wr := [(h0, .inr (0, [.ref h1, .int 0, .int 0, .int 0])), (h1, .inl (k0, 2, .inl f0))]) (w1 := [(h2, .inr (1, [.ref h3, .int 0, .int 0, .int 0])), (h3, .inl (k1, 16, .inl (fun _ => 0)))]) hP hD [0, 1] [2, 3] rfl rfl (by decide) (by decide) hk1 hFc hP1 hD1
  generalize H1 = H at hP hS ⊢
  have hP : va_P (dC, dI) vwCl [(h0, .inr (0, [.ref h1, .int 0, .int 0, .int 0])), (h1, .inl (k0, 2, .inl f0)), (h2, .inr (1, [.ref h3, .int 0, .int 0, .int 0])), (h3, .inl (k1, 16, .inl (fun _ => 0)))] H := hP
  have hD : va_D A [(h0, .inr (0, [.ref h1, .int 0, .int 0, .int 0])), (h1, .inl (k0, 2, .inl f0)), (h2, .inr (1, [.ref h3, .int 0, .int 0, .int 0])), (h3, .inl (k1, 16, .inl (fun _ => 0)))] := hD
  refine lv_aload_n hx hb dJ5_append_cf1ce_24 rfl (lv_at hl 1 rfl) ?_
  refine lv_aload_n hx hb dJ5_append_cf1ce_25 rfl (lv_at hl 1 rfl) ?_
  refine va_get (D := (dC, dI)) (ci := 1) (v := .int 0) (C := RJ4) (T := TJ4) (N := 4) hx hb hts (by decide +kernel) hown hK hP 2 rfl rfl 3 (by decide) (hts (.fieldLink RJ5 79 "java/lang/AbstractStringBuilder" "count" "I") (by decide +kernel)) (fun _ h9 => h9) rfl dJ5_append_cf1ce_26 ?_
  refine lv_aload_n hx hb dJ5_append_cf1ce_29 rfl (lv_at hl 2 rfl) ?_
  have hPc := hP.sub (ws' := [(h0, .inr (0, [.ref h1, .int 0, .int 0, .int 0])), (h1, .inl (k0, 2, .inl f0)), (h2, .inr (1, [.ref h3, .int 0, .int 0, .int 0])), (h3, .inl (k1, 16, .inl (fun _ => 0)))]) [0, 1, 2, 3] rfl
  have hDc := hD.sub (ws' := [(h0, .inr (0, [.ref h1, .int 0, .int 0, .int 0])), (h1, .inl (k0, 2, .inl f0)), (h2, .inr (1, [.ref h3, .int 0, .int 0, .int 0])), (h3, .inl (k1, 16, .inl (fun _ => 0)))]) [0, 1, 2, 3] (by decide) rfl
  have hKc := hK.sub (tys' := [(k0, .byte), (k1, .byte)]) [0, 1] rfl
  have hFc := va_free (wc := [(h0, .inr (0, [.ref h1, .int 0, .int 0, .int 0])), (h1, .inl (k0, 2, .inl f0)), (h2, .inr (1, [.ref h3, .int 0, .int 0, .int 0])), (h3, .inl (k1, 16, .inl (fun _ => 0)))]) hD hS hA [0, 1, 2, 3] rfl
  refine va_callv (va_runU (As := [.int 0, .ref h0]) (rest := []) ⟨hx, hb, hml, hown, hts⟩ (kx_J5_putStringAt_47b60_2 l dC dI ge5 gea gv5 gva gde gic gi0 h0 h1 h2 h3 k0 k1 H.size f0 f0_t) (va_cwU 2 hts gJ5_append_cf1ce_J5_putStringAt_47b60_u208J4 rfl rfl rfl rfl (by decide +kernel) ⟨Nat.le_of_ble_eq_true rfl, Nat.le_of_ble_eq_true rfl⟩) ⟨fun a U g mk q => by obtain ⟨q0, q1, qP, qK, qD, qG⟩ := q; exact ⟨q0, q1, qP, va_K.moved (u := U) (U := U.calling g mk a) (Vm.Alike.refl U.vm) qK, qD, gv.fb qG⟩, va_recv hKc hPc (ci := 1) (q0 := 2) rfl rfl, fun U hU hW => ⟨rfl, by rw [hU], by rw [hU]; exact hPc, va_K.moved hW.alike hKc, hDc.weaken (fun _ _ _ _ => trivial), gv.pass hW hU hS hFc hG⟩⟩ rfl rfl hl.1 rfl (lv_room (Nat.le_of_ble_eq_true rfl)) dJ5_append_cf1ce_30 ⟨Nat.le_of_ble_eq_true rfl, Nat.le_of_ble_eq_true rfl⟩) hS (fun q _ h => hFc q h) hFc (fun u t H1 locs ht hvm hw hB hz1 hk1 hS => ?_)
  obtain ⟨f2, f2_t, hP1, hK1, hD1⟩ := hB
  rw [ht] at hP1
  have hK1 := va_K.moved hvm.symm hK1
  obtain ⟨hP, hD⟩ := va_join (wr := []) (w1 := [(h0, .inr (0, [.ref h1, .int 0, .int 0, .int 0])), (h1, .inl (k0, 2, .inl f0)), (h2, .inr (1, [.ref h3, .int 0, .int 0, .int 0])), (h3, .inl (k1, 16, .inl f2))]) hP hD [0, 1, 2, 3] [] rfl rfl (by decide) (by decide) hk1 hFc hP1 hD1
  generalize H1 = H at hP hS ⊢
  have hP : va_P (dC, dI) vwCl [(h0, .inr (0, [.ref h1, .int 0, .int 0, .int 0])), (h1, .inl (k0, 2, .inl f0)), (h2, .inr (1, [.ref h3, .int 0, .int 0, .int 0])), (h3, .inl (k1, 16, .inl f2))] H := hP
  have hD : va_D A [(h0, .inr (0, [.ref h1, .int 0, .int 0, .int 0])), (h1, .inl (k0, 2, .inl f0)), (h2, .inr (1, [.ref h3, .int 0, .int 0, .int 0])), (h3, .inl (k1, 16, .inl f2))] := hD
  refine lv_aload_n hx hb dJ5_append_cf1ce_33 rfl (lv_at hl 1 rfl) ?_
  refine lv_dup hx hb dJ5_append_cf1ce_34 rfl ?_
  refine va_get (D := (dC, dI)) (ci := 1) (v := .int 0) (C := RJ4) (T := TJ4) (N := 4) hx hb hts (by decide +kernel) hown hK hP 2 rfl rfl 3 (by decide) (hts (.fieldLink RJ5 79 "java/lang/AbstractStringBuilder" "count" "I") (by decide +kernel)) (fun _ h9 => h9) rfl dJ5_append_cf1ce_35 ?_
  refine lv_iload_n hx hb dJ5_append_cf1ce_38 rfl (lv_at hl 0 rfl) ?_
  refine lv_iadd hx hb dJ5_append_cf1ce_39 ?_
  refine lv_topi (fun y3 ey3 => ?_)
  obtain rfl : y3 = 2 := ey3.trans (by decide)
  refine va_put (D := (dC, dI)) (ci := 1) (v := .int 2) (ty := .int) (C := RJ4) (T := TJ4) (N := 4) hx hb hts (by decide +kernel) tyJ4 tyJ4_ok nmJ4 hown hK hP hD hS 2 rfl rfl 3 (by decide) (hts (.fieldLink RJ5 79 "java/lang/AbstractStringBuilder" "count" "I") (by decide +kernel)) (fun _ h9 => h9) rfl (by decide +kernel) rfl rfl (Nat.le_of_ble_eq_true rfl) dJ5_append_cf1ce_40 (fun H locs hP hD hS => ?_)
  have hP : va_P (dC, dI) vwCl [(h0, .inr (0, [.ref h1, .int 0, .int 0, .int 0])), (h1, .inl (k0, 2, .inl f0)), (h2, .inr (1, [.ref h3, .int 0, .int 0, .int 2])), (h3, .inl (k1, 16, .inl f2))] H := hP
  have hD : va_D A [(h0, .inr (0, [.ref h1, .int 0, .int 0, .int 0])), (h1, .inl (k0, 2, .inl f0)), (h2, .inr (1, [.ref h3, .int 0, .int 0, .int 2])), (h3, .inl (k1, 16, .inl f2))] := hD
  refine lv_aload_n hx hb dJ5_append_cf1ce_43 rfl (lv_at hl 1 rfl) ?_
  exact W.aret (v := .ref h2) hx hb hr (Or.inl ⟨_, rfl⟩) (Or.inr ⟨_, rfl⟩) (fun t ht hW => ⟨⟨(), h2, rfl, trivial, f2, f2_t, rfl, by rw [ht]; exact hP, va_K.moved hW.alike hK, hD⟩, hS.F ht⟩) hS.2.2 dJ5_append_cf1ce_44
set_option maxHeartbeats 4000000 in
set_option maxRecDepth 100000 in
theorem kx_J4_append_15ec4_2 (l : Launch) (dC : Nat → ClassId) (dI : Nat → Nat → Nat) (ge5 gea gv5 gva gde gic gi0 : Nat) (h0 : Nat) (h1 : Nat) (h2 : Nat) (h3 : Nat) (k0 : ClassId) (k1 : ClassId) (sz : Nat) (f0 : Nat → Int32) (f0_t : sb_Fit f0) : Met l yJ4_append_15ec4 wsJ4_append_15ec4 ({ frames := 4, cells := 0, slots := 0, locals := 127 }) (va_Pc [.ref h2, .ref h0] (fun U => U.heap.size = sz ∧ va_P (dC, dI) vwCl [(h0, .inr (0, [.ref h1, .int 0, .int 0, .int 0])), (h1, .inl (k0, 2, .inl f0)), (h2, .inr (1, [.ref h3, .int 0, .int 0, .int 0])), (h3, .inl (k1, 16, .inl (fun _ => 0)))] U.heap ∧ va_K (dC, dI) vwCl [(k0, .byte), (k1, .byte)] U ∧ va_D (fun _ => True) [(h0, .inr (0, [.ref h1, .int 0, .int 0, .int 0])), (h1, .inl (k0, 2, .inl f0)), (h2, .inr (1, [.ref h3, .int 0, .int 0, .int 0])), (h3, .inl (k1, 16, .inl (fun _ => 0)))] ∧ gv ge5 gea gv5 gva gde gic gi0 (va_A [(h0, .inr (0, [.ref h1, .int 0, .int 0, .int 0])), (h1, .inl (k0, 2, .inl f0)), (h2, .inr (1, [.ref h3, .int 0, .int 0, .int 0])), (h3, .inl (k1, 16, .inl (fun _ => 0)))] sz) U U.heap)) (va_Qr (fun _ : Unit => True) (fun (_ : Unit) (ra : Nat) (t : State) => ∃ f1 : Nat → Int32, sb_Fit f1 ∧ ra = h2 ∧ va_P (dC, dI) vwCl [(h0, .inr (0, [.ref h1, .int 0, .int 0, .int 0])), (h1, .inl (k0, 2, .inl f0)), (h2, .inr (1, [.ref h3, .int 0, .int 0, .int 2])), (h3, .inl (k1, 16, .inl f1))] t.heap ∧ va_K (dC, dI) vwCl [(k0, .byte), (k1, .byte)] t ∧ va_D (va_A [(h0, .inr (0, [.ref h1, .int 0, .int 0, .int 0])), (h1, .inl (k0, 2, .inl f0)), (h2, .inr (1, [.ref h3, .int 0, .int 0, .int 0])), (h3, .inl (k1, 16, .inl (fun _ => 0)))] sz) [(h0, .inr (0, [.ref h1, .int 0, .int 0, .int 0])), (h1, .inl (k0, 2, .inl f0)), (h2, .inr (1, [.ref h3, .int 0, .int 0, .int 2])), (h3, .inl (k1, 16, .inl f1))]) (va_A [(h0, .inr (0, [.ref h1, .int 0, .int 0, .int 0])), (h1, .inl (k0, 2, .inl f0)), (h2, .inr (1, [.ref h3, .int 0, .int 0, .int 0])), (h3, .inl (k1, 16, .inl (fun _ => 0)))] sz)) 0 0 (va_A [(h0, .inr (0, [.ref h1, .int 0, .int 0, .int 0])), (h1, .inl (k0, 2, .inl f0)), (h2, .inr (1, [.ref h3, .int 0, .int 0, .int 0])), (h3, .inl (k1, 16, .inl (fun _ => 0)))] sz) := by
  refine Met.ofW (cc := cJ4_append_15ec4) (maxL := 2) (ret := (some (.object "java/lang/StringBuilder"))) (by decide) rfl ?_
  intro p e s m args below meth c s₁ B hml hv
  obtain ⟨rfl, hsz, hP, hK, hD0, hG⟩ := hv
  have hx := B.exec
  have hb := B.bytes
  have hr := B.returns
  have hts := atoms_spec (ws := wsJ4_append_15ec4) B.pre
  have hown : s.vm.findClass RJ4 = some m.cls := findClass_of_methodNamed B.named
  have hlocks := B.notSynchronized
  subst hsz
  have hD := hD0.self (sz := s.heap.size)
  generalize hAe : va_A [(h0, .inr (0, [.ref h1, .int 0, .int 0, .int 0])), (h1, .inl (k0, 2, .inl f0)), (h2, .inr (1, [.ref h3, .int 0, .int 0, .int 0])), (h3, .inl (k1, 16, .inl (fun _ => 0)))] s.heap.size = A at hD hG ⊢
  obtain ⟨⟨g_AO_Text, g_AO_String, g_AO_Object, g_nm_RX1_20, g_nm_RX0_17, g_nm_RX3_31, g_nm_RX2_44, g_nm_RL_121, g_nf_RL_13, g_nf_RL_47, g_ca_IO, g_ca_IA, g_ca_IS, g_ca_IntObj, g_ca_StrObj, g_de_RT, g_de_EX, g_de_TH, g_nc_IA_IO, g_nc_IS_IO, g_nc_IS_IA⟩, ⟨g_s3, g_s5, g_sa, g_x278, g_x280, g_x282, g_x284, g_x286, g_x180, g_x238, g_x250⟩, ⟨g_o5, g_c5, g_v5, g_t5, g_oa, g_ca, g_va, g_ta, g_zc, g_zd, g_td, g_zf, g_zU, g_zN, g_zh, g_zk, g_tk, g_oi, g_vi⟩⟩ := id hG
  have hA : ∀ q : Nat, s.heap.size ≤ q → A q := fun q h => by rw [← hAe]; exact Or.inr h
  have hS : va_S A s.heap s.heap [] := va_S.rf
  have hP : va_P (dC, dI) vwCl [(h0, .inr (0, [.ref h1, .int 0, .int 0, .int 0])), (h1, .inl (k0, 2, .inl f0)), (h2, .inr (1, [.ref h3, .int 0, .int 0, .int 0])), (h3, .inl (k1, 16, .inl (fun _ => 0)))] s.heap := hP
  have hl := lv_entry ([.ref h2, .ref h0]) (n := 2) (Nat.le_of_ble_eq_true rfl)
  rw [lg_entry_eq]
  generalize (lg_sl ([.ref h2, .ref h0]) ++ List.replicate (2 - (lg_sl ([.ref h2, .ref h0])).length) Slot.unset).toArray = ls at hl ⊢
  have hl : lv_has ls 2 [(0, .ref h2), (1, .ref h0)] := hl
  refine lv_aload_n hx hb dJ4_append_15ec4_0 rfl (lv_at hl 0 rfl) ?_
  refine lv_aload_n hx hb dJ4_append_15ec4_1 rfl (lv_at hl 1 rfl) ?_
  have hPc := hP.sub (ws' := [(h0, .inr (0, [.ref h1, .int 0, .int 0, .int 0])), (h1, .inl (k0, 2, .inl f0)), (h2, .inr (1, [.ref h3, .int 0, .int 0, .int 0])), (h3, .inl (k1, 16, .inl (fun _ => 0)))]) [0, 1, 2, 3] rfl
  have hDc := hD.sub (ws' := [(h0, .inr (0, [.ref h1, .int 0, .int 0, .int 0])), (h1, .inl (k0, 2, .inl f0)), (h2, .inr (1, [.ref h3, .int 0, .int 0, .int 0])), (h3, .inl (k1, 16, .inl (fun _ => 0)))]) [0, 1, 2, 3] (by decide) rfl
  have hKc := hK.sub (tys' := [(k0, .byte), (k1, .byte)]) [0, 1] rfl
  have hFc := va_free (wc := [(h0, .inr (0, [.ref h1, .int 0, .int 0, .int 0])), (h1, .inl (k0, 2, .inl f0)), (h2, .inr (1, [.ref h3, .int 0, .int 0, .int 0])), (h3, .inl (k1, 16, .inl (fun _ => 0)))]) hD hS hA [0, 1, 2, 3] rfl
  refine va_callr (va_runSU (hK.1 1 _ rfl).2 (As := [.ref h0]) (rest := []) ⟨hx, hb, hml, hown, hts⟩ (kx_J5_append_cf1ce_2 l dC dI ge5 gea gv5 gva gde gic gi0 h0 h1 h2 h3 k0 k1 s.heap.size f0 f0_t) (va_cwSU 1 hts gJ4_append_15ec4_J5_append_cf1ce_s29 rfl rfl rfl (by decide +kernel) ⟨Nat.le_of_ble_eq_true rfl, Nat.le_of_ble_eq_true rfl⟩) ⟨fun a U g mk q => by obtain ⟨q0, q1, qP, qK, qD, qG⟩ := q; exact ⟨q0, q1, qP, va_K.moved (u := U) (U := U.calling g mk a) (Vm.Alike.refl U.vm) qK, qD, gv.fb qG⟩, va_recv hKc hPc (ci := 1) (q0 := 2) rfl rfl, fun U hU hW => ⟨rfl, by rw [hU], by rw [hU]; exact hPc, va_K.moved hW.alike hKc, hDc.weaken (fun _ _ _ _ => trivial), gv.pass hW hU hS hFc hG⟩⟩ rfl rfl hl.1 rfl (lv_room (Nat.le_of_ble_eq_true rfl)) dJ4_append_15ec4_2 ⟨Nat.le_of_ble_eq_true rfl, Nat.le_of_ble_eq_true rfl⟩) hS (fun q _ h => hFc q h) hFc (fun u ra t H1 locs ht hvm hw hB hz1 hk1 hS => ?_)
  obtain ⟨f1, f1_t, hra, hP1, hK1, hD1⟩ := hB
  rw [hra]
  rw [ht] at hP1
  have hK1 := va_K.moved hvm.symm hK1
  obtain ⟨hP, hD⟩ := va_join (wr := []) (w1 := [(h0, .inr (0, [.ref h1, .int 0, .int 0, .int 0])), (h1, .inl (k0, 2, .inl f0)), (h2, .inr (1, [.ref h3, .int 0, .int 0, .int 2])), (h3, .inl (k1, 16, .inl f1))]) hP hD [0, 1, 2, 3] [] rfl rfl (by decide) (by decide) hk1 hFc hP1 hD1
  generalize H1 = H at hP hS ⊢
  have hP : va_P (dC, dI) vwCl [(h0, .inr (0, [.ref h1, .int 0, .int 0, .int 0])), (h1, .inl (k0, 2, .inl f0)), (h2, .inr (1, [.ref h3, .int 0, .int 0, .int 2])), (h3, .inl (k1, 16, .inl f1))] H := hP
  have hD : va_D A [(h0, .inr (0, [.ref h1, .int 0, .int 0, .int 0])), (h1, .inl (k0, 2, .inl f0)), (h2, .inr (1, [.ref h3, .int 0, .int 0, .int 2])), (h3, .inl (k1, 16, .inl f1))] := hD
  refine lv_pop hx hb dJ4_append_15ec4_5 rfl ?_
  refine lv_aload_n hx hb dJ4_append_15ec4_6 rfl (lv_at hl 0 rfl) ?_
  exact W.aret (v := .ref h2) hx hb hr (Or.inl ⟨_, rfl⟩) (Or.inr ⟨_, rfl⟩) (fun t ht hW => ⟨⟨(), h2, rfl, trivial, f1, f1_t, rfl, by rw [ht]; exact hP, va_K.moved hW.alike hK, hD⟩, hS.F ht⟩) hS.2.2 dJ4_append_15ec4_7
set_option maxHeartbeats 4000000 in
set_option maxRecDepth 100000 in
theorem kx_J5_getValue_6d5f1_2 (l : Launch) (dC : Nat → ClassId) (dI : Nat → Nat → Nat) (h0 : Nat) (z0 : Nat) (sz : Nat) : Met l yJ5_getValue_6d5f1 wsJ5_getValue_6d5f1 ({ frames := 0, cells := 0, slots := 0, locals := 0 }) (va_Pc [.ref h0] (fun U => U.heap.size = sz ∧ va_P (dC, dI) vwCl [(h0, .inr (1, [.ref z0, .int 0, .int 0, .int 2]))] U.heap ∧ va_K (dC, dI) vwCl [] U ∧ va_D (fun _ => True) [(h0, .inr (1, [.ref z0, .int 0, .int 0, .int 2]))])) (va_Qr (fun _ : Unit => True) (fun (_ : Unit) (ra : Nat) (t : State) => ra = z0 ∧ va_P (dC, dI) vwCl [(h0, .inr (1, [.ref z0, .int 0, .int 0, .int 2]))] t.heap ∧ va_K (dC, dI) vwCl [] t ∧ va_D (va_A [(h0, .inr (1, [.ref z0, .int 0, .int 0, .int 2]))] sz) [(h0, .inr (1, [.ref z0, .int 0, .int 0, .int 2]))]) (va_A [(h0, .inr (1, [.ref z0, .int 0, .int 0, .int 2]))] sz)) 0 0 (va_A [(h0, .inr (1, [.ref z0, .int 0, .int 0, .int 2]))] sz) := by
  refine Met.ofW (cc := cJ5_getValue_6d5f1) (maxL := 1) (ret := (some (.array .byte))) (by decide) rfl ?_
  intro p e s m args below meth c s₁ B hml hv
  obtain ⟨rfl, hsz, hP, hK, hD0⟩ := hv
  have hx := B.exec
  have hb := B.bytes
  have hr := B.returns
  have hts := atoms_spec (ws := wsJ5_getValue_6d5f1) B.pre
  have hown : s.vm.findClass RJ5 = some m.cls := findClass_of_methodNamed B.named
  have hlocks := B.notSynchronized
  subst hsz
  have hD := hD0.self (sz := s.heap.size)
  generalize hAe : va_A [(h0, .inr (1, [.ref z0, .int 0, .int 0, .int 2]))] s.heap.size = A at hD ⊢
  have hA : ∀ q : Nat, s.heap.size ≤ q → A q := fun q h => by rw [← hAe]; exact Or.inr h
  have hS : va_S A s.heap s.heap [] := va_S.rf
  have hP : va_P (dC, dI) vwCl [(h0, .inr (1, [.ref z0, .int 0, .int 0, .int 2]))] s.heap := hP
  have hl := lv_entry ([.ref h0]) (n := 1) (Nat.le_of_ble_eq_true rfl)
  rw [lg_entry_eq]
  generalize (lg_sl ([.ref h0]) ++ List.replicate (1 - (lg_sl ([.ref h0])).length) Slot.unset).toArray = ls at hl ⊢
  have hl : lv_has ls 1 [(0, .ref h0)] := hl
  refine lv_aload_n hx hb dJ5_getValue_6d5f1_0 rfl (lv_at hl 0 rfl) ?_
  refine va_get (D := (dC, dI)) (ci := 1) (v := .ref z0) (C := RJ4) (T := TJ4) (N := 4) hx hb hts (by decide +kernel) hown hK hP 0 rfl rfl 0 (by decide) (hts (.fieldLink RJ5 15 "java/lang/AbstractStringBuilder" "value" "[B") (by decide +kernel)) (fun _ h9 => h9) rfl dJ5_getValue_6d5f1_1 ?_
  exact W.aret (v := .ref z0) hx hb hr (Or.inr ⟨_, rfl⟩) (Or.inr ⟨_, rfl⟩) (fun t ht hW => ⟨⟨(), z0, rfl, trivial, rfl, by rw [ht]; exact hP, va_K.moved hW.alike hK, hD⟩, hS.F ht⟩) hS.2.2 dJ5_getValue_6d5f1_4
set_option maxHeartbeats 4000000 in
set_option maxRecDepth 100000 in
theorem kx_J5_length_8abf5_2 (l : Launch) (dC : Nat → ClassId) (dI : Nat → Nat → Nat) (h0 : Nat) (z0 : Nat) (sz : Nat) : Met l yJ5_length_8abf5 wsJ5_length_8abf5 ({ frames := 0, cells := 0, slots := 0, locals := 0 }) (va_Pc [.ref h0] (fun U => U.heap.size = sz ∧ va_P (dC, dI) vwCl [(h0, .inr (1, [.ref z0, .int 0, .int 0, .int 2]))] U.heap ∧ va_K (dC, dI) vwCl [] U ∧ va_D (fun _ => True) [(h0, .inr (1, [.ref z0, .int 0, .int 0, .int 2]))])) (va_Qi (fun (r : Int32) (_ : Unit) => r = 2) (fun (_ : Unit) (t : State) => va_P (dC, dI) vwCl [(h0, .inr (1, [.ref z0, .int 0, .int 0, .int 2]))] t.heap ∧ va_K (dC, dI) vwCl [] t ∧ va_D (va_A [(h0, .inr (1, [.ref z0, .int 0, .int 0, .int 2]))] sz) [(h0, .inr (1, [.ref z0, .int 0, .int 0, .int 2]))]) (va_A [(h0, .inr (1, [.ref z0, .int 0, .int 0, .int 2]))] sz)) 0 0 (va_A [(h0, .inr (1, [.ref z0, .int 0, .int 0, .int 2]))] sz) := by
  refine Met.ofW (cc := cJ5_length_8abf5) (maxL := 1) (ret := (some .int)) (by decide) rfl ?_
  intro p e s m args below meth c s₁ B hml hv
  obtain ⟨rfl, hsz, hP, hK, hD0⟩ := hv
  have hx := B.exec
  have hb := B.bytes
  have hr := B.returns
  have hts := atoms_spec (ws := wsJ5_length_8abf5) B.pre
  have hown : s.vm.findClass RJ5 = some m.cls := findClass_of_methodNamed B.named
  have hlocks := B.notSynchronized
  subst hsz
  have hD := hD0.self (sz := s.heap.size)
  generalize hAe : va_A [(h0, .inr (1, [.ref z0, .int 0, .int 0, .int 2]))] s.heap.size = A at hD ⊢
  have hA : ∀ q : Nat, s.heap.size ≤ q → A q := fun q h => by rw [← hAe]; exact Or.inr h
  have hS : va_S A s.heap s.heap [] := va_S.rf
  have hP : va_P (dC, dI) vwCl [(h0, .inr (1, [.ref z0, .int 0, .int 0, .int 2]))] s.heap := hP
  have hl := lv_entry ([.ref h0]) (n := 1) (Nat.le_of_ble_eq_true rfl)
  rw [lg_entry_eq]
  generalize (lg_sl ([.ref h0]) ++ List.replicate (1 - (lg_sl ([.ref h0])).length) Slot.unset).toArray = ls at hl ⊢
  have hl : lv_has ls 1 [(0, .ref h0)] := hl
  refine lv_aload_n hx hb dJ5_length_8abf5_0 rfl (lv_at hl 0 rfl) ?_
  refine va_get (D := (dC, dI)) (ci := 1) (v := .int 2) (C := RJ4) (T := TJ4) (N := 4) hx hb hts (by decide +kernel) hown hK hP 0 rfl rfl 3 (by decide) (hts (.fieldLink RJ5 79 "java/lang/AbstractStringBuilder" "count" "I") (by decide +kernel)) (fun _ h9 => h9) rfl dJ5_length_8abf5_1 ?_
  exact W.iret (v := 2) hx hb hr (fun t ht hW => ⟨⟨2, (), rfl, rfl, by rw [ht]; exact hP, va_K.moved hW.alike hK, hD⟩, hS.F ht⟩) hS.2.2 dJ5_length_8abf5_4
set_option maxHeartbeats 4000000 in
set_option maxRecDepth 100000 in
theorem kx_J4_length_8abf5_2 (l : Launch) (dC : Nat → ClassId) (dI : Nat → Nat → Nat) (h0 : Nat) (z0 : Nat) (sz : Nat) : Met l yJ4_length_8abf5 wsJ4_length_8abf5 ({ frames := 1, cells := 0, slots := 0, locals := 20 }) (va_Pc [.ref h0] (fun U => U.heap.size = sz ∧ va_P (dC, dI) vwCl [(h0, .inr (1, [.ref z0, .int 0, .int 0, .int 2]))] U.heap ∧ va_K (dC, dI) vwCl [] U ∧ va_D (fun _ => True) [(h0, .inr (1, [.ref z0, .int 0, .int 0, .int 2]))])) (va_Qi (fun (r : Int32) (_ : Unit) => r = 2) (fun (_ : Unit) (t : State) => va_P (dC, dI) vwCl [(h0, .inr (1, [.ref z0, .int 0, .int 0, .int 2]))] t.heap ∧ va_K (dC, dI) vwCl [] t ∧ va_D (va_A [(h0, .inr (1, [.ref z0, .int 0, .int 0, .int 2]))] sz) [(h0, .inr (1, [.ref z0, .int 0, .int 0, .int 2]))]) (va_A [(h0, .inr (1, [.ref z0, .int 0, .int 0, .int 2]))] sz)) 0 0 (va_A [(h0, .inr (1, [.ref z0, .int 0, .int 0, .int 2]))] sz) := by
  refine Met.ofW (cc := cJ4_length_8abf5) (maxL := 1) (ret := (some .int)) (by decide) rfl ?_
  intro p e s m args below meth c s₁ B hml hv
  obtain ⟨rfl, hsz, hP, hK, hD0⟩ := hv
  have hx := B.exec
  have hb := B.bytes
  have hr := B.returns
  have hts := atoms_spec (ws := wsJ4_length_8abf5) B.pre
  have hown : s.vm.findClass RJ4 = some m.cls := findClass_of_methodNamed B.named
  have hlocks := B.notSynchronized
  subst hsz
  have hD := hD0.self (sz := s.heap.size)
  generalize hAe : va_A [(h0, .inr (1, [.ref z0, .int 0, .int 0, .int 2]))] s.heap.size = A at hD ⊢
  have hA : ∀ q : Nat, s.heap.size ≤ q → A q := fun q h => by rw [← hAe]; exact Or.inr h
  have hS : va_S A s.heap s.heap [] := va_S.rf
  have hP : va_P (dC, dI) vwCl [(h0, .inr (1, [.ref z0, .int 0, .int 0, .int 2]))] s.heap := hP
  have hl := lv_entry ([.ref h0]) (n := 1) (Nat.le_of_ble_eq_true rfl)
  rw [lg_entry_eq]
  generalize (lg_sl ([.ref h0]) ++ List.replicate (1 - (lg_sl ([.ref h0])).length) Slot.unset).toArray = ls at hl ⊢
  have hl : lv_has ls 1 [(0, .ref h0)] := hl
  refine lv_aload_n hx hb dJ4_length_8abf5_0 rfl (lv_at hl 0 rfl) ?_
  have hPc := hP.sub (ws' := [(h0, .inr (1, [.ref z0, .int 0, .int 0, .int 2]))]) [0] rfl
  have hDc := hD.sub (ws' := [(h0, .inr (1, [.ref z0, .int 0, .int 0, .int 2]))]) [0] (by decide) rfl
  have hKc := hK.sub (tys' := []) [] rfl
  have hFc := va_free (wc := [(h0, .inr (1, [.ref z0, .int 0, .int 0, .int 2]))]) hD hS hA [0] rfl
  refine va_calli (va_runSU (hK.1 1 _ rfl).2 (As := []) (rest := []) ⟨hx, hb, hml, hown, hts⟩ (kx_J5_length_8abf5_2 l dC dI h0 z0 s.heap.size) (va_cwSU 0 hts gJ4_length_8abf5_J5_length_8abf5_s343 rfl rfl rfl (by decide +kernel) ⟨Nat.le_of_ble_eq_true rfl, Nat.le_of_ble_eq_true rfl⟩) ⟨fun a U g mk q => by obtain ⟨q0, q1, qP, qK, qD⟩ := q; exact ⟨q0, q1, qP, va_K.moved (u := U) (U := U.calling g mk a) (Vm.Alike.refl U.vm) qK, qD⟩, va_recv hKc hPc (ci := 1) (q0 := 0) rfl rfl, fun U hU hW => ⟨rfl, by rw [hU], by rw [hU]; exact hPc, va_K.moved hW.alike hKc, hDc.weaken (fun _ _ _ _ => trivial)⟩⟩ rfl rfl hl.1 rfl (lv_room (Nat.le_of_ble_eq_true rfl)) dJ4_length_8abf5_1 ⟨Nat.le_of_ble_eq_true rfl, Nat.le_of_ble_eq_true rfl⟩) hS (fun q _ h => hFc q h) hFc (fun r9 u t H1 locs ht hvm hw hB hz1 hk1 hS => ?_)
  obtain rfl := hw
  obtain ⟨hP1, hK1, hD1⟩ := hB
  rw [ht] at hP1
  have hK1 := va_K.moved hvm.symm hK1
  obtain ⟨hP, hD⟩ := va_join (wr := []) (w1 := [(h0, .inr (1, [.ref z0, .int 0, .int 0, .int 2]))]) hP hD [0] [] rfl rfl (by decide) (by decide) hk1 hFc hP1 hD1
  generalize H1 = H at hP hS ⊢
  have hP : va_P (dC, dI) vwCl [(h0, .inr (1, [.ref z0, .int 0, .int 0, .int 2]))] H := hP
  have hD : va_D A [(h0, .inr (1, [.ref z0, .int 0, .int 0, .int 2]))] := hD
  exact W.iret (v := 2) hx hb hr (fun t ht hW => ⟨⟨2, (), rfl, rfl, by rw [ht]; exact hP, va_K.moved hW.alike hK, hD⟩, hS.F ht⟩) hS.2.2 dJ4_length_8abf5_4
set_option maxHeartbeats 4000000 in
set_option maxRecDepth 100000 in
theorem kx_J5_isLatin1_aae02_2 (l : Launch) (dC : Nat → ClassId) (dI : Nat → Nat → Nat) (ge5 gea gv5 gva gde gic gi0 : Nat) (h0 : Nat) (z0 : Nat) (sz : Nat) : Met l yJ5_isLatin1_aae02 wsJ5_isLatin1_aae02 ({ frames := 0, cells := 0, slots := 0, locals := 0 }) (va_Pc [.ref h0] (fun U => U.heap.size = sz ∧ va_P (dC, dI) vwCl [(h0, .inr (1, [.ref z0, .int 0, .int 0, .int 2]))] U.heap ∧ va_K (dC, dI) vwCl [] U ∧ va_D (fun _ => True) [(h0, .inr (1, [.ref z0, .int 0, .int 0, .int 2]))] ∧ gv ge5 gea gv5 gva gde gic gi0 (va_A [(h0, .inr (1, [.ref z0, .int 0, .int 0, .int 2]))] sz) U U.heap)) (va_Qi (fun (r : Int32) (_ : Unit) => r = 1) (fun (_ : Unit) (t : State) => va_P (dC, dI) vwCl [(h0, .inr (1, [.ref z0, .int 0, .int 0, .int 2]))] t.heap ∧ va_K (dC, dI) vwCl [] t ∧ va_D (va_A [(h0, .inr (1, [.ref z0, .int 0, .int 0, .int 2]))] sz) [(h0, .inr (1, [.ref z0, .int 0, .int 0, .int 2]))]) (va_A [(h0, .inr (1, [.ref z0, .int 0, .int 0, .int 2]))] sz)) 0 0 (va_A [(h0, .inr (1, [.ref z0, .int 0, .int 0, .int 2]))] sz) := by
  refine Met.ofW (cc := cJ5_isLatin1_aae02) (maxL := 1) (ret := (some .boolean)) (by decide) rfl ?_
  intro p e s m args below meth c s₁ B hml hv
  obtain ⟨rfl, hsz, hP, hK, hD0, hG⟩ := hv
  have hx := B.exec
  have hb := B.bytes
  have hr := B.returns
  have hts := atoms_spec (ws := wsJ5_isLatin1_aae02) B.pre
  have hown : s.vm.findClass RJ5 = some m.cls := findClass_of_methodNamed B.named
  have hlocks := B.notSynchronized
  subst hsz
  have hD := hD0.self (sz := s.heap.size)
  generalize hAe : va_A [(h0, .inr (1, [.ref z0, .int 0, .int 0, .int 2]))] s.heap.size = A at hD hG ⊢
  obtain ⟨⟨g_AO_Text, g_AO_String, g_AO_Object, g_nm_RX1_20, g_nm_RX0_17, g_nm_RX3_31, g_nm_RX2_44, g_nm_RL_121, g_nf_RL_13, g_nf_RL_47, g_ca_IO, g_ca_IA, g_ca_IS, g_ca_IntObj, g_ca_StrObj, g_de_RT, g_de_EX, g_de_TH, g_nc_IA_IO, g_nc_IS_IO, g_nc_IS_IA⟩, ⟨g_s3, g_s5, g_sa, g_x278, g_x280, g_x282, g_x284, g_x286, g_x180, g_x238, g_x250⟩, ⟨g_o5, g_c5, g_v5, g_t5, g_oa, g_ca, g_va, g_ta, g_zc, g_zd, g_td, g_zf, g_zU, g_zN, g_zh, g_zk, g_tk, g_oi, g_vi⟩⟩ := id hG
  have hA : ∀ q : Nat, s.heap.size ≤ q → A q := fun q h => by rw [← hAe]; exact Or.inr h
  have hS : va_S A s.heap s.heap [] := va_S.rf
  have hP : va_P (dC, dI) vwCl [(h0, .inr (1, [.ref z0, .int 0, .int 0, .int 2]))] s.heap := hP
  have hl := lv_entry ([.ref h0]) (n := 1) (Nat.le_of_ble_eq_true rfl)
  rw [lg_entry_eq]
  generalize (lg_sl ([.ref h0]) ++ List.replicate (1 - (lg_sl ([.ref h0])).length) Slot.unset).toArray = ls at hl ⊢
  have hl : lv_has ls 1 [(0, .ref h0)] := hl
  refine va_gets (v := .int 1) hx hb g_zc hS hown (hts (.fieldLink RJ5 18 "java/lang/String" "COMPACT_STRINGS" "Z") (by decide +kernel)) (fun _ h9 => h9) dJ5_isLatin1_aae02_0 ?_
  refine lv_if_eq (tgt := 17) hx hb dJ5_isLatin1_aae02_3 (by decide) (fun c9 => absurd c9 (by decide)) (fun _ => ?_)
  refine lv_aload_n hx hb dJ5_isLatin1_aae02_6 rfl (lv_at hl 0 rfl) ?_
  refine va_get (D := (dC, dI)) (ci := 1) (v := .int 0) (C := RJ4) (T := TJ4) (N := 4) hx hb hts (by decide +kernel) hown hK hP 0 rfl rfl 1 (by decide) (hts (.fieldLink RJ5 22 "java/lang/AbstractStringBuilder" "coder" "B") (by decide +kernel)) (fun _ h9 => h9) rfl dJ5_isLatin1_aae02_7 ?_
  refine lv_if_ne (tgt := 17) hx hb dJ5_isLatin1_aae02_10 (by decide) (fun c9 => absurd (by decide) c9) (fun _ => ?_)
  refine lv_iconst (v := 1) hx hb dJ5_isLatin1_aae02_13 (by decide) ?_
  refine lv_goto (tgt := 18) hx hb dJ5_isLatin1_aae02_14 (by decide) ?_
  exact W.zret (v := 1) hx hb hr (by decide) (fun t ht hW => ⟨⟨1, (), rfl, rfl, by rw [ht]; exact hP, va_K.moved hW.alike hK, hD⟩, hS.F ht⟩) hS.2.2 dJ5_isLatin1_aae02_18
set_option maxHeartbeats 4000000 in
set_option maxRecDepth 100000 in
theorem kx_J7_checkLength_df160_2 (l : Launch) (dC : Nat → ClassId) (dI : Nat → Nat → Nat) (sz : Nat) : Met l yJ7_checkLength_df160 wsJ7_checkLength_df160 ({ frames := 0, cells := 0, slots := 0, locals := 0 }) (va_Pc [.int 0, .int 2] (fun U => U.heap.size = sz ∧ va_P (dC, dI) vwCl [] U.heap ∧ va_K (dC, dI) vwCl [] U ∧ va_D (fun _ => True) [])) (va_Qv (fun _ : Unit => True) (fun (_ : Unit) (t : State) => va_P (dC, dI) vwCl [] t.heap ∧ va_K (dC, dI) vwCl [] t ∧ va_D (va_A [] sz) []) (va_A [] sz)) 0 0 (va_A [] sz) := by
  refine Met.ofW (cc := cJ7_checkLength_df160) (maxL := 2) (ret := none) (by decide) rfl ?_
  intro p e s m args below meth c s₁ B hml hv
  obtain ⟨rfl, hsz, hP, hK, hD0⟩ := hv
  have hx := B.exec
  have hb := B.bytes
  have hr := B.returns
  have hts := atoms_spec (ws := wsJ7_checkLength_df160) B.pre
  have hown : s.vm.findClass RJ7 = some m.cls := findClass_of_methodNamed B.named
  have hlocks := B.notSynchronized
  subst hsz
  have hD := hD0.self (sz := s.heap.size)
  generalize hAe : va_A [] s.heap.size = A at hD ⊢
  have hA : ∀ q : Nat, s.heap.size ≤ q → A q := fun q h => by rw [← hAe]; exact Or.inr h
  have hS : va_S A s.heap s.heap [] := va_S.rf
  have hP : va_P (dC, dI) vwCl [] s.heap := hP
  have hl := lv_entry ([.int 0, .int 2]) (n := 2) (Nat.le_of_ble_eq_true rfl)
  rw [lg_entry_eq]
  generalize (lg_sl ([.int 0, .int 2]) ++ List.replicate (2 - (lg_sl ([.int 0, .int 2])).length) Slot.unset).toArray = ls at hl ⊢
  have hl : lv_has ls 2 [(0, .int 0), (1, .int 2)] := hl
  refine lv_iload_n hx hb dJ7_checkLength_df160_0 rfl (lv_at hl 1 rfl) ?_
  refine lv_iload_n hx hb dJ7_checkLength_df160_1 rfl (lv_at hl 0 rfl) ?_
  refine lv_icmp_ge (tgt := 37) hx hb dJ7_checkLength_df160_2 (by decide) (fun _ => ?_) (fun c9 => absurd (by decide) c9)
  exact W.vret hx hb hr (fun t ht hW => ⟨⟨(), rfl, trivial, by rw [ht]; exact hP, va_K.moved hW.alike hK, hD⟩, hS.F ht⟩) hS.2.2 dJ7_checkLength_df160_37
set_option maxHeartbeats 4000000 in
set_option maxRecDepth 100000 in
theorem kx_J7_copyOfRangeByte_39247_2 (l : Launch) (dC : Nat → ClassId) (dI : Nat → Nat → Nat) (h0 : Nat) (k0 : ClassId) (sz : Nat) (f0 : Nat → Int32) (f0_t : sb_Fit f0) : Met l yJ7_copyOfRangeByte_39247 wsJ7_copyOfRangeByte_39247 ({ frames := 1, cells := 1, slots := 2, locals := 60 }) (va_Pc [.ref h0, .int 0, .int 2] (fun U => U.heap.size = sz ∧ va_P (dC, dI) vwCl [(h0, .inl (k0, 16, .inl f0))] U.heap ∧ va_K (dC, dI) vwCl [(k0, .byte)] U ∧ va_D (fun _ => True) [(h0, .inl (k0, 16, .inl f0))])) (va_Qr (fun _ : Unit => True) (fun (_ : Unit) (ra : Nat) (t : State) => ∃ q2 : Nat, ∃ cq2 : ClassId, ∃ f5 : Nat → Int32, sb_Fit f5 ∧ ra = q2 ∧ va_P (dC, dI) vwCl [(h0, .inl (k0, 16, .inl f0)), (q2, .inl (cq2, 2, .inl f5))] t.heap ∧ va_K (dC, dI) vwCl [(k0, .byte), (cq2, .byte)] t ∧ va_D (va_A [(h0, .inl (k0, 16, .inl f0))] sz) [(h0, .inl (k0, 16, .inl f0)), (q2, .inl (cq2, 2, .inl f5))]) (va_A [(h0, .inl (k0, 16, .inl f0))] sz)) 1 2 (va_A [(h0, .inl (k0, 16, .inl f0))] sz) := by
  refine Met.ofW (cc := cJ7_copyOfRangeByte_39247) (maxL := 5) (ret := (some (.array .byte))) (by decide) rfl ?_
  intro p e s m args below meth c s₁ B hml hv
  obtain ⟨rfl, hsz, hP, hK, hD0⟩ := hv
  have hx := B.exec
  have hb := B.bytes
  have hr := B.returns
  have hts := atoms_spec (ws := wsJ7_copyOfRangeByte_39247) B.pre
  have hown : s.vm.findClass RJ7 = some m.cls := findClass_of_methodNamed B.named
  have hlocks := B.notSynchronized
  subst hsz
  have hD := hD0.self (sz := s.heap.size)
  generalize hAe : va_A [(h0, .inl (k0, 16, .inl f0))] s.heap.size = A at hD ⊢
  have hA : ∀ q : Nat, s.heap.size ≤ q → A q := fun q h => by rw [← hAe]; exact Or.inr h
  have hS : va_S A s.heap s.heap [] := va_S.rf
  have hP : va_P (dC, dI) vwCl [(h0, .inl (k0, 16, .inl f0))] s.heap := hP
  have hl := lv_entry ([.ref h0, .int 0, .int 2]) (n := 5) (Nat.le_of_ble_eq_true rfl)
  rw [lg_entry_eq]
  generalize (lg_sl ([.ref h0, .int 0, .int 2]) ++ List.replicate (5 - (lg_sl ([.ref h0, .int 0, .int 2])).length) Slot.unset).toArray = ls at hl ⊢
  have hl : lv_has ls 5 [(0, .ref h0), (1, .int 0), (2, .int 2)] := hl
  refine lv_iload_n hx hb dJ7_copyOfRangeByte_39247_0 rfl (lv_at hl 1 rfl) ?_
  refine lv_iload_n hx hb dJ7_copyOfRangeByte_39247_1 rfl (lv_at hl 2 rfl) ?_
  have hPc := hP.sub (ws' := []) [] rfl
  have hDc := hD.sub (ws' := []) [] (by decide) rfl
  have hKc := hK.sub (tys' := []) [] rfl
  have hFc := va_free (wc := []) hD hS hA [] rfl
  refine va_callv (va_runS (As := [.int 0, .int 2]) (rest := []) ⟨hx, hb, hml, hown, hts⟩ (kx_J7_checkLength_df160_2 l dC dI s.heap.size) (cwS 2 hts gJ7_copyOfRangeByte_39247_J7_checkLength_df160 rfl rfl rfl (by decide +kernel) ⟨Nat.le_of_ble_eq_true rfl, Nat.le_of_ble_eq_true rfl⟩) ⟨fun a U g mk q => by obtain ⟨q0, q1, qP, qK, qD⟩ := q; exact ⟨q0, q1, qP, va_K.moved (u := U) (U := U.calling g mk a) (Vm.Alike.refl U.vm) qK, qD⟩, fun U hU hW => ⟨rfl, by rw [hU], by rw [hU]; exact hPc, va_K.moved hW.alike hKc, hDc.weaken (fun _ _ _ _ => trivial)⟩⟩ rfl rfl hl.1 rfl (lv_room (Nat.le_of_ble_eq_true rfl)) dJ7_copyOfRangeByte_39247_2 ⟨Nat.le_of_ble_eq_true rfl, Nat.le_of_ble_eq_true rfl⟩) hS (fun q _ h => hFc q h) hFc (fun u t H1 locs ht hvm hw hB hz1 hk1 hS => ?_)
  obtain ⟨hP1, hK1, hD1⟩ := hB
  rw [ht] at hP1
  have hK1 := va_K.moved hvm.symm hK1
  obtain ⟨hP, hD⟩ := va_join (wr := [(h0, .inl (k0, 16, .inl f0))]) (w1 := []) hP hD [] [0] rfl rfl (by decide) (by decide) hk1 hFc hP1 hD1
  generalize H1 = H at hP hS ⊢
  have hP : va_P (dC, dI) vwCl [(h0, .inl (k0, 16, .inl f0))] H := hP
  have hD : va_D A [(h0, .inl (k0, 16, .inl f0))] := hD
  refine lv_iload_n hx hb dJ7_copyOfRangeByte_39247_5 rfl (lv_at hl 2 rfl) ?_
  refine lv_iload_n hx hb dJ7_copyOfRangeByte_39247_6 rfl (lv_at hl 1 rfl) ?_
  refine lv_isub hx hb dJ7_copyOfRangeByte_39247_7 ?_
  refine lv_topi (fun y1 ey1 => ?_)
  obtain rfl : y1 = 2 := ey1.trans (by decide)
  refine lv_istore_n (lv' := [(3, .int 2), (0, .ref h0), (1, .int 0), (2, .int 2)]) hx hb dJ7_copyOfRangeByte_39247_8 rfl hl (by decide) rfl (fun ls hl => ?_)
  refine lv_iload_n hx hb dJ7_copyOfRangeByte_39247_9 rfl (lv_at hl 0 rfl) ?_
  refine va_newa (D := (dC, dI)) (atype := .byte) (ty := .byte) (a0 := (2, .inl (fun _ => 0))) (n := 2) (N' := 2) hx hb (hts (.arrayClass .byte) (by decide +kernel)) rfl hK hP hD hS hA (fun _ => rfl) (by decide) (by decide) (Nat.le_of_ble_eq_true rfl) (Nat.le_of_ble_eq_true rfl) (Nat.le_of_ble_eq_true rfl) dJ7_copyOfRangeByte_39247_10 (fun q2 cq2 H hK hP hD hS => ?_)
  have hK : va_K (dC, dI) vwCl [(k0, .byte), (cq2, .byte)] s := hK
  have hP : va_P (dC, dI) vwCl [(h0, .inl (k0, 16, .inl f0)), (q2, .inl (cq2, 2, .inl (fun _ => 0)))] H := hP
  have hD : va_D A [(h0, .inl (k0, 16, .inl f0)), (q2, .inl (cq2, 2, .inl (fun _ => 0)))] := hD
  refine W.widen (k := 1) (n := 2) (by omega) (by omega) ?_
  refine lv_astore (lv' := [(4, .ref q2), (3, .int 2), (0, .ref h0), (1, .int 0), (2, .int 2)]) hx hb dJ7_copyOfRangeByte_39247_12 hl (by decide) rfl (fun ls hl => ?_)
  refine lv_aload_n hx hb dJ7_copyOfRangeByte_39247_14 rfl (lv_at hl 2 rfl) ?_
  refine lv_iload_n hx hb dJ7_copyOfRangeByte_39247_15 rfl (lv_at hl 3 rfl) ?_
  refine lv_aload hx hb dJ7_copyOfRangeByte_39247_16 (lv_at hl 0 rfl) ?_
  refine lv_iconst (v := 0) hx hb dJ7_copyOfRangeByte_39247_18 (by decide) ?_
  refine lv_aload_n hx hb dJ7_copyOfRangeByte_39247_19 rfl (lv_at hl 2 rfl) ?_
  refine va_alen (D := (dC, dI)) (v := 16) hx hb hK hP 0 0 rfl rfl (show Int32.ofNat 16 = 16 from by decide) dJ7_copyOfRangeByte_39247_20 ?_
  refine lv_iload_n hx hb dJ7_copyOfRangeByte_39247_21 rfl (lv_at hl 3 rfl) ?_
  refine lv_isub hx hb dJ7_copyOfRangeByte_39247_22 ?_
  refine lv_topi (fun y3 ey3 => ?_)
  obtain rfl : y3 = 16 := ey3.trans (by decide)
  refine lv_iload_n hx hb dJ7_copyOfRangeByte_39247_23 rfl (lv_at hl 1 rfl) ?_
  refine va_mmin (x := 16) (y := 2) hx hb (by rw [hml]; exact hl.1.symm) hown (hts (.methodLink RJ7 304 Lib.Math.min.name) (by decide +kernel)) (hts (.static Lib.Math.min.name) (by decide +kernel)) (hts (.initialized "java/lang/Math") (by decide +kernel)) (hts (.code Lib.Math.min.name Lib.Math.min.code 2 (some .int)) (by decide +kernel)) (Nat.le_of_ble_eq_true rfl) (Nat.le_of_ble_eq_true rfl) (Nat.le_of_ble_eq_true rfl) (Nat.le_of_ble_eq_true rfl) dJ7_copyOfRangeByte_39247_24 ?_
  refine lv_topi (fun y4 ey4 => ?_)
  obtain rfl : y4 = 2 := ey4.trans (by decide)
  refine va_copyi (D := (dC, dI)) (sp := 0) (dp := 0) (n := 2) hx hb (by rw [hml]; exact hl.1.symm) hown (hts (.methodLink RJ7 150 arraycopyName) (by decide +kernel)) (hts (.native arraycopyName) (by decide +kernel)) (hts (.static arraycopyName) (by decide +kernel)) (hts (.initialized "java/lang/System") (by decide +kernel)) hK hP hD hS 0 1 0 1 rfl rfl rfl rfl rfl (by decide) (by decide) (by decide) (by decide) (by decide) (fun i hi => f0_t _) (Nat.le_of_ble_eq_true rfl) (Nat.le_of_ble_eq_true rfl) dJ7_copyOfRangeByte_39247_27 (fun H locs hP hD hS => ?_)
  have hP : va_P (dC, dI) vwCl [(h0, .inl (k0, 16, .inl f0)), (q2, .inl (cq2, 2, .inl (va_cpy f0 (fun _ => 0) (0 : Int32).toNatClampNeg (0 : Int32).toNatClampNeg (2 : Int32).toNatClampNeg)))] H := hP
  have hD : va_D A [(h0, .inl (k0, 16, .inl f0)), (q2, .inl (cq2, 2, .inl (va_cpy f0 (fun _ => 0) (0 : Int32).toNatClampNeg (0 : Int32).toNatClampNeg (2 : Int32).toNatClampNeg)))] := hD
  obtain ⟨f5, hf5⟩ : ∃ f : Nat → Int32, f = va_cpy f0 (fun _ => 0) (0 : Int32).toNatClampNeg (0 : Int32).toNatClampNeg (2 : Int32).toNatClampNeg := ⟨_, rfl⟩
  have f5_t : sb_Fit f5 := by rw [hf5]; exact sb_fitC f0_t sb_fit0
  rw [← hf5] at hP hD
  refine lv_aload hx hb dJ7_copyOfRangeByte_39247_30 (lv_at hl 0 rfl) ?_
  exact W.aret (v := .ref q2) hx hb hr (Or.inr ⟨_, rfl⟩) (Or.inr ⟨_, rfl⟩) (fun t ht hW => ⟨⟨(), q2, rfl, trivial, q2, cq2, f5, f5_t, rfl, by rw [ht]; exact hP, va_K.moved hW.alike hK, hD⟩, hS.F ht⟩) hS.2.2 dJ7_copyOfRangeByte_39247_32
set_option maxHeartbeats 4000000 in
set_option maxRecDepth 100000 in
theorem kx_J7_copyOfRange_39247_2 (l : Launch) (dC : Nat → ClassId) (dI : Nat → Nat → Nat) (h0 : Nat) (k0 : ClassId) (sz : Nat) (f0 : Nat → Int32) (f0_t : sb_Fit f0) : Met l yJ7_copyOfRange_39247 wsJ7_copyOfRange_39247 ({ frames := 2, cells := 1, slots := 2, locals := 84 }) (va_Pc [.ref h0, .int 0, .int 2] (fun U => U.heap.size = sz ∧ va_P (dC, dI) vwCl [(h0, .inl (k0, 16, .inl f0))] U.heap ∧ va_K (dC, dI) vwCl [(k0, .byte)] U ∧ va_D (fun _ => True) [(h0, .inl (k0, 16, .inl f0))])) (va_Qr (fun _ : Unit => True) (fun (_ : Unit) (ra : Nat) (t : State) => ∃ q1 : Nat, ∃ cq2 : ClassId, ∃ f3 : Nat → Int32, sb_Fit f3 ∧ ra = q1 ∧ va_P (dC, dI) vwCl [(h0, .inl (k0, 16, .inl f0)), (q1, .inl (cq2, 2, .inl f3))] t.heap ∧ va_K (dC, dI) vwCl [(k0, .byte), (cq2, .byte)] t ∧ va_D (va_A [(h0, .inl (k0, 16, .inl f0))] sz) [(h0, .inl (k0, 16, .inl f0)), (q1, .inl (cq2, 2, .inl f3))]) (va_A [(h0, .inl (k0, 16, .inl f0))] sz)) 1 2 (va_A [(h0, .inl (k0, 16, .inl f0))] sz) := by
  refine Met.ofW (cc := cJ7_copyOfRange_39247) (maxL := 3) (ret := (some (.array .byte))) (by decide) rfl ?_
  intro p e s m args below meth c s₁ B hml hv
  obtain ⟨rfl, hsz, hP, hK, hD0⟩ := hv
  have hx := B.exec
  have hb := B.bytes
  have hr := B.returns
  have hts := atoms_spec (ws := wsJ7_copyOfRange_39247) B.pre
  have hown : s.vm.findClass RJ7 = some m.cls := findClass_of_methodNamed B.named
  have hlocks := B.notSynchronized
  subst hsz
  have hD := hD0.self (sz := s.heap.size)
  generalize hAe : va_A [(h0, .inl (k0, 16, .inl f0))] s.heap.size = A at hD ⊢
  have hA : ∀ q : Nat, s.heap.size ≤ q → A q := fun q h => by rw [← hAe]; exact Or.inr h
  have hS : va_S A s.heap s.heap [] := va_S.rf
  have hP : va_P (dC, dI) vwCl [(h0, .inl (k0, 16, .inl f0))] s.heap := hP
  have hl := lv_entry ([.ref h0, .int 0, .int 2]) (n := 3) (Nat.le_of_ble_eq_true rfl)
  rw [lg_entry_eq]
  generalize (lg_sl ([.ref h0, .int 0, .int 2]) ++ List.replicate (3 - (lg_sl ([.ref h0, .int 0, .int 2])).length) Slot.unset).toArray = ls at hl ⊢
  have hl : lv_has ls 3 [(0, .ref h0), (1, .int 0), (2, .int 2)] := hl
  refine lv_iload_n hx hb dJ7_copyOfRange_39247_0 rfl (lv_at hl 1 rfl) ?_
  refine lv_if_ne (tgt := 10) hx hb dJ7_copyOfRange_39247_1 (by decide) (fun c9 => absurd (by decide) c9) (fun _ => ?_)
  refine lv_iload_n hx hb dJ7_copyOfRange_39247_4 rfl (lv_at hl 2 rfl) ?_
  refine lv_aload_n hx hb dJ7_copyOfRange_39247_5 rfl (lv_at hl 0 rfl) ?_
  refine va_alen (D := (dC, dI)) (v := 16) hx hb hK hP 0 0 rfl rfl (show Int32.ofNat 16 = 16 from by decide) dJ7_copyOfRange_39247_6 ?_
  refine lv_icmp_eq (tgt := 17) hx hb dJ7_copyOfRange_39247_7 (by decide) (fun c9 => absurd c9 (by decide)) (fun _ => ?_)
  refine lv_aload_n hx hb dJ7_copyOfRange_39247_10 rfl (lv_at hl 0 rfl) ?_
  refine lv_iload_n hx hb dJ7_copyOfRange_39247_11 rfl (lv_at hl 1 rfl) ?_
  refine lv_iload_n hx hb dJ7_copyOfRange_39247_12 rfl (lv_at hl 2 rfl) ?_
  have hPc := hP.sub (ws' := [(h0, .inl (k0, 16, .inl f0))]) [0] rfl
  have hDc := hD.sub (ws' := [(h0, .inl (k0, 16, .inl f0))]) [0] (by decide) rfl
  have hKc := hK.sub (tys' := [(k0, .byte)]) [0] rfl
  have hFc := va_free (wc := [(h0, .inl (k0, 16, .inl f0))]) hD hS hA [0] rfl
  refine va_callr (va_runS (As := [.ref h0, .int 0, .int 2]) (rest := []) ⟨hx, hb, hml, hown, hts⟩ (kx_J7_copyOfRangeByte_39247_2 l dC dI h0 k0 s.heap.size f0 f0_t) (cwS 3 hts gJ7_copyOfRange_39247_J7_copyOfRangeByte_39247 rfl rfl rfl (by decide +kernel) ⟨Nat.le_of_ble_eq_true rfl, Nat.le_of_ble_eq_true rfl⟩) ⟨fun a U g mk q => by obtain ⟨q0, q1, qP, qK, qD⟩ := q; exact ⟨q0, q1, qP, va_K.moved (u := U) (U := U.calling g mk a) (Vm.Alike.refl U.vm) qK, qD⟩, fun U hU hW => ⟨rfl, by rw [hU], by rw [hU]; exact hPc, va_K.moved hW.alike hKc, hDc.weaken (fun _ _ _ _ => trivial)⟩⟩ rfl rfl hl.1 rfl (lv_room (Nat.le_of_ble_eq_true rfl)) dJ7_copyOfRange_39247_13 ⟨Nat.le_of_ble_eq_true rfl, Nat.le_of_ble_eq_true rfl⟩) hS (fun q _ h => hFc q h) hFc (fun u ra t H1 locs ht hvm hw hB hz1 hk1 hS => ?_)
  obtain ⟨q1, cq2, f3, f3_t, hra, hP1, hK1, hD1⟩ := hB
  rw [hra]
  rw [ht] at hP1
  have hK1 := va_K.moved hvm.symm hK1
  obtain ⟨hP, hD⟩ := va_join (wr := []) (w1 := [(h0, .inl (k0, 16, .inl f0)), (q1, .inl (cq2, 2, .inl f3))]) hP hD [0] [] rfl rfl (by decide) (by decide) hk1 hFc hP1 hD1
  have hK := hK.app (hK1.sub (tys' := [(cq2, .byte)]) [1] rfl)
  generalize H1 = H at hP hS ⊢
  have hK : va_K (dC, dI) vwCl [(k0, .byte), (cq2, .byte)] s := hK
  have hP : va_P (dC, dI) vwCl [(h0, .inl (k0, 16, .inl f0)), (q1, .inl (cq2, 2, .inl f3))] H := hP
  have hD : va_D A [(h0, .inl (k0, 16, .inl f0)), (q1, .inl (cq2, 2, .inl f3))] := hD
  refine W.widen (k := 1) (n := 2) (by omega) (by omega) ?_
  exact W.aret (v := .ref q1) hx hb hr (Or.inr ⟨_, rfl⟩) (Or.inr ⟨_, rfl⟩) (fun t ht hW => ⟨⟨(), q1, rfl, trivial, q1, cq2, f3, f3_t, rfl, by rw [ht]; exact hP, va_K.moved hW.alike hK, hD⟩, hS.F ht⟩) hS.2.2 dJ7_copyOfRange_39247_16
set_option maxHeartbeats 4000000 in
set_option maxRecDepth 100000 in
theorem kx_J0_init_db425_2 (l : Launch) (dC : Nat → ClassId) (dI : Nat → Nat → Nat) (ge5 gea gv5 gva gde gic gi0 : Nat) (h0 : Nat) (h1 : Nat) (h2 : Nat) (k0 : ClassId) (sz : Nat) (f0 : Nat → Int32) (f0_t : sb_Fit f0) : Met l yJ0_init_db425 wsJ0_init_db425 ({ frames := 3, cells := 1, slots := 2, locals := 106 }) (va_Pc [.ref h2, .ref h0, .null] (fun U => U.heap.size = sz ∧ va_P (dC, dI) vwCl [(h0, .inr (1, [.ref h1, .int 0, .int 0, .int 2])), (h1, .inl (k0, 16, .inl f0)), (h2, .inr (0, [.null, .int 0, .int 0, .int 0]))] U.heap ∧ va_K (dC, dI) vwCl [(k0, .byte)] U ∧ va_D (fun _ => True) [(h0, .inr (1, [.ref h1, .int 0, .int 0, .int 2])), (h1, .inl (k0, 16, .inl f0)), (h2, .inr (0, [.null, .int 0, .int 0, .int 0]))] ∧ gv ge5 gea gv5 gva gde gic gi0 (va_A [(h0, .inr (1, [.ref h1, .int 0, .int 0, .int 2])), (h1, .inl (k0, 16, .inl f0)), (h2, .inr (0, [.null, .int 0, .int 0, .int 0]))] sz) U U.heap)) (va_Qv (fun _ : Unit => True) (fun (_ : Unit) (t : State) => ∃ q1 : Nat, ∃ cq2 : ClassId, ∃ f3 : Nat → Int32, sb_Fit f3 ∧ va_P (dC, dI) vwCl [(h0, .inr (1, [.ref h1, .int 0, .int 0, .int 2])), (h1, .inl (k0, 16, .inl f0)), (h2, .inr (0, [.ref q1, .int 0, .int 0, .int 0])), (q1, .inl (cq2, 2, .inl f3))] t.heap ∧ va_K (dC, dI) vwCl [(k0, .byte), (cq2, .byte)] t ∧ va_D (va_A [(h0, .inr (1, [.ref h1, .int 0, .int 0, .int 2])), (h1, .inl (k0, 16, .inl f0)), (h2, .inr (0, [.null, .int 0, .int 0, .int 0]))] sz) [(h0, .inr (1, [.ref h1, .int 0, .int 0, .int 2])), (h1, .inl (k0, 16, .inl f0)), (h2, .inr (0, [.ref q1, .int 0, .int 0, .int 0])), (q1, .inl (cq2, 2, .inl f3))]) (va_A [(h0, .inr (1, [.ref h1, .int 0, .int 0, .int 2])), (h1, .inl (k0, 16, .inl f0)), (h2, .inr (0, [.null, .int 0, .int 0, .int 0]))] sz)) 1 2 (va_A [(h0, .inr (1, [.ref h1, .int 0, .int 0, .int 2])), (h1, .inl (k0, 16, .inl f0)), (h2, .inr (0, [.null, .int 0, .int 0, .int 0]))] sz) := by
  refine Met.ofW (cc := cJ0_init_db425) (maxL := 5) (ret := none) (by decide) rfl ?_
  intro p e s m args below meth c s₁ B hml hv
  obtain ⟨rfl, hsz, hP, hK, hD0, hG⟩ := hv
  have hx := B.exec
  have hb := B.bytes
  have hr := B.returns
  have hts := atoms_spec (ws := wsJ0_init_db425) B.pre
  have hown : s.vm.findClass RJ0 = some m.cls := findClass_of_methodNamed B.named
  have hlocks := B.notSynchronized
  have hin : meth.name = "<init>" := (name_of_methodNamed B.named B.method).1
  subst hsz
  have hD := hD0.self (sz := s.heap.size)
  generalize hAe : va_A [(h0, .inr (1, [.ref h1, .int 0, .int 0, .int 2])), (h1, .inl (k0, 16, .inl f0)), (h2, .inr (0, [.null, .int 0, .int 0, .int 0]))] s.heap.size = A at hD hG ⊢
  obtain ⟨⟨g_AO_Text, g_AO_String, g_AO_Object, g_nm_RX1_20, g_nm_RX0_17, g_nm_RX3_31, g_nm_RX2_44, g_nm_RL_121, g_nf_RL_13, g_nf_RL_47, g_ca_IO, g_ca_IA, g_ca_IS, g_ca_IntObj, g_ca_StrObj, g_de_RT, g_de_EX, g_de_TH, g_nc_IA_IO, g_nc_IS_IO, g_nc_IS_IA⟩, ⟨g_s3, g_s5, g_sa, g_x278, g_x280, g_x282, g_x284, g_x286, g_x180, g_x238, g_x250⟩, ⟨g_o5, g_c5, g_v5, g_t5, g_oa, g_ca, g_va, g_ta, g_zc, g_zd, g_td, g_zf, g_zU, g_zN, g_zh, g_zk, g_tk, g_oi, g_vi⟩⟩ := id hG
  have hA : ∀ q : Nat, s.heap.size ≤ q → A q := fun q h => by rw [← hAe]; exact Or.inr h
  have hS : va_S A s.heap s.heap [] := va_S.rf
  have hP : va_P (dC, dI) vwCl [(h0, .inr (1, [.ref h1, .int 0, .int 0, .int 2])), (h1, .inl (k0, 16, .inl f0)), (h2, .inr (0, [.null, .int 0, .int 0, .int 0]))] s.heap := hP
  have hl := lv_entry ([.ref h2, .ref h0, .null]) (n := 5) (Nat.le_of_ble_eq_true rfl)
  rw [lg_entry_eq]
  generalize (lg_sl ([.ref h2, .ref h0, .null]) ++ List.replicate (5 - (lg_sl ([.ref h2, .ref h0, .null])).length) Slot.unset).toArray = ls at hl ⊢
  have hl : lv_has ls 5 [(0, .ref h2), (1, .ref h0), (2, .null)] := hl
  refine lv_aload_n hx hb dJ0_init_db425_0 rfl (lv_at hl 0 rfl) ?_
  refine W.objInit hx hb hown (hts (.methodLink RJ0 1 objectInit) (by decide +kernel)) (hts (.instanceMethod objectInit) (by decide +kernel)) (hts (.code objectInit ⟨#[0xb1]⟩ 1 none) (by decide +kernel)) rfl (by rw [hml]; exact hl.1) rfl dJ0_init_db425_1 (Nat.le_of_ble_eq_true rfl) (Nat.le_of_ble_eq_true rfl) ?_
  refine W.eq (g2 := F0 m 4 ls []) rfl ?_
  refine lv_aload_n hx hb dJ0_init_db425_4 rfl (lv_at hl 1 rfl) ?_
  have hPc := hP.sub (ws' := [(h0, .inr (1, [.ref h1, .int 0, .int 0, .int 2]))]) [0] rfl
  have hDc := hD.sub (ws' := [(h0, .inr (1, [.ref h1, .int 0, .int 0, .int 2]))]) [0] (by decide) rfl
  have hKc := hK.sub (tys' := []) [] rfl
  have hFc := va_free (wc := [(h0, .inr (1, [.ref h1, .int 0, .int 0, .int 2]))]) hD hS hA [0] rfl
  refine va_callr (va_runU (As := []) (rest := []) ⟨hx, hb, hml, hown, hts⟩ (kx_J5_getValue_6d5f1_2 l dC dI h0 h1 s.heap.size) (va_cwU 0 hts gJ0_init_db425_J5_getValue_6d5f1_u552J4 rfl rfl rfl rfl (by decide +kernel) ⟨Nat.le_of_ble_eq_true rfl, Nat.le_of_ble_eq_true rfl⟩) ⟨fun a U g mk q => by obtain ⟨q0, q1, qP, qK, qD⟩ := q; exact ⟨q0, q1, qP, va_K.moved (u := U) (U := U.calling g mk a) (Vm.Alike.refl U.vm) qK, qD⟩, va_recv hKc hPc (ci := 1) (q0 := 0) rfl rfl, fun U hU hW => ⟨rfl, by rw [hU], by rw [hU]; exact hPc, va_K.moved hW.alike hKc, hDc.weaken (fun _ _ _ _ => trivial)⟩⟩ rfl rfl hl.1 rfl (lv_room (Nat.le_of_ble_eq_true rfl)) dJ0_init_db425_5 ⟨Nat.le_of_ble_eq_true rfl, Nat.le_of_ble_eq_true rfl⟩) hS (fun q _ h => hFc q h) hFc (fun u ra t H1 locs ht hvm hw hB hz1 hk1 hS => ?_)
  obtain ⟨hra, hP1, hK1, hD1⟩ := hB
  rw [hra]
  rw [ht] at hP1
  have hK1 := va_K.moved hvm.symm hK1
  obtain ⟨hP, hD⟩ := va_join (wr := [(h1, .inl (k0, 16, .inl f0)), (h2, .inr (0, [.null, .int 0, .int 0, .int 0]))]) (w1 := [(h0, .inr (1, [.ref h1, .int 0, .int 0, .int 2]))]) hP hD [0] [1, 2] rfl rfl (by decide) (by decide) hk1 hFc hP1 hD1
  generalize H1 = H at hP hS ⊢
  have hP : va_P (dC, dI) vwCl [(h1, .inl (k0, 16, .inl f0)), (h2, .inr (0, [.null, .int 0, .int 0, .int 0])), (h0, .inr (1, [.ref h1, .int 0, .int 0, .int 2]))] H := hP
  have hD : va_D A [(h1, .inl (k0, 16, .inl f0)), (h2, .inr (0, [.null, .int 0, .int 0, .int 0])), (h0, .inr (1, [.ref h1, .int 0, .int 0, .int 2]))] := hD
  refine lv_astore_n (lv' := [(3, .ref h1), (0, .ref h2), (1, .ref h0), (2, .null)]) hx hb dJ0_init_db425_8 rfl hl (by decide) rfl (fun ls hl => ?_)
  refine lv_aload_n hx hb dJ0_init_db425_9 rfl (lv_at hl 2 rfl) ?_
  have hPc := hP.sub (ws' := [(h0, .inr (1, [.ref h1, .int 0, .int 0, .int 2]))]) [2] rfl
  have hDc := hD.sub (ws' := [(h0, .inr (1, [.ref h1, .int 0, .int 0, .int 2]))]) [2] (by decide) rfl
  have hKc := hK.sub (tys' := []) [] rfl
  have hFc := va_free (wc := [(h0, .inr (1, [.ref h1, .int 0, .int 0, .int 2]))]) hD hS hA [2] rfl
  refine va_calli (va_runU (As := []) (rest := []) ⟨hx, hb, hml, hown, hts⟩ (kx_J4_length_8abf5_2 l dC dI h0 h1 H.size) (va_cwO 0 hts gJ0_init_db425_J4_length_8abf5_u549J4 rfl rfl rfl (b0 := cJ5_length_8abf5) (m0 := 1) (r0 := (some .int)) (by decide +kernel) (by decide +kernel) ⟨Nat.le_of_ble_eq_true rfl, Nat.le_of_ble_eq_true rfl⟩) ⟨fun a U g mk q => by obtain ⟨q0, q1, qP, qK, qD⟩ := q; exact ⟨q0, q1, qP, va_K.moved (u := U) (U := U.calling g mk a) (Vm.Alike.refl U.vm) qK, qD⟩, va_recv hKc hPc (ci := 1) (q0 := 0) rfl rfl, fun U hU hW => ⟨rfl, by rw [hU], by rw [hU]; exact hPc, va_K.moved hW.alike hKc, hDc.weaken (fun _ _ _ _ => trivial)⟩⟩ rfl rfl hl.1 rfl (lv_room (Nat.le_of_ble_eq_true rfl)) dJ0_init_db425_10 ⟨Nat.le_of_ble_eq_true rfl, Nat.le_of_ble_eq_true rfl⟩) hS (fun q _ h => hFc q h) hFc (fun r9 u t H1 locs ht hvm hw hB hz1 hk1 hS => ?_)
  obtain rfl := hw
  obtain ⟨hP1, hK1, hD1⟩ := hB
  rw [ht] at hP1
  have hK1 := va_K.moved hvm.symm hK1
  obtain ⟨hP, hD⟩ := va_join (wr := [(h1, .inl (k0, 16, .inl f0)), (h2, .inr (0, [.null, .int 0, .int 0, .int 0]))]) (w1 := [(h0, .inr (1, [.ref h1, .int 0, .int 0, .int 2]))]) hP hD [2] [0, 1] rfl rfl (by decide) (by decide) hk1 hFc hP1 hD1
  generalize H1 = H at hP hS ⊢
  have hP : va_P (dC, dI) vwCl [(h1, .inl (k0, 16, .inl f0)), (h2, .inr (0, [.null, .int 0, .int 0, .int 0])), (h0, .inr (1, [.ref h1, .int 0, .int 0, .int 2]))] H := hP
  have hD : va_D A [(h1, .inl (k0, 16, .inl f0)), (h2, .inr (0, [.null, .int 0, .int 0, .int 0])), (h0, .inr (1, [.ref h1, .int 0, .int 0, .int 2]))] := hD
  refine lv_istore (lv' := [(4, .int 2), (3, .ref h1), (0, .ref h2), (1, .ref h0), (2, .null)]) hx hb dJ0_init_db425_13 hl (by decide) rfl (fun ls hl => ?_)
  refine lv_aload_n hx hb dJ0_init_db425_15 rfl (lv_at hl 3 rfl) ?_
  have hPc := hP.sub (ws' := [(h0, .inr (1, [.ref h1, .int 0, .int 0, .int 2]))]) [2] rfl
  have hDc := hD.sub (ws' := [(h0, .inr (1, [.ref h1, .int 0, .int 0, .int 2]))]) [2] (by decide) rfl
  have hKc := hK.sub (tys' := []) [] rfl
  have hFc := va_free (wc := [(h0, .inr (1, [.ref h1, .int 0, .int 0, .int 2]))]) hD hS hA [2] rfl
  refine va_calli (va_runU (As := []) (rest := []) ⟨hx, hb, hml, hown, hts⟩ (kx_J5_isLatin1_aae02_2 l dC dI ge5 gea gv5 gva gde gic gi0 h0 h1 H.size) (va_cwU 0 hts gJ0_init_db425_J5_isLatin1_aae02_u1047J4 rfl rfl rfl rfl (by decide +kernel) ⟨Nat.le_of_ble_eq_true rfl, Nat.le_of_ble_eq_true rfl⟩) ⟨fun a U g mk q => by obtain ⟨q0, q1, qP, qK, qD, qG⟩ := q; exact ⟨q0, q1, qP, va_K.moved (u := U) (U := U.calling g mk a) (Vm.Alike.refl U.vm) qK, qD, gv.fb qG⟩, va_recv hKc hPc (ci := 1) (q0 := 0) rfl rfl, fun U hU hW => ⟨rfl, by rw [hU], by rw [hU]; exact hPc, va_K.moved hW.alike hKc, hDc.weaken (fun _ _ _ _ => trivial), gv.pass hW hU hS hFc hG⟩⟩ rfl rfl hl.1 rfl (lv_room (Nat.le_of_ble_eq_true rfl)) dJ0_init_db425_16 ⟨Nat.le_of_ble_eq_true rfl, Nat.le_of_ble_eq_true rfl⟩) hS (fun q _ h => hFc q h) hFc (fun r9 u t H1 locs ht hvm hw hB hz1 hk1 hS => ?_)
  obtain rfl := hw
  obtain ⟨hP1, hK1, hD1⟩ := hB
  rw [ht] at hP1
  have hK1 := va_K.moved hvm.symm hK1
  obtain ⟨hP, hD⟩ := va_join (wr := [(h1, .inl (k0, 16, .inl f0)), (h2, .inr (0, [.null, .int 0, .int 0, .int 0]))]) (w1 := [(h0, .inr (1, [.ref h1, .int 0, .int 0, .int 2]))]) hP hD [2] [0, 1] rfl rfl (by decide) (by decide) hk1 hFc hP1 hD1
  generalize H1 = H at hP hS ⊢
  have hP : va_P (dC, dI) vwCl [(h1, .inl (k0, 16, .inl f0)), (h2, .inr (0, [.null, .int 0, .int 0, .int 0])), (h0, .inr (1, [.ref h1, .int 0, .int 0, .int 2]))] H := hP
  have hD : va_D A [(h1, .inl (k0, 16, .inl f0)), (h2, .inr (0, [.null, .int 0, .int 0, .int 0])), (h0, .inr (1, [.ref h1, .int 0, .int 0, .int 2]))] := hD
  refine lv_if_eq (tgt := 41) hx hb dJ0_init_db425_19 (by decide) (fun c9 => absurd c9 (by decide)) (fun _ => ?_)
  refine lv_aload_n hx hb dJ0_init_db425_22 rfl (lv_at hl 2 rfl) ?_
  refine lv_iconst (v := 0) hx hb dJ0_init_db425_23 (by decide) ?_
  refine va_putF (D := (dC, dI)) (ci := 0) (v := .int 0) (ty := .byte) (C := RJ0) (T := TJ0) (N := 4) hx hb hts (by decide +kernel) tyJ0 tyJ0_ok nmJ0 hown hK hP hD hS 1 rfl rfl 1 (by decide) (hts (.fieldLink RJ0 15 "java/lang/String" "coder" "B") (by decide +kernel)) (fun _ h9 => h9) rfl hin rfl (by decide +kernel) rfl rfl (Nat.le_of_ble_eq_true rfl) dJ0_init_db425_24 (fun H locs hP hD hS => ?_)
  have hP : va_P (dC, dI) vwCl [(h1, .inl (k0, 16, .inl f0)), (h2, .inr (0, [.null, .int 0, .int 0, .int 0])), (h0, .inr (1, [.ref h1, .int 0, .int 0, .int 2]))] H := hP
  have hD : va_D A [(h1, .inl (k0, 16, .inl f0)), (h2, .inr (0, [.null, .int 0, .int 0, .int 0])), (h0, .inr (1, [.ref h1, .int 0, .int 0, .int 2]))] := hD
  refine lv_aload_n hx hb dJ0_init_db425_27 rfl (lv_at hl 2 rfl) ?_
  refine lv_aload_n hx hb dJ0_init_db425_28 rfl (lv_at hl 1 rfl) ?_
  refine lv_iconst (v := 0) hx hb dJ0_init_db425_29 (by decide) ?_
  refine lv_iload hx hb dJ0_init_db425_30 (lv_at hl 0 rfl) ?_
  have hPc := hP.sub (ws' := [(h1, .inl (k0, 16, .inl f0))]) [0] rfl
  have hDc := hD.sub (ws' := [(h1, .inl (k0, 16, .inl f0))]) [0] (by decide) rfl
  have hKc := hK.sub (tys' := [(k0, .byte)]) [0] rfl
  have hFc := va_free (wc := [(h1, .inl (k0, 16, .inl f0))]) hD hS hA [0] rfl
  refine va_callr (va_runS (As := [.ref h1, .int 0, .int 2]) (rest := [.ref h2]) ⟨hx, hb, hml, hown, hts⟩ (kx_J7_copyOfRange_39247_2 l dC dI h1 k0 H.size f0 f0_t) (va_cwS 3 hts gJ0_init_db425_J7_copyOfRange_39247 rfl rfl rfl (by decide +kernel) ⟨Nat.le_of_ble_eq_true rfl, Nat.le_of_ble_eq_true rfl⟩) ⟨fun a U g mk q => by obtain ⟨q0, q1, qP, qK, qD⟩ := q; exact ⟨q0, q1, qP, va_K.moved (u := U) (U := U.calling g mk a) (Vm.Alike.refl U.vm) qK, qD⟩, fun U hU hW => ⟨rfl, by rw [hU], by rw [hU]; exact hPc, va_K.moved hW.alike hKc, hDc.weaken (fun _ _ _ _ => trivial)⟩⟩ rfl rfl hl.1 rfl (lv_room (Nat.le_of_ble_eq_true rfl)) dJ0_init_db425_32 ⟨Nat.le_of_ble_eq_true rfl, Nat.le_of_ble_eq_true rfl⟩) hS (fun q _ h => hFc q h) hFc (fun u ra t H1 locs ht hvm hw hB hz1 hk1 hS => ?_)
  obtain ⟨q1, cq2, f3, f3_t, hra, hP1, hK1, hD1⟩ := hB
  rw [hra]
  rw [ht] at hP1
  have hK1 := va_K.moved hvm.symm hK1
  obtain ⟨hP, hD⟩ := va_join (wr := [(h2, .inr (0, [.null, .int 0, .int 0, .int 0])), (h0, .inr (1, [.ref h1, .int 0, .int 0, .int 2]))]) (w1 := [(h1, .inl (k0, 16, .inl f0)), (q1, .inl (cq2, 2, .inl f3))]) hP hD [0] [1, 2] rfl rfl (by decide) (by decide) hk1 hFc hP1 hD1
  have hK := hK.app (hK1.sub (tys' := [(cq2, .byte)]) [1] rfl)
  generalize H1 = H at hP hS ⊢
  have hK : va_K (dC, dI) vwCl [(k0, .byte), (cq2, .byte)] s := hK
  have hP : va_P (dC, dI) vwCl [(h2, .inr (0, [.null, .int 0, .int 0, .int 0])), (h0, .inr (1, [.ref h1, .int 0, .int 0, .int 2])), (h1, .inl (k0, 16, .inl f0)), (q1, .inl (cq2, 2, .inl f3))] H := hP
  have hD : va_D A [(h2, .inr (0, [.null, .int 0, .int 0, .int 0])), (h0, .inr (1, [.ref h1, .int 0, .int 0, .int 2])), (h1, .inl (k0, 16, .inl f0)), (q1, .inl (cq2, 2, .inl f3))] := hD
  refine W.widen (k := 1) (n := 2) (by omega) (by omega) ?_
  refine va_putF (D := (dC, dI)) (ci := 0) (v := .ref q1) (ty := .array .byte) (C := RJ0) (T := TJ0) (N := 4) hx hb hts (by decide +kernel) tyJ0 tyJ0_ok nmJ0 hown hK hP hD hS 0 rfl rfl 0 (by decide) (hts (.fieldLink RJ0 9 "java/lang/String" "value" "[B") (by decide +kernel)) (fun _ h9 => h9) rfl hin rfl (by decide +kernel) rfl rfl (Nat.le_of_ble_eq_true rfl) dJ0_init_db425_35 (fun H locs hP hD hS => ?_)
  have hP : va_P (dC, dI) vwCl [(h2, .inr (0, [.ref q1, .int 0, .int 0, .int 0])), (h0, .inr (1, [.ref h1, .int 0, .int 0, .int 2])), (h1, .inl (k0, 16, .inl f0)), (q1, .inl (cq2, 2, .inl f3))] H := hP
  have hD : va_D A [(h2, .inr (0, [.ref q1, .int 0, .int 0, .int 0])), (h0, .inr (1, [.ref h1, .int 0, .int 0, .int 2])), (h1, .inl (k0, 16, .inl f0)), (q1, .inl (cq2, 2, .inl f3))] := hD
  refine lv_goto (tgt := 97) hx hb dJ0_init_db425_38 (by decide) ?_
  have hP := hP.sub (ws' := [(h0, .inr (1, [.ref h1, .int 0, .int 0, .int 2])), (h1, .inl (k0, 16, .inl f0)), (h2, .inr (0, [.ref q1, .int 0, .int 0, .int 0])), (q1, .inl (cq2, 2, .inl f3))]) [1, 2, 0, 3] rfl
  have hD := hD.sub (ws' := [(h0, .inr (1, [.ref h1, .int 0, .int 0, .int 2])), (h1, .inl (k0, 16, .inl f0)), (h2, .inr (0, [.ref q1, .int 0, .int 0, .int 0])), (q1, .inl (cq2, 2, .inl f3))]) [1, 2, 0, 3] (by decide) rfl
  exact W.vret hx hb hr (fun t ht hW => ⟨⟨(), rfl, trivial, q1, cq2, f3, f3_t, by rw [ht]; exact hP, va_K.moved hW.alike hK, hD⟩, hS.F ht⟩) hS.2.2 dJ0_init_db425_97
set_option maxHeartbeats 4000000 in
set_option maxRecDepth 100000 in
theorem kx_J0_init_81219_2 (l : Launch) (dC : Nat → ClassId) (dI : Nat → Nat → Nat) (ge5 gea gv5 gva gde gic gi0 : Nat) (h0 : Nat) (h1 : Nat) (h2 : Nat) (k0 : ClassId) (sz : Nat) (f0 : Nat → Int32) (f0_t : sb_Fit f0) : Met l yJ0_init_81219 wsJ0_init_81219 ({ frames := 4, cells := 1, slots := 2, locals := 130 }) (va_Pc [.ref h2, .ref h0] (fun U => U.heap.size = sz ∧ va_P (dC, dI) vwCl [(h0, .inr (1, [.ref h1, .int 0, .int 0, .int 2])), (h1, .inl (k0, 16, .inl f0)), (h2, .inr (0, [.null, .int 0, .int 0, .int 0]))] U.heap ∧ va_K (dC, dI) vwCl [(k0, .byte)] U ∧ va_D (fun _ => True) [(h0, .inr (1, [.ref h1, .int 0, .int 0, .int 2])), (h1, .inl (k0, 16, .inl f0)), (h2, .inr (0, [.null, .int 0, .int 0, .int 0]))] ∧ gv ge5 gea gv5 gva gde gic gi0 (va_A [(h0, .inr (1, [.ref h1, .int 0, .int 0, .int 2])), (h1, .inl (k0, 16, .inl f0)), (h2, .inr (0, [.null, .int 0, .int 0, .int 0]))] sz) U U.heap)) (va_Qv (fun _ : Unit => True) (fun (_ : Unit) (t : State) => ∃ q1 : Nat, ∃ cq2 : ClassId, ∃ f3 : Nat → Int32, sb_Fit f3 ∧ va_P (dC, dI) vwCl [(h0, .inr (1, [.ref h1, .int 0, .int 0, .int 2])), (h1, .inl (k0, 16, .inl f0)), (h2, .inr (0, [.ref q1, .int 0, .int 0, .int 0])), (q1, .inl (cq2, 2, .inl f3))] t.heap ∧ va_K (dC, dI) vwCl [(k0, .byte), (cq2, .byte)] t ∧ va_D (va_A [(h0, .inr (1, [.ref h1, .int 0, .int 0, .int 2])), (h1, .inl (k0, 16, .inl f0)), (h2, .inr (0, [.null, .int 0, .int 0, .int 0]))] sz) [(h0, .inr (1, [.ref h1, .int 0, .int 0, .int 2])), (h1, .inl (k0, 16, .inl f0)), (h2, .inr (0, [.ref q1, .int 0, .int 0, .int 0])), (q1, .inl (cq2, 2, .inl f3))]) (va_A [(h0, .inr (1, [.ref h1, .int 0, .int 0, .int 2])), (h1, .inl (k0, 16, .inl f0)), (h2, .inr (0, [.null, .int 0, .int 0, .int 0]))] sz)) 1 2 (va_A [(h0, .inr (1, [.ref h1, .int 0, .int 0, .int 2])), (h1, .inl (k0, 16, .inl f0)), (h2, .inr (0, [.null, .int 0, .int 0, .int 0]))] sz) := by
  refine Met.ofW (cc := cJ0_init_81219) (maxL := 2) (ret := none) (by decide) rfl ?_
  intro p e s m args below meth c s₁ B hml hv
  obtain ⟨rfl, hsz, hP, hK, hD0, hG⟩ := hv
  have hx := B.exec
  have hb := B.bytes
  have hr := B.returns
  have hts := atoms_spec (ws := wsJ0_init_81219) B.pre
  have hown : s.vm.findClass RJ0 = some m.cls := findClass_of_methodNamed B.named
  have hlocks := B.notSynchronized
  have hin : meth.name = "<init>" := (name_of_methodNamed B.named B.method).1
  subst hsz
  have hD := hD0.self (sz := s.heap.size)
  generalize hAe : va_A [(h0, .inr (1, [.ref h1, .int 0, .int 0, .int 2])), (h1, .inl (k0, 16, .inl f0)), (h2, .inr (0, [.null, .int 0, .int 0, .int 0]))] s.heap.size = A at hD hG ⊢
  obtain ⟨⟨g_AO_Text, g_AO_String, g_AO_Object, g_nm_RX1_20, g_nm_RX0_17, g_nm_RX3_31, g_nm_RX2_44, g_nm_RL_121, g_nf_RL_13, g_nf_RL_47, g_ca_IO, g_ca_IA, g_ca_IS, g_ca_IntObj, g_ca_StrObj, g_de_RT, g_de_EX, g_de_TH, g_nc_IA_IO, g_nc_IS_IO, g_nc_IS_IA⟩, ⟨g_s3, g_s5, g_sa, g_x278, g_x280, g_x282, g_x284, g_x286, g_x180, g_x238, g_x250⟩, ⟨g_o5, g_c5, g_v5, g_t5, g_oa, g_ca, g_va, g_ta, g_zc, g_zd, g_td, g_zf, g_zU, g_zN, g_zh, g_zk, g_tk, g_oi, g_vi⟩⟩ := id hG
  have hA : ∀ q : Nat, s.heap.size ≤ q → A q := fun q h => by rw [← hAe]; exact Or.inr h
  have hS : va_S A s.heap s.heap [] := va_S.rf
  have hP : va_P (dC, dI) vwCl [(h0, .inr (1, [.ref h1, .int 0, .int 0, .int 2])), (h1, .inl (k0, 16, .inl f0)), (h2, .inr (0, [.null, .int 0, .int 0, .int 0]))] s.heap := hP
  have hl := lv_entry ([.ref h2, .ref h0]) (n := 2) (Nat.le_of_ble_eq_true rfl)
  rw [lg_entry_eq]
  generalize (lg_sl ([.ref h2, .ref h0]) ++ List.replicate (2 - (lg_sl ([.ref h2, .ref h0])).length) Slot.unset).toArray = ls at hl ⊢
  have hl : lv_has ls 2 [(0, .ref h2), (1, .ref h0)] := hl
  refine lv_aload_n hx hb dJ0_init_81219_0 rfl (lv_at hl 0 rfl) ?_
  refine lv_aload_n hx hb dJ0_init_81219_1 rfl (lv_at hl 1 rfl) ?_
  refine lv_null hx hb dJ0_init_81219_2 ?_
  have hPc := hP.sub (ws' := [(h0, .inr (1, [.ref h1, .int 0, .int 0, .int 2])), (h1, .inl (k0, 16, .inl f0)), (h2, .inr (0, [.null, .int 0, .int 0, .int 0]))]) [0, 1, 2] rfl
  have hDc := hD.sub (ws' := [(h0, .inr (1, [.ref h1, .int 0, .int 0, .int 2])), (h1, .inl (k0, 16, .inl f0)), (h2, .inr (0, [.null, .int 0, .int 0, .int 0]))]) [0, 1, 2] (by decide) rfl
  have hKc := hK.sub (tys' := [(k0, .byte)]) [0] rfl
  have hFc := va_free (wc := [(h0, .inr (1, [.ref h1, .int 0, .int 0, .int 2])), (h1, .inl (k0, 16, .inl f0)), (h2, .inr (0, [.null, .int 0, .int 0, .int 0]))]) hD hS hA [0, 1, 2] rfl
  refine va_callv (va_runI (As := [.ref h0, .null]) (rest := []) ⟨hx, hb, hml, hown, hts⟩ (kx_J0_init_db425_2 l dC dI ge5 gea gv5 gva gde gic gi0 h0 h1 h2 k0 s.heap.size f0 f0_t) (cwI 2 hts gJ0_init_81219_J0_init_db425 rfl rfl rfl (hts (.initialized RJ0) (by decide +kernel)) (hts (.methodLink RJ0 489 yJ0_init_db425) (by decide +kernel)) (hts (.instanceMethod yJ0_init_db425) (by decide +kernel)) rfl (by decide +kernel) ⟨Nat.le_of_ble_eq_true rfl, Nat.le_of_ble_eq_true rfl⟩) ⟨fun a U g mk q => by obtain ⟨q0, q1, qP, qK, qD, qG⟩ := q; exact ⟨q0, q1, qP, va_K.moved (u := U) (U := U.calling g mk a) (Vm.Alike.refl U.vm) qK, qD, gv.fb qG⟩, fun U hU hW => ⟨rfl, by rw [hU], by rw [hU]; exact hPc, va_K.moved hW.alike hKc, hDc.weaken (fun _ _ _ _ => trivial), gv.pass hW hU hS hFc hG⟩⟩ rfl rfl hl.1 rfl (lv_room (Nat.le_of_ble_eq_true rfl)) dJ0_init_81219_3 ⟨Nat.le_of_ble_eq_true rfl, Nat.le_of_ble_eq_true rfl⟩) hS (fun q _ h => hFc q h) hFc (fun u t H1 locs ht hvm hw hB hz1 hk1 hS => ?_)
  obtain ⟨q1, cq2, f3, f3_t, hP1, hK1, hD1⟩ := hB
  rw [ht] at hP1
  have hK1 := va_K.moved hvm.symm hK1
  obtain ⟨hP, hD⟩ := va_join (wr := []) (w1 := [(h0, .inr (1, [.ref h1, .int 0, .int 0, .int 2])), (h1, .inl (k0, 16, .inl f0)), (h2, .inr (0, [.ref q1, .int 0, .int 0, .int 0])), (q1, .inl (cq2, 2, .inl f3))]) hP hD [0, 1, 2] [] rfl rfl (by decide) (by decide) hk1 hFc hP1 hD1
  have hK := hK.app (hK1.sub (tys' := [(cq2, .byte)]) [1] rfl)
  generalize H1 = H at hP hS ⊢
  have hK : va_K (dC, dI) vwCl [(k0, .byte), (cq2, .byte)] s := hK
  have hP : va_P (dC, dI) vwCl [(h0, .inr (1, [.ref h1, .int 0, .int 0, .int 2])), (h1, .inl (k0, 16, .inl f0)), (h2, .inr (0, [.ref q1, .int 0, .int 0, .int 0])), (q1, .inl (cq2, 2, .inl f3))] H := hP
  have hD : va_D A [(h0, .inr (1, [.ref h1, .int 0, .int 0, .int 2])), (h1, .inl (k0, 16, .inl f0)), (h2, .inr (0, [.ref q1, .int 0, .int 0, .int 0])), (q1, .inl (cq2, 2, .inl f3))] := hD
  refine W.widen (k := 1) (n := 2) (by omega) (by omega) ?_
  exact W.vret hx hb hr (fun t ht hW => ⟨⟨(), rfl, trivial, q1, cq2, f3, f3_t, by rw [ht]; exact hP, va_K.moved hW.alike hK, hD⟩, hS.F ht⟩) hS.2.2 dJ0_init_81219_6
set_option maxHeartbeats 4000000 in
set_option maxRecDepth 100000 in
theorem kx_J4_toString_0e30d_2 (l : Launch) (dC : Nat → ClassId) (dI : Nat → Nat → Nat) (ge5 gea gv5 gva gde gic gi0 : Nat) (h0 : Nat) (h1 : Nat) (k0 : ClassId) (sz : Nat) (f0 : Nat → Int32) (f0_t : sb_Fit f0) : Met l yJ4_toString_0e30d wsJ4_toString_0e30d ({ frames := 5, cells := 2, slots := 6, locals := 151 }) (va_Pc [.ref h0] (fun U => U.heap.size = sz ∧ va_P (dC, dI) vwCl [(h0, .inr (1, [.ref h1, .int 0, .int 0, .int 2])), (h1, .inl (k0, 16, .inl f0))] U.heap ∧ va_K (dC, dI) vwCl [(k0, .byte)] U ∧ va_D (fun _ => True) [(h0, .inr (1, [.ref h1, .int 0, .int 0, .int 2])), (h1, .inl (k0, 16, .inl f0))] ∧ gv ge5 gea gv5 gva gde gic gi0 (va_A [(h0, .inr (1, [.ref h1, .int 0, .int 0, .int 2])), (h1, .inl (k0, 16, .inl f0))] sz) U U.heap)) (va_Qr (fun _ : Unit => True) (fun (_ : Unit) (ra : Nat) (t : State) => ∃ q1 : Nat, ∃ q2 : Nat, ∃ cq3 : ClassId, ∃ f4 : Nat → Int32, sb_Fit f4 ∧ ra = q1 ∧ va_P (dC, dI) vwCl [(h0, .inr (1, [.ref h1, .int 0, .int 0, .int 2])), (h1, .inl (k0, 16, .inl f0)), (q1, .inr (0, [.ref q2, .int 0, .int 0, .int 0])), (q2, .inl (cq3, 2, .inl f4))] t.heap ∧ va_K (dC, dI) vwCl [(k0, .byte), (cq3, .byte)] t ∧ va_D (va_A [(h0, .inr (1, [.ref h1, .int 0, .int 0, .int 2])), (h1, .inl (k0, 16, .inl f0))] sz) [(h0, .inr (1, [.ref h1, .int 0, .int 0, .int 2])), (h1, .inl (k0, 16, .inl f0)), (q1, .inr (0, [.ref q2, .int 0, .int 0, .int 0])), (q2, .inl (cq3, 2, .inl f4))]) (va_A [(h0, .inr (1, [.ref h1, .int 0, .int 0, .int 2])), (h1, .inl (k0, 16, .inl f0))] sz)) 2 6 (va_A [(h0, .inr (1, [.ref h1, .int 0, .int 0, .int 2])), (h1, .inl (k0, 16, .inl f0))] sz) := by
  refine Met.ofW (cc := cJ4_toString_0e30d) (maxL := 1) (ret := (some (.object "java/lang/String"))) (by decide) rfl ?_
  intro p e s m args below meth c s₁ B hml hv
  obtain ⟨rfl, hsz, hP, hK, hD0, hG⟩ := hv
  have hx := B.exec
  have hb := B.bytes
  have hr := B.returns
  have hts := atoms_spec (ws := wsJ4_toString_0e30d) B.pre
  have hown : s.vm.findClass RJ4 = some m.cls := findClass_of_methodNamed B.named
  have hlocks := B.notSynchronized
  subst hsz
  have hD := hD0.self (sz := s.heap.size)
  generalize hAe : va_A [(h0, .inr (1, [.ref h1, .int 0, .int 0, .int 2])), (h1, .inl (k0, 16, .inl f0))] s.heap.size = A at hD hG ⊢
  obtain ⟨⟨g_AO_Text, g_AO_String, g_AO_Object, g_nm_RX1_20, g_nm_RX0_17, g_nm_RX3_31, g_nm_RX2_44, g_nm_RL_121, g_nf_RL_13, g_nf_RL_47, g_ca_IO, g_ca_IA, g_ca_IS, g_ca_IntObj, g_ca_StrObj, g_de_RT, g_de_EX, g_de_TH, g_nc_IA_IO, g_nc_IS_IO, g_nc_IS_IA⟩, ⟨g_s3, g_s5, g_sa, g_x278, g_x280, g_x282, g_x284, g_x286, g_x180, g_x238, g_x250⟩, ⟨g_o5, g_c5, g_v5, g_t5, g_oa, g_ca, g_va, g_ta, g_zc, g_zd, g_td, g_zf, g_zU, g_zN, g_zh, g_zk, g_tk, g_oi, g_vi⟩⟩ := id hG
  have hA : ∀ q : Nat, s.heap.size ≤ q → A q := fun q h => by rw [← hAe]; exact Or.inr h
  have hS : va_S A s.heap s.heap [] := va_S.rf
  have hP : va_P (dC, dI) vwCl [(h0, .inr (1, [.ref h1, .int 0, .int 0, .int 2])), (h1, .inl (k0, 16, .inl f0))] s.heap := hP
  have hl := lv_entry ([.ref h0]) (n := 1) (Nat.le_of_ble_eq_true rfl)
  rw [lg_entry_eq]
  generalize (lg_sl ([.ref h0]) ++ List.replicate (1 - (lg_sl ([.ref h0])).length) Slot.unset).toArray = ls at hl ⊢
  have hl : lv_has ls 1 [(0, .ref h0)] := hl
  refine va_new (ci := 0) (fs := [.null, .int 0, .int 0, .int 0]) (C := RJ0) (T := TJ0) (N := 4) hx hb hts (by decide +kernel) tyJ0 tyJ0_ok hown (hts (.classLink RJ4 18 RJ0) (by decide +kernel)) (hts (.instantiable RJ0 4) (by decide +kernel)) (hts (.initialized RJ0) (by decide +kernel)) hK hP hD hS hA rfl (fun j hj => by rcases (show j = 0 ∨ j = 1 ∨ j = 2 ∨ j = 3 by omega) with rfl | rfl | rfl | rfl <;> rfl) (Nat.le_of_ble_eq_true rfl) (Nat.le_of_ble_eq_true rfl) dJ4_toString_0e30d_0 (fun q1 H hP hD hS => ?_)
  have hP : va_P (dC, dI) vwCl [(h0, .inr (1, [.ref h1, .int 0, .int 0, .int 2])), (h1, .inl (k0, 16, .inl f0)), (q1, .inr (0, [.null, .int 0, .int 0, .int 0]))] H := hP
  have hD : va_D A [(h0, .inr (1, [.ref h1, .int 0, .int 0, .int 2])), (h1, .inl (k0, 16, .inl f0)), (q1, .inr (0, [.null, .int 0, .int 0, .int 0]))] := hD
  refine W.widen (k := 1) (n := 4) (by omega) (by omega) ?_
  refine lv_dup hx hb dJ4_toString_0e30d_3 rfl ?_
  refine lv_aload_n hx hb dJ4_toString_0e30d_4 rfl (lv_at hl 0 rfl) ?_
  have hPc := hP.sub (ws' := [(h0, .inr (1, [.ref h1, .int 0, .int 0, .int 2])), (h1, .inl (k0, 16, .inl f0)), (q1, .inr (0, [.null, .int 0, .int 0, .int 0]))]) [0, 1, 2] rfl
  have hDc := hD.sub (ws' := [(h0, .inr (1, [.ref h1, .int 0, .int 0, .int 2])), (h1, .inl (k0, 16, .inl f0)), (q1, .inr (0, [.null, .int 0, .int 0, .int 0]))]) [0, 1, 2] (by decide) rfl
  have hKc := hK.sub (tys' := [(k0, .byte)]) [0] rfl
  have hFc := va_free (wc := [(h0, .inr (1, [.ref h1, .int 0, .int 0, .int 2])), (h1, .inl (k0, 16, .inl f0)), (q1, .inr (0, [.null, .int 0, .int 0, .int 0]))]) hD hS hA [0, 1, 2] rfl
  refine va_callv (va_runI (As := [.ref h0]) (rest := [.ref q1]) ⟨hx, hb, hml, hown, hts⟩ (kx_J0_init_81219_2 l dC dI ge5 gea gv5 gva gde gic gi0 h0 h1 q1 k0 H.size f0 f0_t) (cwI 1 hts gJ4_toString_0e30d_J0_init_81219 rfl rfl rfl (hts (.initialized RJ0) (by decide +kernel)) (hts (.methodLink RJ4 137 yJ0_init_81219) (by decide +kernel)) (hts (.instanceMethod yJ0_init_81219) (by decide +kernel)) rfl (by decide +kernel) ⟨Nat.le_of_ble_eq_true rfl, Nat.le_of_ble_eq_true rfl⟩) ⟨fun a U g mk q => by obtain ⟨q0, q1, qP, qK, qD, qG⟩ := q; exact ⟨q0, q1, qP, va_K.moved (u := U) (U := U.calling g mk a) (Vm.Alike.refl U.vm) qK, qD, gv.fb qG⟩, fun U hU hW => ⟨rfl, by rw [hU], by rw [hU]; exact hPc, va_K.moved hW.alike hKc, hDc.weaken (fun _ _ _ _ => trivial), gv.pass hW hU hS hFc hG⟩⟩ rfl rfl hl.1 rfl (lv_room (Nat.le_of_ble_eq_true rfl)) dJ4_toString_0e30d_5 ⟨Nat.le_of_ble_eq_true rfl, Nat.le_of_ble_eq_true rfl⟩) hS (fun q _ h => hFc q h) hFc (fun u t H1 locs ht hvm hw hB hz1 hk1 hS => ?_)
  obtain ⟨q2, cq3, f4, f4_t, hP1, hK1, hD1⟩ := hB
  rw [ht] at hP1
  have hK1 := va_K.moved hvm.symm hK1
  obtain ⟨hP, hD⟩ := va_join (wr := []) (w1 := [(h0, .inr (1, [.ref h1, .int 0, .int 0, .int 2])), (h1, .inl (k0, 16, .inl f0)), (q1, .inr (0, [.ref q2, .int 0, .int 0, .int 0])), (q2, .inl (cq3, 2, .inl f4))]) hP hD [0, 1, 2] [] rfl rfl (by decide) (by decide) hk1 hFc hP1 hD1
  have hK := hK.app (hK1.sub (tys' := [(cq3, .byte)]) [1] rfl)
  generalize H1 = H at hP hS ⊢
  have hK : va_K (dC, dI) vwCl [(k0, .byte), (cq3, .byte)] s := hK
  have hP : va_P (dC, dI) vwCl [(h0, .inr (1, [.ref h1, .int 0, .int 0, .int 2])), (h1, .inl (k0, 16, .inl f0)), (q1, .inr (0, [.ref q2, .int 0, .int 0, .int 0])), (q2, .inl (cq3, 2, .inl f4))] H := hP
  have hD : va_D A [(h0, .inr (1, [.ref h1, .int 0, .int 0, .int 2])), (h1, .inl (k0, 16, .inl f0)), (q1, .inr (0, [.ref q2, .int 0, .int 0, .int 0])), (q2, .inl (cq3, 2, .inl f4))] := hD
  refine W.widen (k := 2) (n := 6) (by omega) (by omega) ?_
  exact W.aret (v := .ref q1) hx hb hr (Or.inl ⟨_, rfl⟩) (Or.inr ⟨_, rfl⟩) (fun t ht hW => ⟨⟨(), q1, rfl, trivial, q1, q2, cq3, f4, f4_t, rfl, by rw [ht]; exact hP, va_K.moved hW.alike hK, hD⟩, hS.F ht⟩) hS.2.2 dJ4_toString_0e30d_8
set_option maxHeartbeats 8000000 in
set_option maxRecDepth 100000 in
theorem kx_X5_type_h520 {l : Launch} {dC : Nat → ClassId} {dI : Nat → Nat → Nat} {ge5 gea gv5 gva gde gic gi0 : Nat} {h0 h1 h2 h3 h4 z0 z1 : Nat} {k0 k1 k2 : ClassId} {rp l1 l2 l3 l4 l5 R v : Int32} {p : Program} {e : Env} {s : State} {m : MethodId} {args : Array Value} {below : List Frame} {meth : Method} {c : Code} {A : Nat → Prop} {H : Heap} {locs : List Loc} {ls : Array Slot} {f0 : Nat → Int32} (f0_t : sb_Fit f0) (hR : kz_ty rp 2 0 [] = (R, v)) (hx : p.tables.exec = Jvm.exec) (hb : c.code = cX5_type) (hr : meth.sig.returnType = some .int) (hml : c.maxLocals = 14) (hown : s.vm.findClass RX5 = some m.cls) (hts : ∀ w ∈ wsX5_type, w.before args s = true) (hlocks : meth.locks = false) (hA : ∀ q : Nat, s.heap.size ≤ q → A q) (hG : gv ge5 gea gv5 gva gde gic gi0 A s s.heap) (hS : va_S A s.heap H locs) (hK : va_K (dC, dI) vwCl [(k0, .object "java/lang/String"), (k1, .int), (k2, .byte)] s) (hP : va_P (dC, dI) vwCl [(h0, .inr (9, [.int 0, .ref h1, .ref z0, .ref z1, .int 0, .int 0, .int 0])), (h1, .inl (k0, 4, .inr (.inr (.inr (.inr (va_up (va_up (va_up (va_up (fun _ => none) 0 (some ge5)) 1 (some ge5)) 2 (some ge5)) 3 (some ge5))))))), (h2, .inl (k1, 5, .inl (upd (upd (upd (upd (upd (fun _ => 0) 0 l1) 1 l2) 2 l3) 3 l4) 4 l5))), (h3, .inr (0, [.ref h4, .int 0, .int 0, .int 0])), (h4, .inl (k2, 2, .inl f0))] H) (hD : va_D A [(h0, .inr (9, [.int 0, .ref h1, .ref z0, .ref z1, .int 0, .int 0, .int 0])), (h1, .inl (k0, 4, .inr (.inr (.inr (.inr (va_up (va_up (va_up (va_up (fun _ => none) 0 (some ge5)) 1 (some ge5)) 2 (some ge5)) 3 (some ge5))))))), (h2, .inl (k1, 5, .inl (upd (upd (upd (upd (upd (fun _ => 0) 0 l1) 1 l2) 2 l3) 3 l4) 4 l5))), (h3, .inr (0, [.ref h4, .int 0, .int 0, .int 0])), (h4, .inl (k2, 2, .inl f0))]) (hl : lv_has ls 14 [(0, .ref h0), (1, .int rp), (7, .ref h2), (8, .int 0), (9, .ref h3), (10, .ref h2), (11, .int 5), (12, .int 5)]) : W p l e (headSpec wsX5_type ({ frames := 6, cells := 25, slots := 169, locals := 171 })).room s m args below meth c H locs 9 56 (MQ below (va_Qi (fun (r : Int32) (_ : Unit) => r = R) (fun (_ : Unit) (t : State) => va_P (dC, dI) vwCl [(h0, .inr (9, [.int v, .ref h1, .ref z0, .ref z1, .int 0, .int 0, .int 0]))] t.heap ∧ va_K (dC, dI) vwCl [(k0, .object "java/lang/String")] t ∧ va_D A [(h0, .inr (9, [.int v, .ref h1, .ref z0, .ref z1, .int 0, .int 0, .int 0]))]) A) args s 25 169 A) (F0 m 47 ls []) := by
  obtain ⟨⟨g_AO_Text, g_AO_String, g_AO_Object, g_nm_RX1_20, g_nm_RX0_17, g_nm_RX3_31, g_nm_RX2_44, g_nm_RL_121, g_nf_RL_13, g_nf_RL_47, g_ca_IO, g_ca_IA, g_ca_IS, g_ca_IntObj, g_ca_StrObj, g_de_RT, g_de_EX, g_de_TH, g_nc_IA_IO, g_nc_IS_IO, g_nc_IS_IA⟩, ⟨g_s3, g_s5, g_sa, g_x278, g_x280, g_x282, g_x284, g_x286, g_x180, g_x238, g_x250⟩, ⟨g_o5, g_c5, g_v5, g_t5, g_oa, g_ca, g_va, g_ta, g_zc, g_zd, g_td, g_zf, g_zU, g_zN, g_zh, g_zk, g_tk, g_oi, g_vi⟩⟩ := id hG
  have a9 := Int32.le_toInt rp
  have b9 := Int32.toInt_lt rp
  rcases Int.lt_or_le rp.toInt 0 with r9 | r9
  · have rp_l : ((-2147483648) : Int) ≤ rp.toInt := by omega
    have rp_u : rp.toInt ≤ ((-1) : Int) := by omega
    have hR9 : ((0 : Int32), (1 : Int32)) = (R, v) := (show ((0 : Int32), (1 : Int32)) = kz_ty rp 2 0 [] from ((kz_ty_R0 (by omega) [] 2 0).trans (by decide)).symm).trans hR
    obtain ⟨rfl, rfl⟩ := Prod.mk.inj hR9
    refine lv_iload hx hb dX5_type_47 (lv_at hl 7 rfl) ?_
    refine lv_iload hx hb dX5_type_49 (lv_at hl 6 rfl) ?_
    refine lv_icmp_ge (tgt := 124) hx hb dX5_type_51 (by decide) (fun _ => ?_) (fun c9 => absurd (by decide) c9)
    refine lv_aload_n hx hb dX5_type_124 rfl (lv_at hl 0 rfl) ?_
    refine lv_iload_n hx hb dX5_type_125 rfl (lv_at hl 1 rfl) ?_
    have hPc := hP.sub (ws' := []) [] rfl
    have hDc := hD.sub (ws' := []) [] (by decide) rfl
    have hKc := hK.sub (tys' := []) [] rfl
    have hFc := va_free (wc := []) hD hS hA [] rfl
    refine va_calli (va_runS (As := [.int rp]) (rest := [.ref h0]) ⟨hx, hb, hml, hown, hts⟩ (kx_X5_isNo_0 l dC dI H.size rp rp_l rp_u) (cwS 1 hts gX5_type_X5_isNo rfl rfl rfl (by decide +kernel) ⟨Nat.le_of_ble_eq_true rfl, Nat.le_of_ble_eq_true rfl⟩) ⟨fun a U g mk q => by obtain ⟨q0, q1, qP, qK, qD⟩ := q; exact ⟨q0, q1, qP, va_K.moved (u := U) (U := U.calling g mk a) (Vm.Alike.refl U.vm) qK, qD⟩, fun U hU hW => ⟨rfl, by rw [hU], by rw [hU]; exact hPc, va_K.moved hW.alike hKc, hDc.weaken (fun _ _ _ _ => trivial)⟩⟩ rfl rfl hl.1 rfl (lv_room (Nat.le_of_ble_eq_true rfl)) dX5_type_126 ⟨Nat.le_of_ble_eq_true rfl, Nat.le_of_ble_eq_true rfl⟩) hS (fun q _ h => hFc q h) hFc (fun r9 u t H1 locs ht hvm hw hB hz1 hk1 hS => ?_)
    obtain rfl := hw
    obtain ⟨hP1, hK1, hD1⟩ := hB
    rw [ht] at hP1
    have hK1 := va_K.moved hvm.symm hK1
    obtain ⟨hP, hD⟩ := va_join (wr := [(h0, .inr (9, [.int 0, .ref h1, .ref z0, .ref z1, .int 0, .int 0, .int 0])), (h1, .inl (k0, 4, .inr (.inr (.inr (.inr (va_up (va_up (va_up (va_up (fun _ => none) 0 (some ge5)) 1 (some ge5)) 2 (some ge5)) 3 (some ge5))))))), (h2, .inl (k1, 5, .inl (upd (upd (upd (upd (upd (fun _ => 0) 0 l1) 1 l2) 2 l3) 3 l4) 4 l5))), (h3, .inr (0, [.ref h4, .int 0, .int 0, .int 0])), (h4, .inl (k2, 2, .inl f0))]) (w1 := []) hP hD [] [0, 1, 2, 3, 4] rfl rfl (by decide) (by decide) hk1 hFc hP1 hD1
    generalize H1 = H at hP hS ⊢
    have hP : va_P (dC, dI) vwCl [(h0, .inr (9, [.int 0, .ref h1, .ref z0, .ref z1, .int 0, .int 0, .int 0])), (h1, .inl (k0, 4, .inr (.inr (.inr (.inr (va_up (va_up (va_up (va_up (fun _ => none) 0 (some ge5)) 1 (some ge5)) 2 (some ge5)) 3 (some ge5))))))), (h2, .inl (k1, 5, .inl (upd (upd (upd (upd (upd (fun _ => 0) 0 l1) 1 l2) 2 l3) 3 l4) 4 l5))), (h3, .inr (0, [.ref h4, .int 0, .int 0, .int 0])), (h4, .inl (k2, 2, .inl f0))] H := hP
    have hD : va_D A [(h0, .inr (9, [.int 0, .ref h1, .ref z0, .ref z1, .int 0, .int 0, .int 0])), (h1, .inl (k0, 4, .inr (.inr (.inr (.inr (va_up (va_up (va_up (va_up (fun _ => none) 0 (some ge5)) 1 (some ge5)) 2 (some ge5)) 3 (some ge5))))))), (h2, .inl (k1, 5, .inl (upd (upd (upd (upd (upd (fun _ => 0) 0 l1) 1 l2) 2 l3) 3 l4) 4 l5))), (h3, .inr (0, [.ref h4, .int 0, .int 0, .int 0])), (h4, .inl (k2, 2, .inl f0))] := hD
    refine lv_iload hx hb dX5_type_129 (lv_at hl 3 rfl) ?_
    refine lv_iload_n hx hb dX5_type_131 rfl (lv_at hl 1 rfl) ?_
    have hPc := hP.sub (ws' := []) [] rfl
    have hDc := hD.sub (ws' := []) [] (by decide) rfl
    have hKc := hK.sub (tys' := []) [] rfl
    have hFc := va_free (wc := []) hD hS hA [] rfl
    refine va_calli (va_runS (As := [.int rp]) (rest := [.int 0, .int 1, .ref h0]) ⟨hx, hb, hml, hown, hts⟩ (kx_X5_isNo_0 l dC dI H.size rp rp_l rp_u) (cwS 1 hts gX5_type_X5_isNo rfl rfl rfl (by decide +kernel) ⟨Nat.le_of_ble_eq_true rfl, Nat.le_of_ble_eq_true rfl⟩) ⟨fun a U g mk q => by obtain ⟨q0, q1, qP, qK, qD⟩ := q; exact ⟨q0, q1, qP, va_K.moved (u := U) (U := U.calling g mk a) (Vm.Alike.refl U.vm) qK, qD⟩, fun U hU hW => ⟨rfl, by rw [hU], by rw [hU]; exact hPc, va_K.moved hW.alike hKc, hDc.weaken (fun _ _ _ _ => trivial)⟩⟩ rfl rfl hl.1 rfl (lv_room (Nat.le_of_ble_eq_true rfl)) dX5_type_132 ⟨Nat.le_of_ble_eq_true rfl, Nat.le_of_ble_eq_true rfl⟩) hS (fun q _ h => hFc q h) hFc (fun r9 u t H1 locs ht hvm hw hB hz1 hk1 hS => ?_)
    obtain rfl := hw
    obtain ⟨hP1, hK1, hD1⟩ := hB
    rw [ht] at hP1
    have hK1 := va_K.moved hvm.symm hK1
    obtain ⟨hP, hD⟩ := va_join (wr := [(h0, .inr (9, [.int 0, .ref h1, .ref z0, .ref z1, .int 0, .int 0, .int 0])), (h1, .inl (k0, 4, .inr (.inr (.inr (.inr (va_up (va_up (va_up (va_up (fun _ => none) 0 (some ge5)) 1 (some ge5)) 2 (some ge5)) 3 (some ge5))))))), (h2, .inl (k1, 5, .inl (upd (upd (upd (upd (upd (fun _ => 0) 0 l1) 1 l2) 2 l3) 3 l4) 4 l5))), (h3, .inr (0, [.ref h4, .int 0, .int 0, .int 0])), (h4, .inl (k2, 2, .inl f0))]) (w1 := []) hP hD [] [0, 1, 2, 3, 4] rfl rfl (by decide) (by decide) hk1 hFc hP1 hD1
    generalize H1 = H at hP hS ⊢
    have hP : va_P (dC, dI) vwCl [(h0, .inr (9, [.int 0, .ref h1, .ref z0, .ref z1, .int 0, .int 0, .int 0])), (h1, .inl (k0, 4, .inr (.inr (.inr (.inr (va_up (va_up (va_up (va_up (fun _ => none) 0 (some ge5)) 1 (some ge5)) 2 (some ge5)) 3 (some ge5))))))), (h2, .inl (k1, 5, .inl (upd (upd (upd (upd (upd (fun _ => 0) 0 l1) 1 l2) 2 l3) 3 l4) 4 l5))), (h3, .inr (0, [.ref h4, .int 0, .int 0, .int 0])), (h4, .inl (k2, 2, .inl f0))] H := hP
    have hD : va_D A [(h0, .inr (9, [.int 0, .ref h1, .ref z0, .ref z1, .int 0, .int 0, .int 0])), (h1, .inl (k0, 4, .inr (.inr (.inr (.inr (va_up (va_up (va_up (va_up (fun _ => none) 0 (some ge5)) 1 (some ge5)) 2 (some ge5)) 3 (some ge5))))))), (h2, .inl (k1, 5, .inl (upd (upd (upd (upd (upd (fun _ => 0) 0 l1) 1 l2) 2 l3) 3 l4) 4 l5))), (h3, .inr (0, [.ref h4, .int 0, .int 0, .int 0])), (h4, .inl (k2, 2, .inl f0))] := hD
    refine lv_if_ne (tgt := 162) hx hb dX5_type_135 (by decide) (fun _ => ?_) (fun c9 => absurd c9 (by decide))
    refine lv_iconst (v := 0) hx hb dX5_type_162 (by decide) ?_
    have hPc := hP.sub (ws' := [(h0, .inr (9, [.int 0, .ref h1, .ref z0, .ref z1, .int 0, .int 0, .int 0]))]) [0] rfl
    have hDc := hD.sub (ws' := [(h0, .inr (9, [.int 0, .ref h1, .ref z0, .ref z1, .int 0, .int 0, .int 0]))]) [0] (by decide) rfl
    have hKc := hK.sub (tys' := []) [] rfl
    have hFc := va_free (wc := [(h0, .inr (9, [.int 0, .ref h1, .ref z0, .ref z1, .int 0, .int 0, .int 0]))]) hD hS hA [0] rfl
    refine va_calli (va_runV (As := [.int 1, .int 0, .int 0]) (rest := []) ⟨hx, hb, hml, hown, hts⟩ (kx_X5_fails_0 l dC dI h0 h1 z0 z1 H.size) (cwV 3 hts gX5_type_X5_fails rfl rfl rfl (by decide +kernel) ⟨Nat.le_of_ble_eq_true rfl, Nat.le_of_ble_eq_true rfl⟩) ⟨fun a U g mk q => by obtain ⟨q0, q1, qP, qK, qD⟩ := q; exact ⟨q0, q1, qP, va_K.moved (u := U) (U := U.calling g mk a) (Vm.Alike.refl U.vm) qK, qD⟩, va_recv hKc hPc (ci := 9) (q0 := 0) rfl rfl, fun U hU hW => ⟨rfl, by rw [hU], by rw [hU]; exact hPc, va_K.moved hW.alike hKc, hDc.weaken (fun _ _ _ _ => trivial)⟩⟩ rfl rfl hl.1 rfl (lv_room (Nat.le_of_ble_eq_true rfl)) dX5_type_163 ⟨Nat.le_of_ble_eq_true rfl, Nat.le_of_ble_eq_true rfl⟩) hS (fun q _ h => hFc q h) hFc (fun r9 u t H1 locs ht hvm hw hB hz1 hk1 hS => ?_)
    obtain rfl := hw
    obtain ⟨hP1, hK1, hD1⟩ := hB
    rw [ht] at hP1
    have hK1 := va_K.moved hvm.symm hK1
    obtain ⟨hP, hD⟩ := va_join (wr := [(h1, .inl (k0, 4, .inr (.inr (.inr (.inr (va_up (va_up (va_up (va_up (fun _ => none) 0 (some ge5)) 1 (some ge5)) 2 (some ge5)) 3 (some ge5))))))), (h2, .inl (k1, 5, .inl (upd (upd (upd (upd (upd (fun _ => 0) 0 l1) 1 l2) 2 l3) 3 l4) 4 l5))), (h3, .inr (0, [.ref h4, .int 0, .int 0, .int 0])), (h4, .inl (k2, 2, .inl f0))]) (w1 := [(h0, .inr (9, [.int 1, .ref h1, .ref z0, .ref z1, .int 0, .int 0, .int 0]))]) hP hD [0] [1, 2, 3, 4] rfl rfl (by decide) (by decide) hk1 hFc hP1 hD1
    generalize H1 = H at hP hS ⊢
    have hP : va_P (dC, dI) vwCl [(h1, .inl (k0, 4, .inr (.inr (.inr (.inr (va_up (va_up (va_up (va_up (fun _ => none) 0 (some ge5)) 1 (some ge5)) 2 (some ge5)) 3 (some ge5))))))), (h2, .inl (k1, 5, .inl (upd (upd (upd (upd (upd (fun _ => 0) 0 l1) 1 l2) 2 l3) 3 l4) 4 l5))), (h3, .inr (0, [.ref h4, .int 0, .int 0, .int 0])), (h4, .inl (k2, 2, .inl f0)), (h0, .inr (9, [.int 1, .ref h1, .ref z0, .ref z1, .int 0, .int 0, .int 0]))] H := hP
    have hD : va_D A [(h1, .inl (k0, 4, .inr (.inr (.inr (.inr (va_up (va_up (va_up (va_up (fun _ => none) 0 (some ge5)) 1 (some ge5)) 2 (some ge5)) 3 (some ge5))))))), (h2, .inl (k1, 5, .inl (upd (upd (upd (upd (upd (fun _ => 0) 0 l1) 1 l2) 2 l3) 3 l4) 4 l5))), (h3, .inr (0, [.ref h4, .int 0, .int 0, .int 0])), (h4, .inl (k2, 2, .inl f0)), (h0, .inr (9, [.int 1, .ref h1, .ref z0, .ref z1, .int 0, .int 0, .int 0]))] := hD
    refine lv_if_eq (tgt := 171) hx hb dX5_type_166 (by decide) (fun c9 => absurd c9 (by decide)) (fun _ => ?_)
    refine lv_iconst (v := 0) hx hb dX5_type_169 (by decide) ?_
    refine W.widen (k := 25) (n := 169) (Nat.le_of_ble_eq_true rfl) (Nat.le_of_ble_eq_true rfl) ?_
    have hK := hK.sub (tys' := [(k0, .object "java/lang/String")]) [0] rfl
    have hP := hP.sub (ws' := [(h0, .inr (9, [.int 1, .ref h1, .ref z0, .ref z1, .int 0, .int 0, .int 0]))]) [4] rfl
    have hD := hD.sub (ws' := [(h0, .inr (9, [.int 1, .ref h1, .ref z0, .ref z1, .int 0, .int 0, .int 0]))]) [4] (by decide) rfl
    exact W.iret (v := 0) hx hb hr (fun t ht hW => ⟨⟨0, (), rfl, rfl, by rw [ht]; exact hP, va_K.moved hW.alike hK, hD⟩, hS.F ht⟩) hS.2.2 dX5_type_170
  · rcases Int.lt_or_le rp.toInt 4 with r8 | r8
    · have rp_l : (0 : Int) ≤ rp.toInt := by omega
      have rp_u : rp.toInt ≤ (3 : Int) := by omega
      have hR9 : ((2 : Int32), (0 : Int32)) = (R, v) := (show ((2 : Int32), (0 : Int32)) = kz_ty rp 2 0 [] from ((kz_ty_e rp_l rp_u).trans (by decide)).symm).trans hR
      obtain ⟨rfl, rfl⟩ := Prod.mk.inj hR9
      refine lv_iload hx hb dX5_type_47 (lv_at hl 7 rfl) ?_
      refine lv_iload hx hb dX5_type_49 (lv_at hl 6 rfl) ?_
      refine lv_icmp_ge (tgt := 124) hx hb dX5_type_51 (by decide) (fun _ => ?_) (fun c9 => absurd (by decide) c9)
      refine lv_aload_n hx hb dX5_type_124 rfl (lv_at hl 0 rfl) ?_
      refine lv_iload_n hx hb dX5_type_125 rfl (lv_at hl 1 rfl) ?_
      have hPc := hP.sub (ws' := []) [] rfl
      have hDc := hD.sub (ws' := []) [] (by decide) rfl
      have hKc := hK.sub (tys' := []) [] rfl
      have hFc := va_free (wc := []) hD hS hA [] rfl
      refine va_calli (va_runS (As := [.int rp]) (rest := [.ref h0]) ⟨hx, hb, hml, hown, hts⟩ (kx_X5_isNo_1 l dC dI H.size rp rp_l rp_u) (cwS 1 hts gX5_type_X5_isNo rfl rfl rfl (by decide +kernel) ⟨Nat.le_of_ble_eq_true rfl, Nat.le_of_ble_eq_true rfl⟩) ⟨fun a U g mk q => by obtain ⟨q0, q1, qP, qK, qD⟩ := q; exact ⟨q0, q1, qP, va_K.moved (u := U) (U := U.calling g mk a) (Vm.Alike.refl U.vm) qK, qD⟩, fun U hU hW => ⟨rfl, by rw [hU], by rw [hU]; exact hPc, va_K.moved hW.alike hKc, hDc.weaken (fun _ _ _ _ => trivial)⟩⟩ rfl rfl hl.1 rfl (lv_room (Nat.le_of_ble_eq_true rfl)) dX5_type_126 ⟨Nat.le_of_ble_eq_true rfl, Nat.le_of_ble_eq_true rfl⟩) hS (fun q _ h => hFc q h) hFc (fun r9 u t H1 locs ht hvm hw hB hz1 hk1 hS => ?_)
      obtain rfl := hw
      obtain ⟨hP1, hK1, hD1⟩ := hB
      rw [ht] at hP1
      have hK1 := va_K.moved hvm.symm hK1
      obtain ⟨hP, hD⟩ := va_join (wr := [(h0, .inr (9, [.int 0, .ref h1, .ref z0, .ref z1, .int 0, .int 0, .int 0])), (h1, .inl (k0, 4, .inr (.inr (.inr (.inr (va_up (va_up (va_up (va_up (fun _ => none) 0 (some ge5)) 1 (some ge5)) 2 (some ge5)) 3 (some ge5))))))), (h2, .inl (k1, 5, .inl (upd (upd (upd (upd (upd (fun _ => 0) 0 l1) 1 l2) 2 l3) 3 l4) 4 l5))), (h3, .inr (0, [.ref h4, .int 0, .int 0, .int 0])), (h4, .inl (k2, 2, .inl f0))]) (w1 := []) hP hD [] [0, 1, 2, 3, 4] rfl rfl (by decide) (by decide) hk1 hFc hP1 hD1
      generalize H1 = H at hP hS ⊢
      have hP : va_P (dC, dI) vwCl [(h0, .inr (9, [.int 0, .ref h1, .ref z0, .ref z1, .int 0, .int 0, .int 0])), (h1, .inl (k0, 4, .inr (.inr (.inr (.inr (va_up (va_up (va_up (va_up (fun _ => none) 0 (some ge5)) 1 (some ge5)) 2 (some ge5)) 3 (some ge5))))))), (h2, .inl (k1, 5, .inl (upd (upd (upd (upd (upd (fun _ => 0) 0 l1) 1 l2) 2 l3) 3 l4) 4 l5))), (h3, .inr (0, [.ref h4, .int 0, .int 0, .int 0])), (h4, .inl (k2, 2, .inl f0))] H := hP
      have hD : va_D A [(h0, .inr (9, [.int 0, .ref h1, .ref z0, .ref z1, .int 0, .int 0, .int 0])), (h1, .inl (k0, 4, .inr (.inr (.inr (.inr (va_up (va_up (va_up (va_up (fun _ => none) 0 (some ge5)) 1 (some ge5)) 2 (some ge5)) 3 (some ge5))))))), (h2, .inl (k1, 5, .inl (upd (upd (upd (upd (upd (fun _ => 0) 0 l1) 1 l2) 2 l3) 3 l4) 4 l5))), (h3, .inr (0, [.ref h4, .int 0, .int 0, .int 0])), (h4, .inl (k2, 2, .inl f0))] := hD
      refine lv_iload hx hb dX5_type_129 (lv_at hl 3 rfl) ?_
      refine lv_iload_n hx hb dX5_type_131 rfl (lv_at hl 1 rfl) ?_
      have hPc := hP.sub (ws' := []) [] rfl
      have hDc := hD.sub (ws' := []) [] (by decide) rfl
      have hKc := hK.sub (tys' := []) [] rfl
      have hFc := va_free (wc := []) hD hS hA [] rfl
      refine va_calli (va_runS (As := [.int rp]) (rest := [.int 0, .int 0, .ref h0]) ⟨hx, hb, hml, hown, hts⟩ (kx_X5_isNo_1 l dC dI H.size rp rp_l rp_u) (cwS 1 hts gX5_type_X5_isNo rfl rfl rfl (by decide +kernel) ⟨Nat.le_of_ble_eq_true rfl, Nat.le_of_ble_eq_true rfl⟩) ⟨fun a U g mk q => by obtain ⟨q0, q1, qP, qK, qD⟩ := q; exact ⟨q0, q1, qP, va_K.moved (u := U) (U := U.calling g mk a) (Vm.Alike.refl U.vm) qK, qD⟩, fun U hU hW => ⟨rfl, by rw [hU], by rw [hU]; exact hPc, va_K.moved hW.alike hKc, hDc.weaken (fun _ _ _ _ => trivial)⟩⟩ rfl rfl hl.1 rfl (lv_room (Nat.le_of_ble_eq_true rfl)) dX5_type_132 ⟨Nat.le_of_ble_eq_true rfl, Nat.le_of_ble_eq_true rfl⟩) hS (fun q _ h => hFc q h) hFc (fun r9 u t H1 locs ht hvm hw hB hz1 hk1 hS => ?_)
      obtain rfl := hw
      obtain ⟨hP1, hK1, hD1⟩ := hB
      rw [ht] at hP1
      have hK1 := va_K.moved hvm.symm hK1
      obtain ⟨hP, hD⟩ := va_join (wr := [(h0, .inr (9, [.int 0, .ref h1, .ref z0, .ref z1, .int 0, .int 0, .int 0])), (h1, .inl (k0, 4, .inr (.inr (.inr (.inr (va_up (va_up (va_up (va_up (fun _ => none) 0 (some ge5)) 1 (some ge5)) 2 (some ge5)) 3 (some ge5))))))), (h2, .inl (k1, 5, .inl (upd (upd (upd (upd (upd (fun _ => 0) 0 l1) 1 l2) 2 l3) 3 l4) 4 l5))), (h3, .inr (0, [.ref h4, .int 0, .int 0, .int 0])), (h4, .inl (k2, 2, .inl f0))]) (w1 := []) hP hD [] [0, 1, 2, 3, 4] rfl rfl (by decide) (by decide) hk1 hFc hP1 hD1
      generalize H1 = H at hP hS ⊢
      have hP : va_P (dC, dI) vwCl [(h0, .inr (9, [.int 0, .ref h1, .ref z0, .ref z1, .int 0, .int 0, .int 0])), (h1, .inl (k0, 4, .inr (.inr (.inr (.inr (va_up (va_up (va_up (va_up (fun _ => none) 0 (some ge5)) 1 (some ge5)) 2 (some ge5)) 3 (some ge5))))))), (h2, .inl (k1, 5, .inl (upd (upd (upd (upd (upd (fun _ => 0) 0 l1) 1 l2) 2 l3) 3 l4) 4 l5))), (h3, .inr (0, [.ref h4, .int 0, .int 0, .int 0])), (h4, .inl (k2, 2, .inl f0))] H := hP
      have hD : va_D A [(h0, .inr (9, [.int 0, .ref h1, .ref z0, .ref z1, .int 0, .int 0, .int 0])), (h1, .inl (k0, 4, .inr (.inr (.inr (.inr (va_up (va_up (va_up (va_up (fun _ => none) 0 (some ge5)) 1 (some ge5)) 2 (some ge5)) 3 (some ge5))))))), (h2, .inl (k1, 5, .inl (upd (upd (upd (upd (upd (fun _ => 0) 0 l1) 1 l2) 2 l3) 3 l4) 4 l5))), (h3, .inr (0, [.ref h4, .int 0, .int 0, .int 0])), (h4, .inl (k2, 2, .inl f0))] := hD
      refine lv_if_ne (tgt := 162) hx hb dX5_type_135 (by decide) (fun c9 => absurd (by decide) c9) (fun _ => ?_)
      refine lv_aload_n hx hb dX5_type_138 rfl (lv_at hl 0 rfl) ?_
      refine va_get (D := (dC, dI)) (ci := 9) (v := .ref h1) (C := RX5) (T := TX5) (N := 7) hx hb hts (by decide +kernel) hown hK hP 0 rfl rfl 1 (by decide) (hts (.fieldLink RX5 11 "RewriteropeModel" "ropes" "[Ljava/lang/String;") (by decide +kernel)) (fun _ h9 => h9) rfl dX5_type_139 ?_
      refine lv_iload_n hx hb dX5_type_142 rfl (lv_at hl 1 rfl) ?_
      refine va_aldq (D := (dC, dI)) hx hb hK hP 1 0 rfl rfl (kz_in4 rp_l rp_u) dX5_type_143 ?_
      rw [show (va_up (va_up (va_up (va_up (fun _ => none) 0 (some ge5)) 1 (some ge5)) 2 (some ge5)) 3 (some ge5)) rp.toNatClampNeg = some ge5 from (kz_ix4 (P := fun z => (va_up (va_up (va_up (va_up (fun _ => none) 0 (some ge5)) 1 (some ge5)) 2 (some ge5)) 3 (some ge5)) z.toNatClampNeg = some ge5) rfl rfl rfl rfl rp_l rp_u)]
      refine W.eq (g2 := F0 m 144 ls [.ref ge5, .int 0, .int 0, .ref h0]) rfl ?_
      have hPc := hP.sub (ws' := []) [] rfl
      have hDc := hD.sub (ws' := []) [] (by decide) rfl
      have hKc := hK.sub (tys' := []) [] rfl
      have hFc := va_free (wc := []) hD hS hA [] rfl
      refine va_calli (va_runV (As := []) (rest := [.int 0, .int 0, .ref h0]) ⟨hx, hb, hml, hown, hts⟩ (kx_J0_length_8abf5_0 l dC dI ge5 gea gv5 gva gde gic gi0 H.size) (cwV 0 hts gX5_type_J0_length_8abf5 rfl rfl rfl (by decide +kernel) ⟨Nat.le_of_ble_eq_true rfl, Nat.le_of_ble_eq_true rfl⟩) ⟨fun a U g mk q => by obtain ⟨q0, q1, qP, qK, qD, qG⟩ := q; exact ⟨q0, q1, qP, va_K.moved (u := U) (U := U.calling g mk a) (Vm.Alike.refl U.vm) qK, qD, gv.fb qG⟩, (by obtain ⟨cell, k1, k2, k3, -⟩ := g_o5.kept hS.2.1; exact ⟨cell, k1, k2, k3⟩), fun U hU hW => ⟨rfl, by rw [hU], by rw [hU]; exact hPc, va_K.moved hW.alike hKc, hDc.weaken (fun _ _ _ _ => trivial), gv.pass hW hU hS hFc hG⟩⟩ rfl rfl hl.1 rfl (lv_room (Nat.le_of_ble_eq_true rfl)) dX5_type_144 ⟨Nat.le_of_ble_eq_true rfl, Nat.le_of_ble_eq_true rfl⟩) hS (fun q _ h => hFc q h) hFc (fun r9 u t H1 locs ht hvm hw hB hz1 hk1 hS => ?_)
      obtain rfl := hw
      obtain ⟨hP1, hK1, hD1⟩ := hB
      rw [ht] at hP1
      have hK1 := va_K.moved hvm.symm hK1
      obtain ⟨hP, hD⟩ := va_join (wr := [(h0, .inr (9, [.int 0, .ref h1, .ref z0, .ref z1, .int 0, .int 0, .int 0])), (h1, .inl (k0, 4, .inr (.inr (.inr (.inr (va_up (va_up (va_up (va_up (fun _ => none) 0 (some ge5)) 1 (some ge5)) 2 (some ge5)) 3 (some ge5))))))), (h2, .inl (k1, 5, .inl (upd (upd (upd (upd (upd (fun _ => 0) 0 l1) 1 l2) 2 l3) 3 l4) 4 l5))), (h3, .inr (0, [.ref h4, .int 0, .int 0, .int 0])), (h4, .inl (k2, 2, .inl f0))]) (w1 := []) hP hD [] [0, 1, 2, 3, 4] rfl rfl (by decide) (by decide) hk1 hFc hP1 hD1
      generalize H1 = H at hP hS ⊢
      have hP : va_P (dC, dI) vwCl [(h0, .inr (9, [.int 0, .ref h1, .ref z0, .ref z1, .int 0, .int 0, .int 0])), (h1, .inl (k0, 4, .inr (.inr (.inr (.inr (va_up (va_up (va_up (va_up (fun _ => none) 0 (some ge5)) 1 (some ge5)) 2 (some ge5)) 3 (some ge5))))))), (h2, .inl (k1, 5, .inl (upd (upd (upd (upd (upd (fun _ => 0) 0 l1) 1 l2) 2 l3) 3 l4) 4 l5))), (h3, .inr (0, [.ref h4, .int 0, .int 0, .int 0])), (h4, .inl (k2, 2, .inl f0))] H := hP
      have hD : va_D A [(h0, .inr (9, [.int 0, .ref h1, .ref z0, .ref z1, .int 0, .int 0, .int 0])), (h1, .inl (k0, 4, .inr (.inr (.inr (.inr (va_up (va_up (va_up (va_up (fun _ => none) 0 (some ge5)) 1 (some ge5)) 2 (some ge5)) 3 (some ge5))))))), (h2, .inl (k1, 5, .inl (upd (upd (upd (upd (upd (fun _ => 0) 0 l1) 1 l2) 2 l3) 3 l4) 4 l5))), (h3, .inr (0, [.ref h4, .int 0, .int 0, .int 0])), (h4, .inl (k2, 2, .inl f0))] := hD
      refine lv_aload hx hb dX5_type_147 (lv_at hl 4 rfl) ?_
      have hPc := hP.sub (ws' := [(h3, .inr (0, [.ref h4, .int 0, .int 0, .int 0])), (h4, .inl (k2, 2, .inl f0))]) [3, 4] rfl
      have hDc := hD.sub (ws' := [(h3, .inr (0, [.ref h4, .int 0, .int 0, .int 0])), (h4, .inl (k2, 2, .inl f0))]) [3, 4] (by decide) rfl
      have hKc := hK.sub (tys' := [(k2, .byte)]) [2] rfl
      have hFc := va_free (wc := [(h3, .inr (0, [.ref h4, .int 0, .int 0, .int 0])), (h4, .inl (k2, 2, .inl f0))]) hD hS hA [3, 4] rfl
      refine va_calli (va_runV (As := []) (rest := [.int 0, .int 0, .int 0, .ref h0]) ⟨hx, hb, hml, hown, hts⟩ (kx_J0_length_8abf5_3 l dC dI ge5 gea gv5 gva gde gic gi0 h3 h4 k2 H.size f0 f0_t) (cwV 0 hts gX5_type_J0_length_8abf5 rfl rfl rfl (by decide +kernel) ⟨Nat.le_of_ble_eq_true rfl, Nat.le_of_ble_eq_true rfl⟩) ⟨fun a U g mk q => by obtain ⟨q0, q1, qP, qK, qD, qG⟩ := q; exact ⟨q0, q1, qP, va_K.moved (u := U) (U := U.calling g mk a) (Vm.Alike.refl U.vm) qK, qD, gv.fb qG⟩, va_recv hKc hPc (ci := 0) (q0 := 0) rfl rfl, fun U hU hW => ⟨rfl, by rw [hU], by rw [hU]; exact hPc, va_K.moved hW.alike hKc, hDc.weaken (fun _ _ _ _ => trivial), gv.pass hW hU hS hFc hG⟩⟩ rfl rfl hl.1 rfl (lv_room (Nat.le_of_ble_eq_true rfl)) dX5_type_149 ⟨Nat.le_of_ble_eq_true rfl, Nat.le_of_ble_eq_true rfl⟩) hS (fun q _ h => hFc q h) hFc (fun r9 u t H1 locs ht hvm hw hB hz1 hk1 hS => ?_)
      obtain rfl := hw
      obtain ⟨hP1, hK1, hD1⟩ := hB
      rw [ht] at hP1
      have hK1 := va_K.moved hvm.symm hK1
      obtain ⟨hP, hD⟩ := va_join (wr := [(h0, .inr (9, [.int 0, .ref h1, .ref z0, .ref z1, .int 0, .int 0, .int 0])), (h1, .inl (k0, 4, .inr (.inr (.inr (.inr (va_up (va_up (va_up (va_up (fun _ => none) 0 (some ge5)) 1 (some ge5)) 2 (some ge5)) 3 (some ge5))))))), (h2, .inl (k1, 5, .inl (upd (upd (upd (upd (upd (fun _ => 0) 0 l1) 1 l2) 2 l3) 3 l4) 4 l5)))]) (w1 := [(h3, .inr (0, [.ref h4, .int 0, .int 0, .int 0])), (h4, .inl (k2, 2, .inl f0))]) hP hD [3, 4] [0, 1, 2] rfl rfl (by decide) (by decide) hk1 hFc hP1 hD1
      generalize H1 = H at hP hS ⊢
      have hP : va_P (dC, dI) vwCl [(h0, .inr (9, [.int 0, .ref h1, .ref z0, .ref z1, .int 0, .int 0, .int 0])), (h1, .inl (k0, 4, .inr (.inr (.inr (.inr (va_up (va_up (va_up (va_up (fun _ => none) 0 (some ge5)) 1 (some ge5)) 2 (some ge5)) 3 (some ge5))))))), (h2, .inl (k1, 5, .inl (upd (upd (upd (upd (upd (fun _ => 0) 0 l1) 1 l2) 2 l3) 3 l4) 4 l5))), (h3, .inr (0, [.ref h4, .int 0, .int 0, .int 0])), (h4, .inl (k2, 2, .inl f0))] H := hP
      have hD : va_D A [(h0, .inr (9, [.int 0, .ref h1, .ref z0, .ref z1, .int 0, .int 0, .int 0])), (h1, .inl (k0, 4, .inr (.inr (.inr (.inr (va_up (va_up (va_up (va_up (fun _ => none) 0 (some ge5)) 1 (some ge5)) 2 (some ge5)) 3 (some ge5))))))), (h2, .inl (k1, 5, .inl (upd (upd (upd (upd (upd (fun _ => 0) 0 l1) 1 l2) 2 l3) 3 l4) 4 l5))), (h3, .inr (0, [.ref h4, .int 0, .int 0, .int 0])), (h4, .inl (k2, 2, .inl f0))] := hD
      refine lv_iadd hx hb dX5_type_152 ?_
      refine lv_topi (fun y101 ey101 => ?_)
      obtain rfl : y101 = 2 := ey101.trans (by decide)
      refine lv_bipush (v := 32) hx hb dX5_type_153 (by decide) ?_
      refine lv_icmp_le (tgt := 162) hx hb dX5_type_155 (by decide) (fun _ => ?_) (fun c9 => absurd (by decide) c9)
      refine lv_iconst (v := 0) hx hb dX5_type_162 (by decide) ?_
      have hPc := hP.sub (ws' := [(h0, .inr (9, [.int 0, .ref h1, .ref z0, .ref z1, .int 0, .int 0, .int 0]))]) [0] rfl
      have hDc := hD.sub (ws' := [(h0, .inr (9, [.int 0, .ref h1, .ref z0, .ref z1, .int 0, .int 0, .int 0]))]) [0] (by decide) rfl
      have hKc := hK.sub (tys' := []) [] rfl
      have hFc := va_free (wc := [(h0, .inr (9, [.int 0, .ref h1, .ref z0, .ref z1, .int 0, .int 0, .int 0]))]) hD hS hA [0] rfl
      refine va_calli (va_runV (As := [.int 0, .int 0, .int 0]) (rest := []) ⟨hx, hb, hml, hown, hts⟩ (kx_X5_fails_1 l dC dI h0 h1 z0 z1 H.size) (cwV 3 hts gX5_type_X5_fails rfl rfl rfl (by decide +kernel) ⟨Nat.le_of_ble_eq_true rfl, Nat.le_of_ble_eq_true rfl⟩) ⟨fun a U g mk q => by obtain ⟨q0, q1, qP, qK, qD⟩ := q; exact ⟨q0, q1, qP, va_K.moved (u := U) (U := U.calling g mk a) (Vm.Alike.refl U.vm) qK, qD⟩, va_recv hKc hPc (ci := 9) (q0 := 0) rfl rfl, fun U hU hW => ⟨rfl, by rw [hU], by rw [hU]; exact hPc, va_K.moved hW.alike hKc, hDc.weaken (fun _ _ _ _ => trivial)⟩⟩ rfl rfl hl.1 rfl (lv_room (Nat.le_of_ble_eq_true rfl)) dX5_type_163 ⟨Nat.le_of_ble_eq_true rfl, Nat.le_of_ble_eq_true rfl⟩) hS (fun q _ h => hFc q h) hFc (fun r9 u t H1 locs ht hvm hw hB hz1 hk1 hS => ?_)
      obtain rfl := hw
      obtain ⟨hP1, hK1, hD1⟩ := hB
      rw [ht] at hP1
      have hK1 := va_K.moved hvm.symm hK1
      obtain ⟨hP, hD⟩ := va_join (wr := [(h1, .inl (k0, 4, .inr (.inr (.inr (.inr (va_up (va_up (va_up (va_up (fun _ => none) 0 (some ge5)) 1 (some ge5)) 2 (some ge5)) 3 (some ge5))))))), (h2, .inl (k1, 5, .inl (upd (upd (upd (upd (upd (fun _ => 0) 0 l1) 1 l2) 2 l3) 3 l4) 4 l5))), (h3, .inr (0, [.ref h4, .int 0, .int 0, .int 0])), (h4, .inl (k2, 2, .inl f0))]) (w1 := [(h0, .inr (9, [.int 0, .ref h1, .ref z0, .ref z1, .int 0, .int 0, .int 0]))]) hP hD [0] [1, 2, 3, 4] rfl rfl (by decide) (by decide) hk1 hFc hP1 hD1
      generalize H1 = H at hP hS ⊢
      have hP : va_P (dC, dI) vwCl [(h1, .inl (k0, 4, .inr (.inr (.inr (.inr (va_up (va_up (va_up (va_up (fun _ => none) 0 (some ge5)) 1 (some ge5)) 2 (some ge5)) 3 (some ge5))))))), (h2, .inl (k1, 5, .inl (upd (upd (upd (upd (upd (fun _ => 0) 0 l1) 1 l2) 2 l3) 3 l4) 4 l5))), (h3, .inr (0, [.ref h4, .int 0, .int 0, .int 0])), (h4, .inl (k2, 2, .inl f0)), (h0, .inr (9, [.int 0, .ref h1, .ref z0, .ref z1, .int 0, .int 0, .int 0]))] H := hP
      have hD : va_D A [(h1, .inl (k0, 4, .inr (.inr (.inr (.inr (va_up (va_up (va_up (va_up (fun _ => none) 0 (some ge5)) 1 (some ge5)) 2 (some ge5)) 3 (some ge5))))))), (h2, .inl (k1, 5, .inl (upd (upd (upd (upd (upd (fun _ => 0) 0 l1) 1 l2) 2 l3) 3 l4) 4 l5))), (h3, .inr (0, [.ref h4, .int 0, .int 0, .int 0])), (h4, .inl (k2, 2, .inl f0)), (h0, .inr (9, [.int 0, .ref h1, .ref z0, .ref z1, .int 0, .int 0, .int 0]))] := hD
      refine lv_if_eq (tgt := 171) hx hb dX5_type_166 (by decide) (fun _ => ?_) (fun c9 => absurd (by decide) c9)
      refine va_new (ci := 1) (fs := [.null, .int 0, .int 0, .int 0]) (C := RJ4) (T := TJ4) (N := 4) hx hb hts (by decide +kernel) tyJ4 tyJ4_ok hown (hts (.classLink RX5 49 RJ4) (by decide +kernel)) (hts (.instantiable RJ4 4) (by decide +kernel)) (hts (.initialized RJ4) (by decide +kernel)) hK hP hD hS hA rfl (fun j hj => by rcases (show j = 0 ∨ j = 1 ∨ j = 2 ∨ j = 3 by omega) with rfl | rfl | rfl | rfl <;> rfl) (Nat.le_of_ble_eq_true rfl) (Nat.le_of_ble_eq_true rfl) dX5_type_171 (fun q102 H hP hD hS => ?_)
      have hP : va_P (dC, dI) vwCl [(h1, .inl (k0, 4, .inr (.inr (.inr (.inr (va_up (va_up (va_up (va_up (fun _ => none) 0 (some ge5)) 1 (some ge5)) 2 (some ge5)) 3 (some ge5))))))), (h2, .inl (k1, 5, .inl (upd (upd (upd (upd (upd (fun _ => 0) 0 l1) 1 l2) 2 l3) 3 l4) 4 l5))), (h3, .inr (0, [.ref h4, .int 0, .int 0, .int 0])), (h4, .inl (k2, 2, .inl f0)), (h0, .inr (9, [.int 0, .ref h1, .ref z0, .ref z1, .int 0, .int 0, .int 0])), (q102, .inr (1, [.null, .int 0, .int 0, .int 0]))] H := hP
      have hD : va_D A [(h1, .inl (k0, 4, .inr (.inr (.inr (.inr (va_up (va_up (va_up (va_up (fun _ => none) 0 (some ge5)) 1 (some ge5)) 2 (some ge5)) 3 (some ge5))))))), (h2, .inl (k1, 5, .inl (upd (upd (upd (upd (upd (fun _ => 0) 0 l1) 1 l2) 2 l3) 3 l4) 4 l5))), (h3, .inr (0, [.ref h4, .int 0, .int 0, .int 0])), (h4, .inl (k2, 2, .inl f0)), (h0, .inr (9, [.int 0, .ref h1, .ref z0, .ref z1, .int 0, .int 0, .int 0])), (q102, .inr (1, [.null, .int 0, .int 0, .int 0]))] := hD
      refine W.widen (k := 10) (n := 60) (by omega) (by omega) ?_
      refine lv_dup hx hb dX5_type_174 rfl ?_
      have hPc := hP.sub (ws' := [(q102, .inr (1, [.null, .int 0, .int 0, .int 0]))]) [5] rfl
      have hDc := hD.sub (ws' := [(q102, .inr (1, [.null, .int 0, .int 0, .int 0]))]) [5] (by decide) rfl
      have hKc := hK.sub (tys' := []) [] rfl
      have hFc := va_free (wc := [(q102, .inr (1, [.null, .int 0, .int 0, .int 0]))]) hD hS hA [5] rfl
      refine va_callv (va_runI (As := []) (rest := [.ref q102]) ⟨hx, hb, hml, hown, hts⟩ (kx_J4_init_da8c8_0 l dC dI ge5 gea gv5 gva gde gic gi0 q102 H.size) (cwI 0 hts gX5_type_J4_init_da8c8 rfl rfl rfl (hts (.initialized RJ4) (by decide +kernel)) (hts (.methodLink RX5 51 yJ4_init_da8c8) (by decide +kernel)) (hts (.instanceMethod yJ4_init_da8c8) (by decide +kernel)) rfl (by decide +kernel) ⟨Nat.le_of_ble_eq_true rfl, Nat.le_of_ble_eq_true rfl⟩) ⟨fun a U g mk q => by obtain ⟨q0, q1, qP, qK, qD, qG⟩ := q; exact ⟨q0, q1, qP, va_K.moved (u := U) (U := U.calling g mk a) (Vm.Alike.refl U.vm) qK, qD, gv.fb qG⟩, fun U hU hW => ⟨rfl, by rw [hU], by rw [hU]; exact hPc, va_K.moved hW.alike hKc, hDc.weaken (fun _ _ _ _ => trivial), gv.pass hW hU hS hFc hG⟩⟩ rfl rfl hl.1 rfl (lv_room (Nat.le_of_ble_eq_true rfl)) dX5_type_175 ⟨Nat.le_of_ble_eq_true rfl, Nat.le_of_ble_eq_true rfl⟩) hS (fun q _ h => hFc q h) hFc (fun u t H1 locs ht hvm hw hB hz1 hk1 hS => ?_)
      obtain ⟨q103, cq104, hP1, hK1, hD1⟩ := hB
      rw [ht] at hP1
      have hK1 := va_K.moved hvm.symm hK1
      obtain ⟨hP, hD⟩ := va_join (wr := [(h1, .inl (k0, 4, .inr (.inr (.inr (.inr (va_up (va_up (va_up (va_up (fun _ => none) 0 (some ge5)) 1 (some ge5)) 2 (some ge5)) 3 (some ge5))))))), (h2, .inl (k1, 5, .inl (upd (upd (upd (upd (upd (fun _ => 0) 0 l1) 1 l2) 2 l3) 3 l4) 4 l5))), (h3, .inr (0, [.ref h4, .int 0, .int 0, .int 0])), (h4, .inl (k2, 2, .inl f0)), (h0, .inr (9, [.int 0, .ref h1, .ref z0, .ref z1, .int 0, .int 0, .int 0]))]) (w1 := [(q102, .inr (1, [.ref q103, .int 0, .int 0, .int 0])), (q103, .inl (cq104, 16, .inl (fun _ => 0)))]) hP hD [5] [0, 1, 2, 3, 4] rfl rfl (by decide) (by decide) hk1 hFc hP1 hD1
      have hK := hK.app (hK1.sub (tys' := [(cq104, .byte)]) [0] rfl)
      generalize H1 = H at hP hS ⊢
      have hK : va_K (dC, dI) vwCl [(k0, .object "java/lang/String"), (k1, .int), (k2, .byte), (cq104, .byte)] s := hK
      have hP : va_P (dC, dI) vwCl [(h1, .inl (k0, 4, .inr (.inr (.inr (.inr (va_up (va_up (va_up (va_up (fun _ => none) 0 (some ge5)) 1 (some ge5)) 2 (some ge5)) 3 (some ge5))))))), (h2, .inl (k1, 5, .inl (upd (upd (upd (upd (upd (fun _ => 0) 0 l1) 1 l2) 2 l3) 3 l4) 4 l5))), (h3, .inr (0, [.ref h4, .int 0, .int 0, .int 0])), (h4, .inl (k2, 2, .inl f0)), (h0, .inr (9, [.int 0, .ref h1, .ref z0, .ref z1, .int 0, .int 0, .int 0])), (q102, .inr (1, [.ref q103, .int 0, .int 0, .int 0])), (q103, .inl (cq104, 16, .inl (fun _ => 0)))] H := hP
      have hD : va_D A [(h1, .inl (k0, 4, .inr (.inr (.inr (.inr (va_up (va_up (va_up (va_up (fun _ => none) 0 (some ge5)) 1 (some ge5)) 2 (some ge5)) 3 (some ge5))))))), (h2, .inl (k1, 5, .inl (upd (upd (upd (upd (upd (fun _ => 0) 0 l1) 1 l2) 2 l3) 3 l4) 4 l5))), (h3, .inr (0, [.ref h4, .int 0, .int 0, .int 0])), (h4, .inl (k2, 2, .inl f0)), (h0, .inr (9, [.int 0, .ref h1, .ref z0, .ref z1, .int 0, .int 0, .int 0])), (q102, .inr (1, [.ref q103, .int 0, .int 0, .int 0])), (q103, .inl (cq104, 16, .inl (fun _ => 0)))] := hD
      refine W.widen (k := 11) (n := 76) (by omega) (by omega) ?_
      refine lv_aload_n hx hb dX5_type_178 rfl (lv_at hl 0 rfl) ?_
      refine va_get (D := (dC, dI)) (ci := 9) (v := .ref h1) (C := RX5) (T := TX5) (N := 7) hx hb hts (by decide +kernel) hown hK hP 4 rfl rfl 1 (by decide) (hts (.fieldLink RX5 11 "RewriteropeModel" "ropes" "[Ljava/lang/String;") (by decide +kernel)) (fun _ h9 => h9) rfl dX5_type_179 ?_
      refine lv_iload_n hx hb dX5_type_182 rfl (lv_at hl 1 rfl) ?_
      refine kz_dup2_x1 hx hb dX5_type_183 rfl rfl rfl ?_
      refine va_aldq (D := (dC, dI)) hx hb hK hP 0 0 rfl rfl (kz_in4 rp_l rp_u) dX5_type_184 ?_
      rw [show (va_up (va_up (va_up (va_up (fun _ => none) 0 (some ge5)) 1 (some ge5)) 2 (some ge5)) 3 (some ge5)) rp.toNatClampNeg = some ge5 from (kz_ix4 (P := fun z => (va_up (va_up (va_up (va_up (fun _ => none) 0 (some ge5)) 1 (some ge5)) 2 (some ge5)) 3 (some ge5)) z.toNatClampNeg = some ge5) rfl rfl rfl rfl rp_l rp_u)]
      refine W.eq (g2 := F0 m 185 ls [.ref ge5, .ref q102, .int rp, .ref h1]) rfl ?_
      have hPc := hP.sub (ws' := [(q102, .inr (1, [.ref q103, .int 0, .int 0, .int 0])), (q103, .inl (cq104, 16, .inl (fun _ => 0)))]) [5, 6] rfl
      have hDc := hD.sub (ws' := [(q102, .inr (1, [.ref q103, .int 0, .int 0, .int 0])), (q103, .inl (cq104, 16, .inl (fun _ => 0)))]) [5, 6] (by decide) rfl
      have hKc := hK.sub (tys' := [(cq104, .byte)]) [3] rfl
      have hFc := va_free (wc := [(q102, .inr (1, [.ref q103, .int 0, .int 0, .int 0])), (q103, .inl (cq104, 16, .inl (fun _ => 0)))]) hD hS hA [5, 6] rfl
      refine va_callr (va_runV (As := [.ref ge5]) (rest := [.int rp, .ref h1]) ⟨hx, hb, hml, hown, hts⟩ (kx_J4_append_15ec4_0 l dC dI ge5 gea gv5 gva gde gic gi0 q102 q103 cq104 H.size) (cwV 1 hts gX5_type_J4_append_15ec4 rfl rfl rfl (by decide +kernel) ⟨Nat.le_of_ble_eq_true rfl, Nat.le_of_ble_eq_true rfl⟩) ⟨fun a U g mk q => by obtain ⟨q0, q1, qP, qK, qD, qG⟩ := q; exact ⟨q0, q1, qP, va_K.moved (u := U) (U := U.calling g mk a) (Vm.Alike.refl U.vm) qK, qD, gv.fb qG⟩, va_recv hKc hPc (ci := 1) (q0 := 0) rfl rfl, fun U hU hW => ⟨rfl, by rw [hU], by rw [hU]; exact hPc, va_K.moved hW.alike hKc, hDc.weaken (fun _ _ _ _ => trivial), gv.pass hW hU hS hFc hG⟩⟩ rfl rfl hl.1 rfl (lv_room (Nat.le_of_ble_eq_true rfl)) dX5_type_185 ⟨Nat.le_of_ble_eq_true rfl, Nat.le_of_ble_eq_true rfl⟩) hS (fun q _ h => hFc q h) hFc (fun u ra t H1 locs ht hvm hw hB hz1 hk1 hS => ?_)
      obtain ⟨hra, hP1, hK1, hD1⟩ := hB
      rw [hra]
      rw [ht] at hP1
      have hK1 := va_K.moved hvm.symm hK1
      obtain ⟨hP, hD⟩ := va_join (wr := [(h1, .inl (k0, 4, .inr (.inr (.inr (.inr (va_up (va_up (va_up (va_up (fun _ => none) 0 (some ge5)) 1 (some ge5)) 2 (some ge5)) 3 (some ge5))))))), (h2, .inl (k1, 5, .inl (upd (upd (upd (upd (upd (fun _ => 0) 0 l1) 1 l2) 2 l3) 3 l4) 4 l5))), (h3, .inr (0, [.ref h4, .int 0, .int 0, .int 0])), (h4, .inl (k2, 2, .inl f0)), (h0, .inr (9, [.int 0, .ref h1, .ref z0, .ref z1, .int 0, .int 0, .int 0]))]) (w1 := [(q102, .inr (1, [.ref q103, .int 0, .int 0, .int 0])), (q103, .inl (cq104, 16, .inl (fun _ => 0)))]) hP hD [5, 6] [0, 1, 2, 3, 4] rfl rfl (by decide) (by decide) hk1 hFc hP1 hD1
      generalize H1 = H at hP hS ⊢
      have hP : va_P (dC, dI) vwCl [(h1, .inl (k0, 4, .inr (.inr (.inr (.inr (va_up (va_up (va_up (va_up (fun _ => none) 0 (some ge5)) 1 (some ge5)) 2 (some ge5)) 3 (some ge5))))))), (h2, .inl (k1, 5, .inl (upd (upd (upd (upd (upd (fun _ => 0) 0 l1) 1 l2) 2 l3) 3 l4) 4 l5))), (h3, .inr (0, [.ref h4, .int 0, .int 0, .int 0])), (h4, .inl (k2, 2, .inl f0)), (h0, .inr (9, [.int 0, .ref h1, .ref z0, .ref z1, .int 0, .int 0, .int 0])), (q102, .inr (1, [.ref q103, .int 0, .int 0, .int 0])), (q103, .inl (cq104, 16, .inl (fun _ => 0)))] H := hP
      have hD : va_D A [(h1, .inl (k0, 4, .inr (.inr (.inr (.inr (va_up (va_up (va_up (va_up (fun _ => none) 0 (some ge5)) 1 (some ge5)) 2 (some ge5)) 3 (some ge5))))))), (h2, .inl (k1, 5, .inl (upd (upd (upd (upd (upd (fun _ => 0) 0 l1) 1 l2) 2 l3) 3 l4) 4 l5))), (h3, .inr (0, [.ref h4, .int 0, .int 0, .int 0])), (h4, .inl (k2, 2, .inl f0)), (h0, .inr (9, [.int 0, .ref h1, .ref z0, .ref z1, .int 0, .int 0, .int 0])), (q102, .inr (1, [.ref q103, .int 0, .int 0, .int 0])), (q103, .inl (cq104, 16, .inl (fun _ => 0)))] := hD
      refine lv_aload hx hb dX5_type_188 (lv_at hl 4 rfl) ?_
      have hPc := hP.sub (ws' := [(h3, .inr (0, [.ref h4, .int 0, .int 0, .int 0])), (h4, .inl (k2, 2, .inl f0)), (q102, .inr (1, [.ref q103, .int 0, .int 0, .int 0])), (q103, .inl (cq104, 16, .inl (fun _ => 0)))]) [2, 3, 5, 6] rfl
      have hDc := hD.sub (ws' := [(h3, .inr (0, [.ref h4, .int 0, .int 0, .int 0])), (h4, .inl (k2, 2, .inl f0)), (q102, .inr (1, [.ref q103, .int 0, .int 0, .int 0])), (q103, .inl (cq104, 16, .inl (fun _ => 0)))]) [2, 3, 5, 6] (by decide) rfl
      have hKc := hK.sub (tys' := [(k2, .byte), (cq104, .byte)]) [2, 3] rfl
      have hFc := va_free (wc := [(h3, .inr (0, [.ref h4, .int 0, .int 0, .int 0])), (h4, .inl (k2, 2, .inl f0)), (q102, .inr (1, [.ref q103, .int 0, .int 0, .int 0])), (q103, .inl (cq104, 16, .inl (fun _ => 0)))]) hD hS hA [2, 3, 5, 6] rfl
      refine va_callr (va_runV (As := [.ref h3]) (rest := [.int rp, .ref h1]) ⟨hx, hb, hml, hown, hts⟩ (kx_J4_append_15ec4_2 l dC dI ge5 gea gv5 gva gde gic gi0 h3 h4 q102 q103 k2 cq104 H.size f0 f0_t) (cwV 1 hts gX5_type_J4_append_15ec4 rfl rfl rfl (by decide +kernel) ⟨Nat.le_of_ble_eq_true rfl, Nat.le_of_ble_eq_true rfl⟩) ⟨fun a U g mk q => by obtain ⟨q0, q1, qP, qK, qD, qG⟩ := q; exact ⟨q0, q1, qP, va_K.moved (u := U) (U := U.calling g mk a) (Vm.Alike.refl U.vm) qK, qD, gv.fb qG⟩, va_recv hKc hPc (ci := 1) (q0 := 2) rfl rfl, fun U hU hW => ⟨rfl, by rw [hU], by rw [hU]; exact hPc, va_K.moved hW.alike hKc, hDc.weaken (fun _ _ _ _ => trivial), gv.pass hW hU hS hFc hG⟩⟩ rfl rfl hl.1 rfl (lv_room (Nat.le_of_ble_eq_true rfl)) dX5_type_190 ⟨Nat.le_of_ble_eq_true rfl, Nat.le_of_ble_eq_true rfl⟩) hS (fun q _ h => hFc q h) hFc (fun u ra t H1 locs ht hvm hw hB hz1 hk1 hS => ?_)
      obtain ⟨f105, f105_t, hra, hP1, hK1, hD1⟩ := hB
      rw [hra]
      rw [ht] at hP1
      have hK1 := va_K.moved hvm.symm hK1
      obtain ⟨hP, hD⟩ := va_join (wr := [(h1, .inl (k0, 4, .inr (.inr (.inr (.inr (va_up (va_up (va_up (va_up (fun _ => none) 0 (some ge5)) 1 (some ge5)) 2 (some ge5)) 3 (some ge5))))))), (h2, .inl (k1, 5, .inl (upd (upd (upd (upd (upd (fun _ => 0) 0 l1) 1 l2) 2 l3) 3 l4) 4 l5))), (h0, .inr (9, [.int 0, .ref h1, .ref z0, .ref z1, .int 0, .int 0, .int 0]))]) (w1 := [(h3, .inr (0, [.ref h4, .int 0, .int 0, .int 0])), (h4, .inl (k2, 2, .inl f0)), (q102, .inr (1, [.ref q103, .int 0, .int 0, .int 2])), (q103, .inl (cq104, 16, .inl f105))]) hP hD [2, 3, 5, 6] [0, 1, 4] rfl rfl (by decide) (by decide) hk1 hFc hP1 hD1
      generalize H1 = H at hP hS ⊢
      have hP : va_P (dC, dI) vwCl [(h1, .inl (k0, 4, .inr (.inr (.inr (.inr (va_up (va_up (va_up (va_up (fun _ => none) 0 (some ge5)) 1 (some ge5)) 2 (some ge5)) 3 (some ge5))))))), (h2, .inl (k1, 5, .inl (upd (upd (upd (upd (upd (fun _ => 0) 0 l1) 1 l2) 2 l3) 3 l4) 4 l5))), (h0, .inr (9, [.int 0, .ref h1, .ref z0, .ref z1, .int 0, .int 0, .int 0])), (h3, .inr (0, [.ref h4, .int 0, .int 0, .int 0])), (h4, .inl (k2, 2, .inl f0)), (q102, .inr (1, [.ref q103, .int 0, .int 0, .int 2])), (q103, .inl (cq104, 16, .inl f105))] H := hP
      have hD : va_D A [(h1, .inl (k0, 4, .inr (.inr (.inr (.inr (va_up (va_up (va_up (va_up (fun _ => none) 0 (some ge5)) 1 (some ge5)) 2 (some ge5)) 3 (some ge5))))))), (h2, .inl (k1, 5, .inl (upd (upd (upd (upd (upd (fun _ => 0) 0 l1) 1 l2) 2 l3) 3 l4) 4 l5))), (h0, .inr (9, [.int 0, .ref h1, .ref z0, .ref z1, .int 0, .int 0, .int 0])), (h3, .inr (0, [.ref h4, .int 0, .int 0, .int 0])), (h4, .inl (k2, 2, .inl f0)), (q102, .inr (1, [.ref q103, .int 0, .int 0, .int 2])), (q103, .inl (cq104, 16, .inl f105))] := hD
      have hPc := hP.sub (ws' := [(q102, .inr (1, [.ref q103, .int 0, .int 0, .int 2])), (q103, .inl (cq104, 16, .inl f105))]) [5, 6] rfl
      have hDc := hD.sub (ws' := [(q102, .inr (1, [.ref q103, .int 0, .int 0, .int 2])), (q103, .inl (cq104, 16, .inl f105))]) [5, 6] (by decide) rfl
      have hKc := hK.sub (tys' := [(cq104, .byte)]) [3] rfl
      have hFc := va_free (wc := [(q102, .inr (1, [.ref q103, .int 0, .int 0, .int 2])), (q103, .inl (cq104, 16, .inl f105))]) hD hS hA [5, 6] rfl
      refine va_callr (va_runV (As := []) (rest := [.int rp, .ref h1]) ⟨hx, hb, hml, hown, hts⟩ (kx_J4_toString_0e30d_2 l dC dI ge5 gea gv5 gva gde gic gi0 q102 q103 cq104 H.size f105 f105_t) (cwV 0 hts gX5_type_J4_toString_0e30d rfl rfl rfl (by decide +kernel) ⟨Nat.le_of_ble_eq_true rfl, Nat.le_of_ble_eq_true rfl⟩) ⟨fun a U g mk q => by obtain ⟨q0, q1, qP, qK, qD, qG⟩ := q; exact ⟨q0, q1, qP, va_K.moved (u := U) (U := U.calling g mk a) (Vm.Alike.refl U.vm) qK, qD, gv.fb qG⟩, va_recv hKc hPc (ci := 1) (q0 := 0) rfl rfl, fun U hU hW => ⟨rfl, by rw [hU], by rw [hU]; exact hPc, va_K.moved hW.alike hKc, hDc.weaken (fun _ _ _ _ => trivial), gv.pass hW hU hS hFc hG⟩⟩ rfl rfl hl.1 rfl (lv_room (Nat.le_of_ble_eq_true rfl)) dX5_type_193 ⟨Nat.le_of_ble_eq_true rfl, Nat.le_of_ble_eq_true rfl⟩) hS (fun q _ h => hFc q h) hFc (fun u ra t H1 locs ht hvm hw hB hz1 hk1 hS => ?_)
      obtain ⟨q106, q107, cq108, f109, f109_t, hra, hP1, hK1, hD1⟩ := hB
      rw [hra]
      rw [ht] at hP1
      have hK1 := va_K.moved hvm.symm hK1
      obtain ⟨hP, hD⟩ := va_join (wr := [(h1, .inl (k0, 4, .inr (.inr (.inr (.inr (va_up (va_up (va_up (va_up (fun _ => none) 0 (some ge5)) 1 (some ge5)) 2 (some ge5)) 3 (some ge5))))))), (h2, .inl (k1, 5, .inl (upd (upd (upd (upd (upd (fun _ => 0) 0 l1) 1 l2) 2 l3) 3 l4) 4 l5))), (h0, .inr (9, [.int 0, .ref h1, .ref z0, .ref z1, .int 0, .int 0, .int 0])), (h3, .inr (0, [.ref h4, .int 0, .int 0, .int 0])), (h4, .inl (k2, 2, .inl f0))]) (w1 := [(q102, .inr (1, [.ref q103, .int 0, .int 0, .int 2])), (q103, .inl (cq104, 16, .inl f105)), (q106, .inr (0, [.ref q107, .int 0, .int 0, .int 0])), (q107, .inl (cq108, 2, .inl f109))]) hP hD [5, 6] [0, 1, 2, 3, 4] rfl rfl (by decide) (by decide) hk1 hFc hP1 hD1
      have hK := hK.app (hK1.sub (tys' := [(cq108, .byte)]) [1] rfl)
      generalize H1 = H at hP hS ⊢
      have hK : va_K (dC, dI) vwCl [(k0, .object "java/lang/String"), (k1, .int), (k2, .byte), (cq104, .byte), (cq108, .byte)] s := hK
      have hP : va_P (dC, dI) vwCl [(h1, .inl (k0, 4, .inr (.inr (.inr (.inr (va_up (va_up (va_up (va_up (fun _ => none) 0 (some ge5)) 1 (some ge5)) 2 (some ge5)) 3 (some ge5))))))), (h2, .inl (k1, 5, .inl (upd (upd (upd (upd (upd (fun _ => 0) 0 l1) 1 l2) 2 l3) 3 l4) 4 l5))), (h0, .inr (9, [.int 0, .ref h1, .ref z0, .ref z1, .int 0, .int 0, .int 0])), (h3, .inr (0, [.ref h4, .int 0, .int 0, .int 0])), (h4, .inl (k2, 2, .inl f0)), (q102, .inr (1, [.ref q103, .int 0, .int 0, .int 2])), (q103, .inl (cq104, 16, .inl f105)), (q106, .inr (0, [.ref q107, .int 0, .int 0, .int 0])), (q107, .inl (cq108, 2, .inl f109))] H := hP
      have hD : va_D A [(h1, .inl (k0, 4, .inr (.inr (.inr (.inr (va_up (va_up (va_up (va_up (fun _ => none) 0 (some ge5)) 1 (some ge5)) 2 (some ge5)) 3 (some ge5))))))), (h2, .inl (k1, 5, .inl (upd (upd (upd (upd (upd (fun _ => 0) 0 l1) 1 l2) 2 l3) 3 l4) 4 l5))), (h0, .inr (9, [.int 0, .ref h1, .ref z0, .ref z1, .int 0, .int 0, .int 0])), (h3, .inr (0, [.ref h4, .int 0, .int 0, .int 0])), (h4, .inl (k2, 2, .inl f0)), (q102, .inr (1, [.ref q103, .int 0, .int 0, .int 2])), (q103, .inl (cq104, 16, .inl f105)), (q106, .inr (0, [.ref q107, .int 0, .int 0, .int 0])), (q107, .inl (cq108, 2, .inl f109))] := hD
      refine W.widen (k := 13) (n := 82) (by omega) (by omega) ?_
      refine va_astq (D := (dC, dI)) hx hb hK hP hD hS 0 0 7 0 rfl rfl rfl rfl (kz_in4 rp_l rp_u) dX5_type_196 (fun H locs hP hD hS => ?_)
      have hP : va_P (dC, dI) vwCl [(h1, .inl (k0, 4, .inr (.inr (.inr (.inr (va_up (va_up (va_up (va_up (va_up (fun _ => none) 0 (some ge5)) 1 (some ge5)) 2 (some ge5)) 3 (some ge5)) rp.toNatClampNeg (some q106))))))), (h2, .inl (k1, 5, .inl (upd (upd (upd (upd (upd (fun _ => 0) 0 l1) 1 l2) 2 l3) 3 l4) 4 l5))), (h0, .inr (9, [.int 0, .ref h1, .ref z0, .ref z1, .int 0, .int 0, .int 0])), (h3, .inr (0, [.ref h4, .int 0, .int 0, .int 0])), (h4, .inl (k2, 2, .inl f0)), (q102, .inr (1, [.ref q103, .int 0, .int 0, .int 2])), (q103, .inl (cq104, 16, .inl f105)), (q106, .inr (0, [.ref q107, .int 0, .int 0, .int 0])), (q107, .inl (cq108, 2, .inl f109))] H := hP
      have hD : va_D A [(h1, .inl (k0, 4, .inr (.inr (.inr (.inr (va_up (va_up (va_up (va_up (va_up (fun _ => none) 0 (some ge5)) 1 (some ge5)) 2 (some ge5)) 3 (some ge5)) rp.toNatClampNeg (some q106))))))), (h2, .inl (k1, 5, .inl (upd (upd (upd (upd (upd (fun _ => 0) 0 l1) 1 l2) 2 l3) 3 l4) 4 l5))), (h0, .inr (9, [.int 0, .ref h1, .ref z0, .ref z1, .int 0, .int 0, .int 0])), (h3, .inr (0, [.ref h4, .int 0, .int 0, .int 0])), (h4, .inl (k2, 2, .inl f0)), (q102, .inr (1, [.ref q103, .int 0, .int 0, .int 2])), (q103, .inl (cq104, 16, .inl f105)), (q106, .inr (0, [.ref q107, .int 0, .int 0, .int 0])), (q107, .inl (cq108, 2, .inl f109))] := hD
      refine lv_aload_n hx hb dX5_type_197 rfl (lv_at hl 0 rfl) ?_
      refine va_get (D := (dC, dI)) (ci := 9) (v := .ref h1) (C := RX5) (T := TX5) (N := 7) hx hb hts (by decide +kernel) hown hK hP 2 rfl rfl 1 (by decide) (hts (.fieldLink RX5 11 "RewriteropeModel" "ropes" "[Ljava/lang/String;") (by decide +kernel)) (fun _ h9 => h9) rfl dX5_type_198 ?_
      refine lv_iload_n hx hb dX5_type_201 rfl (lv_at hl 1 rfl) ?_
      refine va_aldq (D := (dC, dI)) hx hb hK hP 0 0 rfl rfl (kz_in4 rp_l rp_u) dX5_type_202 ?_
      rw [show (va_up (va_up (va_up (va_up (va_up (fun _ => none) 0 (some ge5)) 1 (some ge5)) 2 (some ge5)) 3 (some ge5)) rp.toNatClampNeg (some q106)) rp.toNatClampNeg = some q106 from (by unfold va_up; exact if_pos rfl)]
      refine W.eq (g2 := F0 m 203 ls [.ref q106]) rfl ?_
      have hPc := hP.sub (ws' := [(q106, .inr (0, [.ref q107, .int 0, .int 0, .int 0])), (q107, .inl (cq108, 2, .inl f109))]) [7, 8] rfl
      have hDc := hD.sub (ws' := [(q106, .inr (0, [.ref q107, .int 0, .int 0, .int 0])), (q107, .inl (cq108, 2, .inl f109))]) [7, 8] (by decide) rfl
      have hKc := hK.sub (tys' := [(cq108, .byte)]) [4] rfl
      have hFc := va_free (wc := [(q106, .inr (0, [.ref q107, .int 0, .int 0, .int 0])), (q107, .inl (cq108, 2, .inl f109))]) hD hS hA [7, 8] rfl
      refine va_calli (va_runV (As := []) (rest := []) ⟨hx, hb, hml, hown, hts⟩ (kx_J0_length_8abf5_3 l dC dI ge5 gea gv5 gva gde gic gi0 q106 q107 cq108 H.size f109 f109_t) (cwV 0 hts gX5_type_J0_length_8abf5 rfl rfl rfl (by decide +kernel) ⟨Nat.le_of_ble_eq_true rfl, Nat.le_of_ble_eq_true rfl⟩) ⟨fun a U g mk q => by obtain ⟨q0, q1, qP, qK, qD, qG⟩ := q; exact ⟨q0, q1, qP, va_K.moved (u := U) (U := U.calling g mk a) (Vm.Alike.refl U.vm) qK, qD, gv.fb qG⟩, va_recv hKc hPc (ci := 0) (q0 := 0) rfl rfl, fun U hU hW => ⟨rfl, by rw [hU], by rw [hU]; exact hPc, va_K.moved hW.alike hKc, hDc.weaken (fun _ _ _ _ => trivial), gv.pass hW hU hS hFc hG⟩⟩ rfl rfl hl.1 rfl (lv_room (Nat.le_of_ble_eq_true rfl)) dX5_type_203 ⟨Nat.le_of_ble_eq_true rfl, Nat.le_of_ble_eq_true rfl⟩) hS (fun q _ h => hFc q h) hFc (fun r9 u t H1 locs ht hvm hw hB hz1 hk1 hS => ?_)
      obtain rfl := hw
      obtain ⟨hP1, hK1, hD1⟩ := hB
      rw [ht] at hP1
      have hK1 := va_K.moved hvm.symm hK1
      obtain ⟨hP, hD⟩ := va_join (wr := [(h1, .inl (k0, 4, .inr (.inr (.inr (.inr (va_up (va_up (va_up (va_up (va_up (fun _ => none) 0 (some ge5)) 1 (some ge5)) 2 (some ge5)) 3 (some ge5)) rp.toNatClampNeg (some q106))))))), (h2, .inl (k1, 5, .inl (upd (upd (upd (upd (upd (fun _ => 0) 0 l1) 1 l2) 2 l3) 3 l4) 4 l5))), (h0, .inr (9, [.int 0, .ref h1, .ref z0, .ref z1, .int 0, .int 0, .int 0])), (h3, .inr (0, [.ref h4, .int 0, .int 0, .int 0])), (h4, .inl (k2, 2, .inl f0)), (q102, .inr (1, [.ref q103, .int 0, .int 0, .int 2])), (q103, .inl (cq104, 16, .inl f105))]) (w1 := [(q106, .inr (0, [.ref q107, .int 0, .int 0, .int 0])), (q107, .inl (cq108, 2, .inl f109))]) hP hD [7, 8] [0, 1, 2, 3, 4, 5, 6] rfl rfl (by decide) (by decide) hk1 hFc hP1 hD1
      generalize H1 = H at hP hS ⊢
      have hP : va_P (dC, dI) vwCl [(h1, .inl (k0, 4, .inr (.inr (.inr (.inr (va_up (va_up (va_up (va_up (va_up (fun _ => none) 0 (some ge5)) 1 (some ge5)) 2 (some ge5)) 3 (some ge5)) rp.toNatClampNeg (some q106))))))), (h2, .inl (k1, 5, .inl (upd (upd (upd (upd (upd (fun _ => 0) 0 l1) 1 l2) 2 l3) 3 l4) 4 l5))), (h0, .inr (9, [.int 0, .ref h1, .ref z0, .ref z1, .int 0, .int 0, .int 0])), (h3, .inr (0, [.ref h4, .int 0, .int 0, .int 0])), (h4, .inl (k2, 2, .inl f0)), (q102, .inr (1, [.ref q103, .int 0, .int 0, .int 2])), (q103, .inl (cq104, 16, .inl f105)), (q106, .inr (0, [.ref q107, .int 0, .int 0, .int 0])), (q107, .inl (cq108, 2, .inl f109))] H := hP
      have hD : va_D A [(h1, .inl (k0, 4, .inr (.inr (.inr (.inr (va_up (va_up (va_up (va_up (va_up (fun _ => none) 0 (some ge5)) 1 (some ge5)) 2 (some ge5)) 3 (some ge5)) rp.toNatClampNeg (some q106))))))), (h2, .inl (k1, 5, .inl (upd (upd (upd (upd (upd (fun _ => 0) 0 l1) 1 l2) 2 l3) 3 l4) 4 l5))), (h0, .inr (9, [.int 0, .ref h1, .ref z0, .ref z1, .int 0, .int 0, .int 0])), (h3, .inr (0, [.ref h4, .int 0, .int 0, .int 0])), (h4, .inl (k2, 2, .inl f0)), (q102, .inr (1, [.ref q103, .int 0, .int 0, .int 2])), (q103, .inl (cq104, 16, .inl f105)), (q106, .inr (0, [.ref q107, .int 0, .int 0, .int 0])), (q107, .inl (cq108, 2, .inl f109))] := hD
      refine W.widen (k := 25) (n := 169) (Nat.le_of_ble_eq_true rfl) (Nat.le_of_ble_eq_true rfl) ?_
      have hK := hK.sub (tys' := [(k0, .object "java/lang/String")]) [0] rfl
      have hP := hP.sub (ws' := [(h0, .inr (9, [.int 0, .ref h1, .ref z0, .ref z1, .int 0, .int 0, .int 0]))]) [2] rfl
      have hD := hD.sub (ws' := [(h0, .inr (9, [.int 0, .ref h1, .ref z0, .ref z1, .int 0, .int 0, .int 0]))]) [2] (by decide) rfl
      exact W.iret (v := 2) hx hb hr (fun t ht hW => ⟨⟨2, (), rfl, rfl, by rw [ht]; exact hP, va_K.moved hW.alike hK, hD⟩, hS.F ht⟩) hS.2.2 dX5_type_206
    · have rp_l : (4 : Int) ≤ rp.toInt := by omega
      have rp_u : rp.toInt ≤ (2147483647 : Int) := by omega
      have hR9 : ((0 : Int32), (1 : Int32)) = (R, v) := (show ((0 : Int32), (1 : Int32)) = kz_ty rp 2 0 [] from ((kz_ty_R0 (by omega) [] 2 0).trans (by decide)).symm).trans hR
      obtain ⟨rfl, rfl⟩ := Prod.mk.inj hR9
      refine lv_iload hx hb dX5_type_47 (lv_at hl 7 rfl) ?_
      refine lv_iload hx hb dX5_type_49 (lv_at hl 6 rfl) ?_
      refine lv_icmp_ge (tgt := 124) hx hb dX5_type_51 (by decide) (fun _ => ?_) (fun c9 => absurd (by decide) c9)
      refine lv_aload_n hx hb dX5_type_124 rfl (lv_at hl 0 rfl) ?_
      refine lv_iload_n hx hb dX5_type_125 rfl (lv_at hl 1 rfl) ?_
      have hPc := hP.sub (ws' := []) [] rfl
      have hDc := hD.sub (ws' := []) [] (by decide) rfl
      have hKc := hK.sub (tys' := []) [] rfl
      have hFc := va_free (wc := []) hD hS hA [] rfl
      refine va_calli (va_runS (As := [.int rp]) (rest := [.ref h0]) ⟨hx, hb, hml, hown, hts⟩ (kx_X5_isNo_2 l dC dI H.size rp rp_l rp_u) (cwS 1 hts gX5_type_X5_isNo rfl rfl rfl (by decide +kernel) ⟨Nat.le_of_ble_eq_true rfl, Nat.le_of_ble_eq_true rfl⟩) ⟨fun a U g mk q => by obtain ⟨q0, q1, qP, qK, qD⟩ := q; exact ⟨q0, q1, qP, va_K.moved (u := U) (U := U.calling g mk a) (Vm.Alike.refl U.vm) qK, qD⟩, fun U hU hW => ⟨rfl, by rw [hU], by rw [hU]; exact hPc, va_K.moved hW.alike hKc, hDc.weaken (fun _ _ _ _ => trivial)⟩⟩ rfl rfl hl.1 rfl (lv_room (Nat.le_of_ble_eq_true rfl)) dX5_type_126 ⟨Nat.le_of_ble_eq_true rfl, Nat.le_of_ble_eq_true rfl⟩) hS (fun q _ h => hFc q h) hFc (fun r9 u t H1 locs ht hvm hw hB hz1 hk1 hS => ?_)
      obtain rfl := hw
      obtain ⟨hP1, hK1, hD1⟩ := hB
      rw [ht] at hP1
      have hK1 := va_K.moved hvm.symm hK1
      obtain ⟨hP, hD⟩ := va_join (wr := [(h0, .inr (9, [.int 0, .ref h1, .ref z0, .ref z1, .int 0, .int 0, .int 0])), (h1, .inl (k0, 4, .inr (.inr (.inr (.inr (va_up (va_up (va_up (va_up (fun _ => none) 0 (some ge5)) 1 (some ge5)) 2 (some ge5)) 3 (some ge5))))))), (h2, .inl (k1, 5, .inl (upd (upd (upd (upd (upd (fun _ => 0) 0 l1) 1 l2) 2 l3) 3 l4) 4 l5))), (h3, .inr (0, [.ref h4, .int 0, .int 0, .int 0])), (h4, .inl (k2, 2, .inl f0))]) (w1 := []) hP hD [] [0, 1, 2, 3, 4] rfl rfl (by decide) (by decide) hk1 hFc hP1 hD1
      generalize H1 = H at hP hS ⊢
      have hP : va_P (dC, dI) vwCl [(h0, .inr (9, [.int 0, .ref h1, .ref z0, .ref z1, .int 0, .int 0, .int 0])), (h1, .inl (k0, 4, .inr (.inr (.inr (.inr (va_up (va_up (va_up (va_up (fun _ => none) 0 (some ge5)) 1 (some ge5)) 2 (some ge5)) 3 (some ge5))))))), (h2, .inl (k1, 5, .inl (upd (upd (upd (upd (upd (fun _ => 0) 0 l1) 1 l2) 2 l3) 3 l4) 4 l5))), (h3, .inr (0, [.ref h4, .int 0, .int 0, .int 0])), (h4, .inl (k2, 2, .inl f0))] H := hP
      have hD : va_D A [(h0, .inr (9, [.int 0, .ref h1, .ref z0, .ref z1, .int 0, .int 0, .int 0])), (h1, .inl (k0, 4, .inr (.inr (.inr (.inr (va_up (va_up (va_up (va_up (fun _ => none) 0 (some ge5)) 1 (some ge5)) 2 (some ge5)) 3 (some ge5))))))), (h2, .inl (k1, 5, .inl (upd (upd (upd (upd (upd (fun _ => 0) 0 l1) 1 l2) 2 l3) 3 l4) 4 l5))), (h3, .inr (0, [.ref h4, .int 0, .int 0, .int 0])), (h4, .inl (k2, 2, .inl f0))] := hD
      refine lv_iload hx hb dX5_type_129 (lv_at hl 3 rfl) ?_
      refine lv_iload_n hx hb dX5_type_131 rfl (lv_at hl 1 rfl) ?_
      have hPc := hP.sub (ws' := []) [] rfl
      have hDc := hD.sub (ws' := []) [] (by decide) rfl
      have hKc := hK.sub (tys' := []) [] rfl
      have hFc := va_free (wc := []) hD hS hA [] rfl
      refine va_calli (va_runS (As := [.int rp]) (rest := [.int 0, .int 1, .ref h0]) ⟨hx, hb, hml, hown, hts⟩ (kx_X5_isNo_2 l dC dI H.size rp rp_l rp_u) (cwS 1 hts gX5_type_X5_isNo rfl rfl rfl (by decide +kernel) ⟨Nat.le_of_ble_eq_true rfl, Nat.le_of_ble_eq_true rfl⟩) ⟨fun a U g mk q => by obtain ⟨q0, q1, qP, qK, qD⟩ := q; exact ⟨q0, q1, qP, va_K.moved (u := U) (U := U.calling g mk a) (Vm.Alike.refl U.vm) qK, qD⟩, fun U hU hW => ⟨rfl, by rw [hU], by rw [hU]; exact hPc, va_K.moved hW.alike hKc, hDc.weaken (fun _ _ _ _ => trivial)⟩⟩ rfl rfl hl.1 rfl (lv_room (Nat.le_of_ble_eq_true rfl)) dX5_type_132 ⟨Nat.le_of_ble_eq_true rfl, Nat.le_of_ble_eq_true rfl⟩) hS (fun q _ h => hFc q h) hFc (fun r9 u t H1 locs ht hvm hw hB hz1 hk1 hS => ?_)
      obtain rfl := hw
      obtain ⟨hP1, hK1, hD1⟩ := hB
      rw [ht] at hP1
      have hK1 := va_K.moved hvm.symm hK1
      obtain ⟨hP, hD⟩ := va_join (wr := [(h0, .inr (9, [.int 0, .ref h1, .ref z0, .ref z1, .int 0, .int 0, .int 0])), (h1, .inl (k0, 4, .inr (.inr (.inr (.inr (va_up (va_up (va_up (va_up (fun _ => none) 0 (some ge5)) 1 (some ge5)) 2 (some ge5)) 3 (some ge5))))))), (h2, .inl (k1, 5, .inl (upd (upd (upd (upd (upd (fun _ => 0) 0 l1) 1 l2) 2 l3) 3 l4) 4 l5))), (h3, .inr (0, [.ref h4, .int 0, .int 0, .int 0])), (h4, .inl (k2, 2, .inl f0))]) (w1 := []) hP hD [] [0, 1, 2, 3, 4] rfl rfl (by decide) (by decide) hk1 hFc hP1 hD1
      generalize H1 = H at hP hS ⊢
      have hP : va_P (dC, dI) vwCl [(h0, .inr (9, [.int 0, .ref h1, .ref z0, .ref z1, .int 0, .int 0, .int 0])), (h1, .inl (k0, 4, .inr (.inr (.inr (.inr (va_up (va_up (va_up (va_up (fun _ => none) 0 (some ge5)) 1 (some ge5)) 2 (some ge5)) 3 (some ge5))))))), (h2, .inl (k1, 5, .inl (upd (upd (upd (upd (upd (fun _ => 0) 0 l1) 1 l2) 2 l3) 3 l4) 4 l5))), (h3, .inr (0, [.ref h4, .int 0, .int 0, .int 0])), (h4, .inl (k2, 2, .inl f0))] H := hP
      have hD : va_D A [(h0, .inr (9, [.int 0, .ref h1, .ref z0, .ref z1, .int 0, .int 0, .int 0])), (h1, .inl (k0, 4, .inr (.inr (.inr (.inr (va_up (va_up (va_up (va_up (fun _ => none) 0 (some ge5)) 1 (some ge5)) 2 (some ge5)) 3 (some ge5))))))), (h2, .inl (k1, 5, .inl (upd (upd (upd (upd (upd (fun _ => 0) 0 l1) 1 l2) 2 l3) 3 l4) 4 l5))), (h3, .inr (0, [.ref h4, .int 0, .int 0, .int 0])), (h4, .inl (k2, 2, .inl f0))] := hD
      refine lv_if_ne (tgt := 162) hx hb dX5_type_135 (by decide) (fun _ => ?_) (fun c9 => absurd c9 (by decide))
      refine lv_iconst (v := 0) hx hb dX5_type_162 (by decide) ?_
      have hPc := hP.sub (ws' := [(h0, .inr (9, [.int 0, .ref h1, .ref z0, .ref z1, .int 0, .int 0, .int 0]))]) [0] rfl
      have hDc := hD.sub (ws' := [(h0, .inr (9, [.int 0, .ref h1, .ref z0, .ref z1, .int 0, .int 0, .int 0]))]) [0] (by decide) rfl
      have hKc := hK.sub (tys' := []) [] rfl
      have hFc := va_free (wc := [(h0, .inr (9, [.int 0, .ref h1, .ref z0, .ref z1, .int 0, .int 0, .int 0]))]) hD hS hA [0] rfl
      refine va_calli (va_runV (As := [.int 1, .int 0, .int 0]) (rest := []) ⟨hx, hb, hml, hown, hts⟩ (kx_X5_fails_0 l dC dI h0 h1 z0 z1 H.size) (cwV 3 hts gX5_type_X5_fails rfl rfl rfl (by decide +kernel) ⟨Nat.le_of_ble_eq_true rfl, Nat.le_of_ble_eq_true rfl⟩) ⟨fun a U g mk q => by obtain ⟨q0, q1, qP, qK, qD⟩ := q; exact ⟨q0, q1, qP, va_K.moved (u := U) (U := U.calling g mk a) (Vm.Alike.refl U.vm) qK, qD⟩, va_recv hKc hPc (ci := 9) (q0 := 0) rfl rfl, fun U hU hW => ⟨rfl, by rw [hU], by rw [hU]; exact hPc, va_K.moved hW.alike hKc, hDc.weaken (fun _ _ _ _ => trivial)⟩⟩ rfl rfl hl.1 rfl (lv_room (Nat.le_of_ble_eq_true rfl)) dX5_type_163 ⟨Nat.le_of_ble_eq_true rfl, Nat.le_of_ble_eq_true rfl⟩) hS (fun q _ h => hFc q h) hFc (fun r9 u t H1 locs ht hvm hw hB hz1 hk1 hS => ?_)
      obtain rfl := hw
      obtain ⟨hP1, hK1, hD1⟩ := hB
      rw [ht] at hP1
      have hK1 := va_K.moved hvm.symm hK1
      obtain ⟨hP, hD⟩ := va_join (wr := [(h1, .inl (k0, 4, .inr (.inr (.inr (.inr (va_up (va_up (va_up (va_up (fun _ => none) 0 (some ge5)) 1 (some ge5)) 2 (some ge5)) 3 (some ge5))))))), (h2, .inl (k1, 5, .inl (upd (upd (upd (upd (upd (fun _ => 0) 0 l1) 1 l2) 2 l3) 3 l4) 4 l5))), (h3, .inr (0, [.ref h4, .int 0, .int 0, .int 0])), (h4, .inl (k2, 2, .inl f0))]) (w1 := [(h0, .inr (9, [.int 1, .ref h1, .ref z0, .ref z1, .int 0, .int 0, .int 0]))]) hP hD [0] [1, 2, 3, 4] rfl rfl (by decide) (by decide) hk1 hFc hP1 hD1
      generalize H1 = H at hP hS ⊢
      have hP : va_P (dC, dI) vwCl [(h1, .inl (k0, 4, .inr (.inr (.inr (.inr (va_up (va_up (va_up (va_up (fun _ => none) 0 (some ge5)) 1 (some ge5)) 2 (some ge5)) 3 (some ge5))))))), (h2, .inl (k1, 5, .inl (upd (upd (upd (upd (upd (fun _ => 0) 0 l1) 1 l2) 2 l3) 3 l4) 4 l5))), (h3, .inr (0, [.ref h4, .int 0, .int 0, .int 0])), (h4, .inl (k2, 2, .inl f0)), (h0, .inr (9, [.int 1, .ref h1, .ref z0, .ref z1, .int 0, .int 0, .int 0]))] H := hP
      have hD : va_D A [(h1, .inl (k0, 4, .inr (.inr (.inr (.inr (va_up (va_up (va_up (va_up (fun _ => none) 0 (some ge5)) 1 (some ge5)) 2 (some ge5)) 3 (some ge5))))))), (h2, .inl (k1, 5, .inl (upd (upd (upd (upd (upd (fun _ => 0) 0 l1) 1 l2) 2 l3) 3 l4) 4 l5))), (h3, .inr (0, [.ref h4, .int 0, .int 0, .int 0])), (h4, .inl (k2, 2, .inl f0)), (h0, .inr (9, [.int 1, .ref h1, .ref z0, .ref z1, .int 0, .int 0, .int 0]))] := hD
      refine lv_if_eq (tgt := 171) hx hb dX5_type_166 (by decide) (fun c9 => absurd c9 (by decide)) (fun _ => ?_)
      refine lv_iconst (v := 0) hx hb dX5_type_169 (by decide) ?_
      refine W.widen (k := 25) (n := 169) (Nat.le_of_ble_eq_true rfl) (Nat.le_of_ble_eq_true rfl) ?_
      have hK := hK.sub (tys' := [(k0, .object "java/lang/String")]) [0] rfl
      have hP := hP.sub (ws' := [(h0, .inr (9, [.int 1, .ref h1, .ref z0, .ref z1, .int 0, .int 0, .int 0]))]) [4] rfl
      have hD := hD.sub (ws' := [(h0, .inr (9, [.int 1, .ref h1, .ref z0, .ref z1, .int 0, .int 0, .int 0]))]) [4] (by decide) rfl
      exact W.iret (v := 0) hx hb hr (fun t ht hW => ⟨⟨0, (), rfl, rfl, by rw [ht]; exact hP, va_K.moved hW.alike hK, hD⟩, hS.F ht⟩) hS.2.2 dX5_type_170
set_option maxHeartbeats 4000000 in
set_option maxRecDepth 100000 in
theorem kx_J0_length_8abf5_4 (l : Launch) (dC : Nat → ClassId) (dI : Nat → Nat → Nat) (ge5 gea gv5 gva gde gic gi0 : Nat) (h0 : Nat) (h1 : Nat) (k0 : ClassId) (sz : Nat) (f0 : Nat → Int32) (f0_t : sb_Fit f0) : Met l yJ0_length_8abf5 wsJ0_length_8abf5 ({ frames := 1, cells := 0, slots := 0, locals := 20 }) (va_Pc [.ref h0] (fun U => U.heap.size = sz ∧ va_P (dC, dI) vwCl [(h0, .inr (0, [.ref h1, .int 0, .int 0, .int 0])), (h1, .inl (k0, 3, .inl f0))] U.heap ∧ va_K (dC, dI) vwCl [(k0, .byte)] U ∧ va_D (fun _ => True) [(h0, .inr (0, [.ref h1, .int 0, .int 0, .int 0])), (h1, .inl (k0, 3, .inl f0))] ∧ gv ge5 gea gv5 gva gde gic gi0 (va_A [(h0, .inr (0, [.ref h1, .int 0, .int 0, .int 0])), (h1, .inl (k0, 3, .inl f0))] sz) U U.heap)) (va_Qi (fun (r : Int32) (_ : Unit) => r = 3) (fun (_ : Unit) (t : State) => va_P (dC, dI) vwCl [(h0, .inr (0, [.ref h1, .int 0, .int 0, .int 0])), (h1, .inl (k0, 3, .inl f0))] t.heap ∧ va_K (dC, dI) vwCl [(k0, .byte)] t ∧ va_D (va_A [(h0, .inr (0, [.ref h1, .int 0, .int 0, .int 0])), (h1, .inl (k0, 3, .inl f0))] sz) [(h0, .inr (0, [.ref h1, .int 0, .int 0, .int 0])), (h1, .inl (k0, 3, .inl f0))]) (va_A [(h0, .inr (0, [.ref h1, .int 0, .int 0, .int 0])), (h1, .inl (k0, 3, .inl f0))] sz)) 0 0 (va_A [(h0, .inr (0, [.ref h1, .int 0, .int 0, .int 0])), (h1, .inl (k0, 3, .inl f0))] sz) := by
  refine Met.ofW (cc := cJ0_length_8abf5) (maxL := 1) (ret := (some .int)) (by decide) rfl ?_
  intro p e s m args below meth c s₁ B hml hv
  obtain ⟨rfl, hsz, hP, hK, hD0, hG⟩ := hv
  have hx := B.exec
  have hb := B.bytes
  have hr := B.returns
  have hts := atoms_spec (ws := wsJ0_length_8abf5) B.pre
  have hown : s.vm.findClass RJ0 = some m.cls := findClass_of_methodNamed B.named
  have hlocks := B.notSynchronized
  subst hsz
  have hD := hD0.self (sz := s.heap.size)
  generalize hAe : va_A [(h0, .inr (0, [.ref h1, .int 0, .int 0, .int 0])), (h1, .inl (k0, 3, .inl f0))] s.heap.size = A at hD hG ⊢
  obtain ⟨⟨g_AO_Text, g_AO_String, g_AO_Object, g_nm_RX1_20, g_nm_RX0_17, g_nm_RX3_31, g_nm_RX2_44, g_nm_RL_121, g_nf_RL_13, g_nf_RL_47, g_ca_IO, g_ca_IA, g_ca_IS, g_ca_IntObj, g_ca_StrObj, g_de_RT, g_de_EX, g_de_TH, g_nc_IA_IO, g_nc_IS_IO, g_nc_IS_IA⟩, ⟨g_s3, g_s5, g_sa, g_x278, g_x280, g_x282, g_x284, g_x286, g_x180, g_x238, g_x250⟩, ⟨g_o5, g_c5, g_v5, g_t5, g_oa, g_ca, g_va, g_ta, g_zc, g_zd, g_td, g_zf, g_zU, g_zN, g_zh, g_zk, g_tk, g_oi, g_vi⟩⟩ := id hG
  have hA : ∀ q : Nat, s.heap.size ≤ q → A q := fun q h => by rw [← hAe]; exact Or.inr h
  have hS : va_S A s.heap s.heap [] := va_S.rf
  have hP : va_P (dC, dI) vwCl [(h0, .inr (0, [.ref h1, .int 0, .int 0, .int 0])), (h1, .inl (k0, 3, .inl f0))] s.heap := hP
  have hl := lv_entry ([.ref h0]) (n := 1) (Nat.le_of_ble_eq_true rfl)
  rw [lg_entry_eq]
  generalize (lg_sl ([.ref h0]) ++ List.replicate (1 - (lg_sl ([.ref h0])).length) Slot.unset).toArray = ls at hl ⊢
  have hl : lv_has ls 1 [(0, .ref h0)] := hl
  refine lv_aload_n hx hb dJ0_length_8abf5_0 rfl (lv_at hl 0 rfl) ?_
  refine va_get (D := (dC, dI)) (ci := 0) (v := .ref h1) (C := RJ0) (T := TJ0) (N := 4) hx hb hts (by decide +kernel) hown hK hP 0 rfl rfl 0 (by decide) (hts (.fieldLink RJ0 9 "java/lang/String" "value" "[B") (by decide +kernel)) (fun _ h9 => h9) rfl dJ0_length_8abf5_1 ?_
  refine va_alen (D := (dC, dI)) (v := 3) hx hb hK hP 1 0 rfl rfl (show Int32.ofNat 3 = 3 from by decide) dJ0_length_8abf5_4 ?_
  refine lv_aload_n hx hb dJ0_length_8abf5_5 rfl (lv_at hl 0 rfl) ?_
  have hPc := hP.sub (ws' := [(h0, .inr (0, [.ref h1, .int 0, .int 0, .int 0]))]) [0] rfl
  have hDc := hD.sub (ws' := [(h0, .inr (0, [.ref h1, .int 0, .int 0, .int 0]))]) [0] (by decide) rfl
  have hKc := hK.sub (tys' := []) [] rfl
  have hFc := va_free (wc := [(h0, .inr (0, [.ref h1, .int 0, .int 0, .int 0]))]) hD hS hA [0] rfl
  refine va_calli (va_runV (As := []) (rest := [.int 3]) ⟨hx, hb, hml, hown, hts⟩ (kx_J0_coder_7d493_1 l dC dI ge5 gea gv5 gva gde gic gi0 h0 h1 s.heap.size) (cwV 0 hts gJ0_length_8abf5_J0_coder_7d493 rfl rfl rfl (by decide +kernel) ⟨Nat.le_of_ble_eq_true rfl, Nat.le_of_ble_eq_true rfl⟩) ⟨fun a U g mk q => by obtain ⟨q0, q1, qP, qK, qD, qG⟩ := q; exact ⟨q0, q1, qP, va_K.moved (u := U) (U := U.calling g mk a) (Vm.Alike.refl U.vm) qK, qD, gv.fb qG⟩, va_recv hKc hPc (ci := 0) (q0 := 0) rfl rfl, fun U hU hW => ⟨rfl, by rw [hU], by rw [hU]; exact hPc, va_K.moved hW.alike hKc, hDc.weaken (fun _ _ _ _ => trivial), gv.pass hW hU hS hFc hG⟩⟩ rfl rfl hl.1 rfl (lv_room (Nat.le_of_ble_eq_true rfl)) dJ0_length_8abf5_6 ⟨Nat.le_of_ble_eq_true rfl, Nat.le_of_ble_eq_true rfl⟩) hS (fun q _ h => hFc q h) hFc (fun r9 u t H1 locs ht hvm hw hB hz1 hk1 hS => ?_)
  obtain rfl := hw
  obtain ⟨hP1, hK1, hD1⟩ := hB
  rw [ht] at hP1
  have hK1 := va_K.moved hvm.symm hK1
  obtain ⟨hP, hD⟩ := va_join (wr := [(h1, .inl (k0, 3, .inl f0))]) (w1 := [(h0, .inr (0, [.ref h1, .int 0, .int 0, .int 0]))]) hP hD [0] [1] rfl rfl (by decide) (by decide) hk1 hFc hP1 hD1
  generalize H1 = H at hP hS ⊢
  have hP : va_P (dC, dI) vwCl [(h1, .inl (k0, 3, .inl f0)), (h0, .inr (0, [.ref h1, .int 0, .int 0, .int 0]))] H := hP
  have hD : va_D A [(h1, .inl (k0, 3, .inl f0)), (h0, .inr (0, [.ref h1, .int 0, .int 0, .int 0]))] := hD
  refine lv_ishr hx hb dJ0_length_8abf5_9 ?_
  refine lv_topi (fun y1 ey1 => ?_)
  obtain rfl : y1 = 3 := ey1.trans (by decide)
  have hP := hP.sub (ws' := [(h0, .inr (0, [.ref h1, .int 0, .int 0, .int 0])), (h1, .inl (k0, 3, .inl f0))]) [1, 0] rfl
  have hD := hD.sub (ws' := [(h0, .inr (0, [.ref h1, .int 0, .int 0, .int 0])), (h1, .inl (k0, 3, .inl f0))]) [1, 0] (by decide) rfl
  exact W.iret (v := 3) hx hb hr (fun t ht hW => ⟨⟨3, (), rfl, rfl, by rw [ht]; exact hP, va_K.moved hW.alike hK, hD⟩, hS.F ht⟩) hS.2.2 dJ0_length_8abf5_10
set_option maxHeartbeats 4000000 in
set_option maxRecDepth 100000 in
theorem kx_J5_ensureCapacityInternal_d00df_3 (l : Launch) (dC : Nat → ClassId) (dI : Nat → Nat → Nat) (h0 : Nat) (h1 : Nat) (k0 : ClassId) (sz : Nat) : Met l yJ5_ensureCapacityInternal_d00df wsJ5_ensureCapacityInternal_d00df ({ frames := 0, cells := 0, slots := 0, locals := 0 }) (va_Pc [.ref h0, .int 3] (fun U => U.heap.size = sz ∧ va_P (dC, dI) vwCl [(h0, .inr (1, [.ref h1, .int 0, .int 0, .int 0])), (h1, .inl (k0, 16, .inl (fun _ => 0)))] U.heap ∧ va_K (dC, dI) vwCl [(k0, .byte)] U ∧ va_D (fun _ => True) [(h0, .inr (1, [.ref h1, .int 0, .int 0, .int 0])), (h1, .inl (k0, 16, .inl (fun _ => 0)))])) (va_Qv (fun _ : Unit => True) (fun (_ : Unit) (t : State) => va_P (dC, dI) vwCl [(h0, .inr (1, [.ref h1, .int 0, .int 0, .int 0])), (h1, .inl (k0, 16, .inl (fun _ => 0)))] t.heap ∧ va_K (dC, dI) vwCl [(k0, .byte)] t ∧ va_D (va_A [(h0, .inr (1, [.ref h1, .int 0, .int 0, .int 0])), (h1, .inl (k0, 16, .inl (fun _ => 0)))] sz) [(h0, .inr (1, [.ref h1, .int 0, .int 0, .int 0])), (h1, .inl (k0, 16, .inl (fun _ => 0)))]) (va_A [(h0, .inr (1, [.ref h1, .int 0, .int 0, .int 0])), (h1, .inl (k0, 16, .inl (fun _ => 0)))] sz)) 0 0 (va_A [(h0, .inr (1, [.ref h1, .int 0, .int 0, .int 0])), (h1, .inl (k0, 16, .inl (fun _ => 0)))] sz) := by
  refine Met.ofW (cc := cJ5_ensureCapacityInternal_d00df) (maxL := 3) (ret := none) (by decide) rfl ?_
  intro p e s m args below meth c s₁ B hml hv
  obtain ⟨rfl, hsz, hP, hK, hD0⟩ := hv
  have hx := B.exec
  have hb := B.bytes
  have hr := B.returns
  have hts := atoms_spec (ws := wsJ5_ensureCapacityInternal_d00df) B.pre
  have hown : s.vm.findClass RJ5 = some m.cls := findClass_of_methodNamed B.named
  have hlocks := B.notSynchronized
  subst hsz
  have hD := hD0.self (sz := s.heap.size)
  generalize hAe : va_A [(h0, .inr (1, [.ref h1, .int 0, .int 0, .int 0])), (h1, .inl (k0, 16, .inl (fun _ => 0)))] s.heap.size = A at hD ⊢
  have hA : ∀ q : Nat, s.heap.size ≤ q → A q := fun q h => by rw [← hAe]; exact Or.inr h
  have hS : va_S A s.heap s.heap [] := va_S.rf
  have hP : va_P (dC, dI) vwCl [(h0, .inr (1, [.ref h1, .int 0, .int 0, .int 0])), (h1, .inl (k0, 16, .inl (fun _ => 0)))] s.heap := hP
  have hl := lv_entry ([.ref h0, .int 3]) (n := 3) (Nat.le_of_ble_eq_true rfl)
  rw [lg_entry_eq]
  generalize (lg_sl ([.ref h0, .int 3]) ++ List.replicate (3 - (lg_sl ([.ref h0, .int 3])).length) Slot.unset).toArray = ls at hl ⊢
  have hl : lv_has ls 3 [(0, .ref h0), (1, .int 3)] := hl
  refine lv_aload_n hx hb dJ5_ensureCapacityInternal_d00df_0 rfl (lv_at hl 0 rfl) ?_
  refine va_get (D := (dC, dI)) (ci := 1) (v := .ref h1) (C := RJ4) (T := TJ4) (N := 4) hx hb hts (by decide +kernel) hown hK hP 0 rfl rfl 0 (by decide) (hts (.fieldLink RJ5 15 "java/lang/AbstractStringBuilder" "value" "[B") (by decide +kernel)) (fun _ h9 => h9) rfl dJ5_ensureCapacityInternal_d00df_1 ?_
  refine va_alen (D := (dC, dI)) (v := 16) hx hb hK hP 1 0 rfl rfl (show Int32.ofNat 16 = 16 from by decide) dJ5_ensureCapacityInternal_d00df_4 ?_
  refine lv_aload_n hx hb dJ5_ensureCapacityInternal_d00df_5 rfl (lv_at hl 0 rfl) ?_
  refine va_get (D := (dC, dI)) (ci := 1) (v := .int 0) (C := RJ4) (T := TJ4) (N := 4) hx hb hts (by decide +kernel) hown hK hP 0 rfl rfl 1 (by decide) (hts (.fieldLink RJ5 22 "java/lang/AbstractStringBuilder" "coder" "B") (by decide +kernel)) (fun _ h9 => h9) rfl dJ5_ensureCapacityInternal_d00df_6 ?_
  refine lv_ishr hx hb dJ5_ensureCapacityInternal_d00df_9 ?_
  refine lv_topi (fun y1 ey1 => ?_)
  obtain rfl : y1 = 16 := ey1.trans (by decide)
  refine lv_istore_n (lv' := [(2, .int 16), (0, .ref h0), (1, .int 3)]) hx hb dJ5_ensureCapacityInternal_d00df_10 rfl hl (by decide) rfl (fun ls hl => ?_)
  refine lv_iload_n hx hb dJ5_ensureCapacityInternal_d00df_11 rfl (lv_at hl 2 rfl) ?_
  refine lv_iload_n hx hb dJ5_ensureCapacityInternal_d00df_12 rfl (lv_at hl 0 rfl) ?_
  refine lv_isub hx hb dJ5_ensureCapacityInternal_d00df_13 ?_
  refine lv_topi (fun y2 ey2 => ?_)
  obtain rfl : y2 = (-13) := ey2.trans (by decide)
  refine lv_if_le (tgt := 38) hx hb dJ5_ensureCapacityInternal_d00df_14 (by decide) (fun _ => ?_) (fun c9 => absurd (by decide) c9)
  exact W.vret hx hb hr (fun t ht hW => ⟨⟨(), rfl, trivial, by rw [ht]; exact hP, va_K.moved hW.alike hK, hD⟩, hS.F ht⟩) hS.2.2 dJ5_ensureCapacityInternal_d00df_38
set_option maxHeartbeats 4000000 in
set_option maxRecDepth 100000 in
theorem kx_J0_getBytes_840e7_3 (l : Launch) (dC : Nat → ClassId) (dI : Nat → Nat → Nat) (ge5 gea gv5 gva gde gic gi0 : Nat) (h0 : Nat) (h1 : Nat) (h2 : Nat) (k0 : ClassId) (k1 : ClassId) (sz : Nat) (f0 : Nat → Int32) (f0_t : sb_Fit f0) : Met l yJ0_getBytes_840e7 wsJ0_getBytes_840e7 ({ frames := 1, cells := 0, slots := 0, locals := 60 }) (va_Pc [.ref h2, .ref h1, .int 0, .int 0] (fun U => U.heap.size = sz ∧ va_P (dC, dI) vwCl [(h0, .inl (k0, 3, .inl f0)), (h1, .inl (k1, 16, .inl (fun _ => 0))), (h2, .inr (0, [.ref h0, .int 0, .int 0, .int 0]))] U.heap ∧ va_K (dC, dI) vwCl [(k0, .byte), (k1, .byte)] U ∧ va_D (fun _ => True) [(h0, .inl (k0, 3, .inl f0)), (h1, .inl (k1, 16, .inl (fun _ => 0))), (h2, .inr (0, [.ref h0, .int 0, .int 0, .int 0]))] ∧ gv ge5 gea gv5 gva gde gic gi0 (va_A [(h0, .inl (k0, 3, .inl f0)), (h1, .inl (k1, 16, .inl (fun _ => 0))), (h2, .inr (0, [.ref h0, .int 0, .int 0, .int 0]))] sz) U U.heap)) (va_Qv (fun _ : Unit => True) (fun (_ : Unit) (t : State) => ∃ f2 : Nat → Int32, sb_Fit f2 ∧ va_P (dC, dI) vwCl [(h0, .inl (k0, 3, .inl f0)), (h1, .inl (k1, 16, .inl f2)), (h2, .inr (0, [.ref h0, .int 0, .int 0, .int 0]))] t.heap ∧ va_K (dC, dI) vwCl [(k0, .byte), (k1, .byte)] t ∧ va_D (va_A [(h0, .inl (k0, 3, .inl f0)), (h1, .inl (k1, 16, .inl (fun _ => 0))), (h2, .inr (0, [.ref h0, .int 0, .int 0, .int 0]))] sz) [(h0, .inl (k0, 3, .inl f0)), (h1, .inl (k1, 16, .inl f2)), (h2, .inr (0, [.ref h0, .int 0, .int 0, .int 0]))]) (va_A [(h0, .inl (k0, 3, .inl f0)), (h1, .inl (k1, 16, .inl (fun _ => 0))), (h2, .inr (0, [.ref h0, .int 0, .int 0, .int 0]))] sz)) 0 0 (va_A [(h0, .inl (k0, 3, .inl f0)), (h1, .inl (k1, 16, .inl (fun _ => 0))), (h2, .inr (0, [.ref h0, .int 0, .int 0, .int 0]))] sz) := by
  refine Met.ofW (cc := cJ0_getBytes_840e7) (maxL := 4) (ret := none) (by decide) rfl ?_
  intro p e s m args below meth c s₁ B hml hv
  obtain ⟨rfl, hsz, hP, hK, hD0, hG⟩ := hv
  have hx := B.exec
  have hb := B.bytes
  have hr := B.returns
  have hts := atoms_spec (ws := wsJ0_getBytes_840e7) B.pre
  have hown : s.vm.findClass RJ0 = some m.cls := findClass_of_methodNamed B.named
  have hlocks := B.notSynchronized
  subst hsz
  have hD := hD0.self (sz := s.heap.size)
  generalize hAe : va_A [(h0, .inl (k0, 3, .inl f0)), (h1, .inl (k1, 16, .inl (fun _ => 0))), (h2, .inr (0, [.ref h0, .int 0, .int 0, .int 0]))] s.heap.size = A at hD hG ⊢
  obtain ⟨⟨g_AO_Text, g_AO_String, g_AO_Object, g_nm_RX1_20, g_nm_RX0_17, g_nm_RX3_31, g_nm_RX2_44, g_nm_RL_121, g_nf_RL_13, g_nf_RL_47, g_ca_IO, g_ca_IA, g_ca_IS, g_ca_IntObj, g_ca_StrObj, g_de_RT, g_de_EX, g_de_TH, g_nc_IA_IO, g_nc_IS_IO, g_nc_IS_IA⟩, ⟨g_s3, g_s5, g_sa, g_x278, g_x280, g_x282, g_x284, g_x286, g_x180, g_x238, g_x250⟩, ⟨g_o5, g_c5, g_v5, g_t5, g_oa, g_ca, g_va, g_ta, g_zc, g_zd, g_td, g_zf, g_zU, g_zN, g_zh, g_zk, g_tk, g_oi, g_vi⟩⟩ := id hG
  have hA : ∀ q : Nat, s.heap.size ≤ q → A q := fun q h => by rw [← hAe]; exact Or.inr h
  have hS : va_S A s.heap s.heap [] := va_S.rf
  have hP : va_P (dC, dI) vwCl [(h0, .inl (k0, 3, .inl f0)), (h1, .inl (k1, 16, .inl (fun _ => 0))), (h2, .inr (0, [.ref h0, .int 0, .int 0, .int 0]))] s.heap := hP
  have hl := lv_entry ([.ref h2, .ref h1, .int 0, .int 0]) (n := 4) (Nat.le_of_ble_eq_true rfl)
  rw [lg_entry_eq]
  generalize (lg_sl ([.ref h2, .ref h1, .int 0, .int 0]) ++ List.replicate (4 - (lg_sl ([.ref h2, .ref h1, .int 0, .int 0])).length) Slot.unset).toArray = ls at hl ⊢
  have hl : lv_has ls 4 [(0, .ref h2), (1, .ref h1), (2, .int 0), (3, .int 0)] := hl
  refine lv_aload_n hx hb dJ0_getBytes_840e7_0 rfl (lv_at hl 0 rfl) ?_
  have hPc := hP.sub (ws' := [(h2, .inr (0, [.ref h0, .int 0, .int 0, .int 0]))]) [2] rfl
  have hDc := hD.sub (ws' := [(h2, .inr (0, [.ref h0, .int 0, .int 0, .int 0]))]) [2] (by decide) rfl
  have hKc := hK.sub (tys' := []) [] rfl
  have hFc := va_free (wc := [(h2, .inr (0, [.ref h0, .int 0, .int 0, .int 0]))]) hD hS hA [2] rfl
  refine va_calli (va_runV (As := []) (rest := []) ⟨hx, hb, hml, hown, hts⟩ (kx_J0_coder_7d493_1 l dC dI ge5 gea gv5 gva gde gic gi0 h2 h0 s.heap.size) (cwV 0 hts gJ0_getBytes_840e7_J0_coder_7d493 rfl rfl rfl (by decide +kernel) ⟨Nat.le_of_ble_eq_true rfl, Nat.le_of_ble_eq_true rfl⟩) ⟨fun a U g mk q => by obtain ⟨q0, q1, qP, qK, qD, qG⟩ := q; exact ⟨q0, q1, qP, va_K.moved (u := U) (U := U.calling g mk a) (Vm.Alike.refl U.vm) qK, qD, gv.fb qG⟩, va_recv hKc hPc (ci := 0) (q0 := 0) rfl rfl, fun U hU hW => ⟨rfl, by rw [hU], by rw [hU]; exact hPc, va_K.moved hW.alike hKc, hDc.weaken (fun _ _ _ _ => trivial), gv.pass hW hU hS hFc hG⟩⟩ rfl rfl hl.1 rfl (lv_room (Nat.le_of_ble_eq_true rfl)) dJ0_getBytes_840e7_1 ⟨Nat.le_of_ble_eq_true rfl, Nat.le_of_ble_eq_true rfl⟩) hS (fun q _ h => hFc q h) hFc (fun r9 u t H1 locs ht hvm hw hB hz1 hk1 hS => ?_)
  obtain rfl := hw
  obtain ⟨hP1, hK1, hD1⟩ := hB
  rw [ht] at hP1
  have hK1 := va_K.moved hvm.symm hK1
  obtain ⟨hP, hD⟩ := va_join (wr := [(h0, .inl (k0, 3, .inl f0)), (h1, .inl (k1, 16, .inl (fun _ => 0)))]) (w1 := [(h2, .inr (0, [.ref h0, .int 0, .int 0, .int 0]))]) hP hD [2] [0, 1] rfl rfl (by decide) (by decide) hk1 hFc hP1 hD1
  generalize H1 = H at hP hS ⊢
  have hP : va_P (dC, dI) vwCl [(h0, .inl (k0, 3, .inl f0)), (h1, .inl (k1, 16, .inl (fun _ => 0))), (h2, .inr (0, [.ref h0, .int 0, .int 0, .int 0]))] H := hP
  have hD : va_D A [(h0, .inl (k0, 3, .inl f0)), (h1, .inl (k1, 16, .inl (fun _ => 0))), (h2, .inr (0, [.ref h0, .int 0, .int 0, .int 0]))] := hD
  refine lv_iload_n hx hb dJ0_getBytes_840e7_4 rfl (lv_at hl 3 rfl) ?_
  refine lv_icmp_ne (tgt := 28) hx hb dJ0_getBytes_840e7_5 (by decide) (fun c9 => absurd (by decide) c9) (fun _ => ?_)
  refine lv_aload_n hx hb dJ0_getBytes_840e7_8 rfl (lv_at hl 0 rfl) ?_
  refine va_get (D := (dC, dI)) (ci := 0) (v := .ref h0) (C := RJ0) (T := TJ0) (N := 4) hx hb hts (by decide +kernel) hown hK hP 2 rfl rfl 0 (by decide) (hts (.fieldLink RJ0 9 "java/lang/String" "value" "[B") (by decide +kernel)) (fun _ h9 => h9) rfl dJ0_getBytes_840e7_9 ?_
  refine lv_iconst (v := 0) hx hb dJ0_getBytes_840e7_12 (by decide) ?_
  refine lv_aload_n hx hb dJ0_getBytes_840e7_13 rfl (lv_at hl 1 rfl) ?_
  refine lv_iload_n hx hb dJ0_getBytes_840e7_14 rfl (lv_at hl 2 rfl) ?_
  refine lv_iload_n hx hb dJ0_getBytes_840e7_15 rfl (lv_at hl 3 rfl) ?_
  refine lv_ishl hx hb dJ0_getBytes_840e7_16 ?_
  refine lv_topi (fun y1 ey1 => ?_)
  obtain rfl : y1 = 0 := ey1.trans (by decide)
  refine lv_aload_n hx hb dJ0_getBytes_840e7_17 rfl (lv_at hl 0 rfl) ?_
  refine va_get (D := (dC, dI)) (ci := 0) (v := .ref h0) (C := RJ0) (T := TJ0) (N := 4) hx hb hts (by decide +kernel) hown hK hP 2 rfl rfl 0 (by decide) (hts (.fieldLink RJ0 9 "java/lang/String" "value" "[B") (by decide +kernel)) (fun _ h9 => h9) rfl dJ0_getBytes_840e7_18 ?_
  refine va_alen (D := (dC, dI)) (v := 3) hx hb hK hP 0 0 rfl rfl (show Int32.ofNat 3 = 3 from by decide) dJ0_getBytes_840e7_21 ?_
  refine va_copyi (D := (dC, dI)) (sp := 0) (dp := 0) (n := 3) hx hb (by rw [hml]; exact hl.1.symm) hown (hts (.methodLink RJ0 212 arraycopyName) (by decide +kernel)) (hts (.native arraycopyName) (by decide +kernel)) (hts (.static arraycopyName) (by decide +kernel)) (hts (.initialized "java/lang/System") (by decide +kernel)) hK hP hD hS 0 1 0 1 rfl rfl rfl rfl rfl (by decide) (by decide) (by decide) (by decide) (by decide) (fun i hi => f0_t _) (Nat.le_of_ble_eq_true rfl) (Nat.le_of_ble_eq_true rfl) dJ0_getBytes_840e7_22 (fun H locs hP hD hS => ?_)
  have hP : va_P (dC, dI) vwCl [(h0, .inl (k0, 3, .inl f0)), (h1, .inl (k1, 16, .inl (va_cpy f0 (fun _ => 0) (0 : Int32).toNatClampNeg (0 : Int32).toNatClampNeg (3 : Int32).toNatClampNeg))), (h2, .inr (0, [.ref h0, .int 0, .int 0, .int 0]))] H := hP
  have hD : va_D A [(h0, .inl (k0, 3, .inl f0)), (h1, .inl (k1, 16, .inl (va_cpy f0 (fun _ => 0) (0 : Int32).toNatClampNeg (0 : Int32).toNatClampNeg (3 : Int32).toNatClampNeg))), (h2, .inr (0, [.ref h0, .int 0, .int 0, .int 0]))] := hD
  obtain ⟨f2, hf2⟩ : ∃ f : Nat → Int32, f = va_cpy f0 (fun _ => 0) (0 : Int32).toNatClampNeg (0 : Int32).toNatClampNeg (3 : Int32).toNatClampNeg := ⟨_, rfl⟩
  have f2_t : sb_Fit f2 := by rw [hf2]; exact sb_fitC f0_t sb_fit0
  rw [← hf2] at hP hD
  refine lv_goto (tgt := 43) hx hb dJ0_getBytes_840e7_25 (by decide) ?_
  exact W.vret hx hb hr (fun t ht hW => ⟨⟨(), rfl, trivial, f2, f2_t, by rw [ht]; exact hP, va_K.moved hW.alike hK, hD⟩, hS.F ht⟩) hS.2.2 dJ0_getBytes_840e7_43
set_option maxHeartbeats 4000000 in
set_option maxRecDepth 100000 in
theorem kx_J5_putStringAt_47b60_3 (l : Launch) (dC : Nat → ClassId) (dI : Nat → Nat → Nat) (ge5 gea gv5 gva gde gic gi0 : Nat) (h0 : Nat) (h1 : Nat) (h2 : Nat) (h3 : Nat) (k0 : ClassId) (k1 : ClassId) (sz : Nat) (f0 : Nat → Int32) (f0_t : sb_Fit f0) : Met l yJ5_putStringAt_47b60 wsJ5_putStringAt_47b60 ({ frames := 2, cells := 0, slots := 0, locals := 83 }) (va_Pc [.ref h2, .int 0, .ref h0] (fun U => U.heap.size = sz ∧ va_P (dC, dI) vwCl [(h0, .inr (0, [.ref h1, .int 0, .int 0, .int 0])), (h1, .inl (k0, 3, .inl f0)), (h2, .inr (1, [.ref h3, .int 0, .int 0, .int 0])), (h3, .inl (k1, 16, .inl (fun _ => 0)))] U.heap ∧ va_K (dC, dI) vwCl [(k0, .byte), (k1, .byte)] U ∧ va_D (fun _ => True) [(h0, .inr (0, [.ref h1, .int 0, .int 0, .int 0])), (h1, .inl (k0, 3, .inl f0)), (h2, .inr (1, [.ref h3, .int 0, .int 0, .int 0])), (h3, .inl (k1, 16, .inl (fun _ => 0)))] ∧ gv ge5 gea gv5 gva gde gic gi0 (va_A [(h0, .inr (0, [.ref h1, .int 0, .int 0, .int 0])), (h1, .inl (k0, 3, .inl f0)), (h2, .inr (1, [.ref h3, .int 0, .int 0, .int 0])), (h3, .inl (k1, 16, .inl (fun _ => 0)))] sz) U U.heap)) (va_Qv (fun _ : Unit => True) (fun (_ : Unit) (t : State) => ∃ f1 : Nat → Int32, sb_Fit f1 ∧ va_P (dC, dI) vwCl [(h0, .inr (0, [.ref h1, .int 0, .int 0, .int 0])), (h1, .inl (k0, 3, .inl f0)), (h2, .inr (1, [.ref h3, .int 0, .int 0, .int 0])), (h3, .inl (k1, 16, .inl f1))] t.heap ∧ va_K (dC, dI) vwCl [(k0, .byte), (k1, .byte)] t ∧ va_D (va_A [(h0, .inr (0, [.ref h1, .int 0, .int 0, .int 0])), (h1, .inl (k0, 3, .inl f0)), (h2, .inr (1, [.ref h3, .int 0, .int 0, .int 0])), (h3, .inl (k1, 16, .inl (fun _ => 0)))] sz) [(h0, .inr (0, [.ref h1, .int 0, .int 0, .int 0])), (h1, .inl (k0, 3, .inl f0)), (h2, .inr (1, [.ref h3, .int 0, .int 0, .int 0])), (h3, .inl (k1, 16, .inl f1))]) (va_A [(h0, .inr (0, [.ref h1, .int 0, .int 0, .int 0])), (h1, .inl (k0, 3, .inl f0)), (h2, .inr (1, [.ref h3, .int 0, .int 0, .int 0])), (h3, .inl (k1, 16, .inl (fun _ => 0)))] sz)) 0 0 (va_A [(h0, .inr (0, [.ref h1, .int 0, .int 0, .int 0])), (h1, .inl (k0, 3, .inl f0)), (h2, .inr (1, [.ref h3, .int 0, .int 0, .int 0])), (h3, .inl (k1, 16, .inl (fun _ => 0)))] sz) := by
  refine Met.ofW (cc := cJ5_putStringAt_47b60) (maxL := 3) (ret := none) (by decide) rfl ?_
  intro p e s m args below meth c s₁ B hml hv
  obtain ⟨rfl, hsz, hP, hK, hD0, hG⟩ := hv
  have hx := B.exec
  have hb := B.bytes
  have hr := B.returns
  have hts := atoms_spec (ws := wsJ5_putStringAt_47b60) B.pre
  have hown : s.vm.findClass RJ5 = some m.cls := findClass_of_methodNamed B.named
  have hlocks := B.notSynchronized
  subst hsz
  have hD := hD0.self (sz := s.heap.size)
  generalize hAe : va_A [(h0, .inr (0, [.ref h1, .int 0, .int 0, .int 0])), (h1, .inl (k0, 3, .inl f0)), (h2, .inr (1, [.ref h3, .int 0, .int 0, .int 0])), (h3, .inl (k1, 16, .inl (fun _ => 0)))] s.heap.size = A at hD hG ⊢
  obtain ⟨⟨g_AO_Text, g_AO_String, g_AO_Object, g_nm_RX1_20, g_nm_RX0_17, g_nm_RX3_31, g_nm_RX2_44, g_nm_RL_121, g_nf_RL_13, g_nf_RL_47, g_ca_IO, g_ca_IA, g_ca_IS, g_ca_IntObj, g_ca_StrObj, g_de_RT, g_de_EX, g_de_TH, g_nc_IA_IO, g_nc_IS_IO, g_nc_IS_IA⟩, ⟨g_s3, g_s5, g_sa, g_x278, g_x280, g_x282, g_x284, g_x286, g_x180, g_x238, g_x250⟩, ⟨g_o5, g_c5, g_v5, g_t5, g_oa, g_ca, g_va, g_ta, g_zc, g_zd, g_td, g_zf, g_zU, g_zN, g_zh, g_zk, g_tk, g_oi, g_vi⟩⟩ := id hG
  have hA : ∀ q : Nat, s.heap.size ≤ q → A q := fun q h => by rw [← hAe]; exact Or.inr h
  have hS : va_S A s.heap s.heap [] := va_S.rf
  have hP : va_P (dC, dI) vwCl [(h0, .inr (0, [.ref h1, .int 0, .int 0, .int 0])), (h1, .inl (k0, 3, .inl f0)), (h2, .inr (1, [.ref h3, .int 0, .int 0, .int 0])), (h3, .inl (k1, 16, .inl (fun _ => 0)))] s.heap := hP
  have hl := lv_entry ([.ref h2, .int 0, .ref h0]) (n := 3) (Nat.le_of_ble_eq_true rfl)
  rw [lg_entry_eq]
  generalize (lg_sl ([.ref h2, .int 0, .ref h0]) ++ List.replicate (3 - (lg_sl ([.ref h2, .int 0, .ref h0])).length) Slot.unset).toArray = ls at hl ⊢
  have hl : lv_has ls 3 [(0, .ref h2), (1, .int 0), (2, .ref h0)] := hl
  refine lv_aload_n hx hb dJ5_putStringAt_47b60_0 rfl (lv_at hl 0 rfl) ?_
  refine lv_aload_n hx hb dJ5_putStringAt_47b60_1 rfl (lv_at hl 2 rfl) ?_
  have hPc := hP.sub (ws' := [(h0, .inr (0, [.ref h1, .int 0, .int 0, .int 0])), (h2, .inr (1, [.ref h3, .int 0, .int 0, .int 0]))]) [0, 2] rfl
  have hDc := hD.sub (ws' := [(h0, .inr (0, [.ref h1, .int 0, .int 0, .int 0])), (h2, .inr (1, [.ref h3, .int 0, .int 0, .int 0]))]) [0, 2] (by decide) rfl
  have hKc := hK.sub (tys' := []) [] rfl
  have hFc := va_free (wc := [(h0, .inr (0, [.ref h1, .int 0, .int 0, .int 0])), (h2, .inr (1, [.ref h3, .int 0, .int 0, .int 0]))]) hD hS hA [0, 2] rfl
  refine va_callv (va_runU (As := [.ref h0]) (rest := []) ⟨hx, hb, hml, hown, hts⟩ (kx_J5_inflateIfNeededFor_a7421_1 l dC dI ge5 gea gv5 gva gde gic gi0 h0 h2 h1 h3 s.heap.size) (va_cwU 1 hts gJ5_putStringAt_47b60_J5_inflateIfNeededFor_a7421_u397J4 rfl rfl rfl rfl (by decide +kernel) ⟨Nat.le_of_ble_eq_true rfl, Nat.le_of_ble_eq_true rfl⟩) ⟨fun a U g mk q => by obtain ⟨q0, q1, qP, qK, qD, qG⟩ := q; exact ⟨q0, q1, qP, va_K.moved (u := U) (U := U.calling g mk a) (Vm.Alike.refl U.vm) qK, qD, gv.fb qG⟩, va_recv hKc hPc (ci := 1) (q0 := 1) rfl rfl, fun U hU hW => ⟨rfl, by rw [hU], by rw [hU]; exact hPc, va_K.moved hW.alike hKc, hDc.weaken (fun _ _ _ _ => trivial), gv.pass hW hU hS hFc hG⟩⟩ rfl rfl hl.1 rfl (lv_room (Nat.le_of_ble_eq_true rfl)) dJ5_putStringAt_47b60_2 ⟨Nat.le_of_ble_eq_true rfl, Nat.le_of_ble_eq_true rfl⟩) hS (fun q _ h => hFc q h) hFc (fun u t H1 locs ht hvm hw hB hz1 hk1 hS => ?_)
  obtain ⟨hP1, hK1, hD1⟩ := hB
  rw [ht] at hP1
  have hK1 := va_K.moved hvm.symm hK1
  obtain ⟨hP, hD⟩ := va_join (wr := [(h1, .inl (k0, 3, .inl f0)), (h3, .inl (k1, 16, .inl (fun _ => 0)))]) (w1 := [(h0, .inr (0, [.ref h1, .int 0, .int 0, .int 0])), (h2, .inr (1, [.ref h3, .int 0, .int 0, .int 0]))]) hP hD [0, 2] [1, 3] rfl rfl (by decide) (by decide) hk1 hFc hP1 hD1
  generalize H1 = H at hP hS ⊢
  have hP : va_P (dC, dI) vwCl [(h1, .inl (k0, 3, .inl f0)), (h3, .inl (k1, 16, .inl (fun _ => 0))), (h0, .inr (0, [.ref h1, .int 0, .int 0, .int 0])), (h2, .inr (1, [.ref h3, .int 0, .int 0, .int 0]))] H := hP
  have hD : va_D A [(h1, .inl (k0, 3, .inl f0)), (h3, .inl (k1, 16, .inl (fun _ => 0))), (h0, .inr (0, [.ref h1, .int 0, .int 0, .int 0])), (h2, .inr (1, [.ref h3, .int 0, .int 0, .int 0]))] := hD
  refine lv_aload_n hx hb dJ5_putStringAt_47b60_5 rfl (lv_at hl 2 rfl) ?_
  refine lv_aload_n hx hb dJ5_putStringAt_47b60_6 rfl (lv_at hl 0 rfl) ?_
  refine va_get (D := (dC, dI)) (ci := 1) (v := .ref h3) (C := RJ4) (T := TJ4) (N := 4) hx hb hts (by decide +kernel) hown hK hP 3 rfl rfl 0 (by decide) (hts (.fieldLink RJ5 15 "java/lang/AbstractStringBuilder" "value" "[B") (by decide +kernel)) (fun _ h9 => h9) rfl dJ5_putStringAt_47b60_7 ?_
  refine lv_iload_n hx hb dJ5_putStringAt_47b60_10 rfl (lv_at hl 1 rfl) ?_
  refine lv_aload_n hx hb dJ5_putStringAt_47b60_11 rfl (lv_at hl 0 rfl) ?_
  refine va_get (D := (dC, dI)) (ci := 1) (v := .int 0) (C := RJ4) (T := TJ4) (N := 4) hx hb hts (by decide +kernel) hown hK hP 3 rfl rfl 1 (by decide) (hts (.fieldLink RJ5 22 "java/lang/AbstractStringBuilder" "coder" "B") (by decide +kernel)) (fun _ h9 => h9) rfl dJ5_putStringAt_47b60_12 ?_
  have hPc := hP.sub (ws' := [(h1, .inl (k0, 3, .inl f0)), (h3, .inl (k1, 16, .inl (fun _ => 0))), (h0, .inr (0, [.ref h1, .int 0, .int 0, .int 0]))]) [0, 1, 2] rfl
  have hDc := hD.sub (ws' := [(h1, .inl (k0, 3, .inl f0)), (h3, .inl (k1, 16, .inl (fun _ => 0))), (h0, .inr (0, [.ref h1, .int 0, .int 0, .int 0]))]) [0, 1, 2] (by decide) rfl
  have hKc := hK.sub (tys' := [(k0, .byte), (k1, .byte)]) [0, 1] rfl
  have hFc := va_free (wc := [(h1, .inl (k0, 3, .inl f0)), (h3, .inl (k1, 16, .inl (fun _ => 0))), (h0, .inr (0, [.ref h1, .int 0, .int 0, .int 0]))]) hD hS hA [0, 1, 2] rfl
  refine va_callv (va_runV (As := [.ref h3, .int 0, .int 0]) (rest := []) ⟨hx, hb, hml, hown, hts⟩ (kx_J0_getBytes_840e7_3 l dC dI ge5 gea gv5 gva gde gic gi0 h1 h3 h0 k0 k1 H.size f0 f0_t) (cwV 3 hts gJ5_putStringAt_47b60_J0_getBytes_840e7 rfl rfl rfl (by decide +kernel) ⟨Nat.le_of_ble_eq_true rfl, Nat.le_of_ble_eq_true rfl⟩) ⟨fun a U g mk q => by obtain ⟨q0, q1, qP, qK, qD, qG⟩ := q; exact ⟨q0, q1, qP, va_K.moved (u := U) (U := U.calling g mk a) (Vm.Alike.refl U.vm) qK, qD, gv.fb qG⟩, va_recv hKc hPc (ci := 0) (q0 := 2) rfl rfl, fun U hU hW => ⟨rfl, by rw [hU], by rw [hU]; exact hPc, va_K.moved hW.alike hKc, hDc.weaken (fun _ _ _ _ => trivial), gv.pass hW hU hS hFc hG⟩⟩ rfl rfl hl.1 rfl (lv_room (Nat.le_of_ble_eq_true rfl)) dJ5_putStringAt_47b60_15 ⟨Nat.le_of_ble_eq_true rfl, Nat.le_of_ble_eq_true rfl⟩) hS (fun q _ h => hFc q h) hFc (fun u t H1 locs ht hvm hw hB hz1 hk1 hS => ?_)
  obtain ⟨f1, f1_t, hP1, hK1, hD1⟩ := hB
  rw [ht] at hP1
  have hK1 := va_K.moved hvm.symm hK1
  obtain ⟨hP, hD⟩ := va_join (wr := [(h2, .inr (1, [.ref h3, .int 0, .int 0, .int 0]))]) (w1 := [(h1, .inl (k0, 3, .inl f0)), (h3, .inl (k1, 16, .inl f1)), (h0, .inr (0, [.ref h1, .int 0, .int 0, .int 0]))]) hP hD [0, 1, 2] [3] rfl rfl (by decide) (by decide) hk1 hFc hP1 hD1
  generalize H1 = H at hP hS ⊢
  have hP : va_P (dC, dI) vwCl [(h2, .inr (1, [.ref h3, .int 0, .int 0, .int 0])), (h1, .inl (k0, 3, .inl f0)), (h3, .inl (k1, 16, .inl f1)), (h0, .inr (0, [.ref h1, .int 0, .int 0, .int 0]))] H := hP
  have hD : va_D A [(h2, .inr (1, [.ref h3, .int 0, .int 0, .int 0])), (h1, .inl (k0, 3, .inl f0)), (h3, .inl (k1, 16, .inl f1)), (h0, .inr (0, [.ref h1, .int 0, .int 0, .int 0]))] := hD
  have hP := hP.sub (ws' := [(h0, .inr (0, [.ref h1, .int 0, .int 0, .int 0])), (h1, .inl (k0, 3, .inl f0)), (h2, .inr (1, [.ref h3, .int 0, .int 0, .int 0])), (h3, .inl (k1, 16, .inl f1))]) [3, 1, 0, 2] rfl
  have hD := hD.sub (ws' := [(h0, .inr (0, [.ref h1, .int 0, .int 0, .int 0])), (h1, .inl (k0, 3, .inl f0)), (h2, .inr (1, [.ref h3, .int 0, .int 0, .int 0])), (h3, .inl (k1, 16, .inl f1))]) [3, 1, 0, 2] (by decide) rfl
  exact W.vret hx hb hr (fun t ht hW => ⟨⟨(), rfl, trivial, f1, f1_t, by rw [ht]; exact hP, va_K.moved hW.alike hK, hD⟩, hS.F ht⟩) hS.2.2 dJ5_putStringAt_47b60_18
set_option maxHeartbeats 4000000 in
set_option maxRecDepth 100000 in
theorem kx_J5_append_cf1ce_3 (l : Launch) (dC : Nat → ClassId) (dI : Nat → Nat → Nat) (ge5 gea gv5 gva gde gic gi0 : Nat) (h0 : Nat) (h1 : Nat) (h2 : Nat) (h3 : Nat) (k0 : ClassId) (k1 : ClassId) (sz : Nat) (f0 : Nat → Int32) (f0_t : sb_Fit f0) : Met l yJ5_append_cf1ce wsJ5_append_cf1ce ({ frames := 3, cells := 0, slots := 0, locals := 105 }) (va_Pc [.ref h2, .ref h0] (fun U => U.heap.size = sz ∧ va_P (dC, dI) vwCl [(h0, .inr (0, [.ref h1, .int 0, .int 0, .int 0])), (h1, .inl (k0, 3, .inl f0)), (h2, .inr (1, [.ref h3, .int 0, .int 0, .int 0])), (h3, .inl (k1, 16, .inl (fun _ => 0)))] U.heap ∧ va_K (dC, dI) vwCl [(k0, .byte), (k1, .byte)] U ∧ va_D (fun _ => True) [(h0, .inr (0, [.ref h1, .int 0, .int 0, .int 0])), (h1, .inl (k0, 3, .inl f0)), (h2, .inr (1, [.ref h3, .int 0, .int 0, .int 0])), (h3, .inl (k1, 16, .inl (fun _ => 0)))] ∧ gv ge5 gea gv5 gva gde gic gi0 (va_A [(h0, .inr (0, [.ref h1, .int 0, .int 0, .int 0])), (h1, .inl (k0, 3, .inl f0)), (h2, .inr (1, [.ref h3, .int 0, .int 0, .int 0])), (h3, .inl (k1, 16, .inl (fun _ => 0)))] sz) U U.heap)) (va_Qr (fun _ : Unit => True) (fun (_ : Unit) (ra : Nat) (t : State) => ∃ f2 : Nat → Int32, sb_Fit f2 ∧ ra = h2 ∧ va_P (dC, dI) vwCl [(h0, .inr (0, [.ref h1, .int 0, .int 0, .int 0])), (h1, .inl (k0, 3, .inl f0)), (h2, .inr (1, [.ref h3, .int 0, .int 0, .int 3])), (h3, .inl (k1, 16, .inl f2))] t.heap ∧ va_K (dC, dI) vwCl [(k0, .byte), (k1, .byte)] t ∧ va_D (va_A [(h0, .inr (0, [.ref h1, .int 0, .int 0, .int 0])), (h1, .inl (k0, 3, .inl f0)), (h2, .inr (1, [.ref h3, .int 0, .int 0, .int 0])), (h3, .inl (k1, 16, .inl (fun _ => 0)))] sz) [(h0, .inr (0, [.ref h1, .int 0, .int 0, .int 0])), (h1, .inl (k0, 3, .inl f0)), (h2, .inr (1, [.ref h3, .int 0, .int 0, .int 3])), (h3, .inl (k1, 16, .inl f2))]) (va_A [(h0, .inr (0, [.ref h1, .int 0, .int 0, .int 0])), (h1, .inl (k0, 3, .inl f0)), (h2, .inr (1, [.ref h3, .int 0, .int 0, .int 0])), (h3, .inl (k1, 16, .inl (fun _ => 0)))] sz)) 0 0 (va_A [(h0, .inr (0, [.ref h1, .int 0, .int 0, .int 0])), (h1, .inl (k0, 3, .inl f0)), (h2, .inr (1, [.ref h3, .int 0, .int 0, .int 0])), (h3, .inl (k1, 16, .inl (fun _ => 0)))] sz) := by
  refine Met.ofW (cc := cJ5_append_cf1ce) (maxL := 3) (ret := (some (.object "java/lang/AbstractStringBuilder"))) (by decide) rfl ?_
  intro p e s m args below meth c s₁ B hml hv
  obtain ⟨rfl, hsz, hP, hK, hD0, hG⟩ := hv
  have hx := B.exec
  have hb := B.bytes
  have hr := B.returns
  have hts := atoms_spec (ws := wsJ5_append_cf1ce) B.pre
  have hown : s.vm.findClass RJ5 = some m.cls := findClass_of_methodNamed B.named
  have hlocks := B.notSynchronized
  subst hsz
  have hD := hD0.self (sz := s.heap.size)
  generalize hAe : va_A [(h0, .inr (0, [.ref h1, .int 0, .int 0, .int 0])), (h1, .inl (k0, 3, .inl f0)), (h2, .inr (1, [.ref h3, .int 0, .int 0, .int 0])), (h3, .inl (k1, 16, .inl (fun _ => 0)))] s.heap.size = A at hD hG ⊢
  obtain ⟨⟨g_AO_Text, g_AO_String, g_AO_Object, g_nm_RX1_20, g_nm_RX0_17, g_nm_RX3_31, g_nm_RX2_44, g_nm_RL_121, g_nf_RL_13, g_nf_RL_47, g_ca_IO, g_ca_IA, g_ca_IS, g_ca_IntObj, g_ca_StrObj, g_de_RT, g_de_EX, g_de_TH, g_nc_IA_IO, g_nc_IS_IO, g_nc_IS_IA⟩, ⟨g_s3, g_s5, g_sa, g_x278, g_x280, g_x282, g_x284, g_x286, g_x180, g_x238, g_x250⟩, ⟨g_o5, g_c5, g_v5, g_t5, g_oa, g_ca, g_va, g_ta, g_zc, g_zd, g_td, g_zf, g_zU, g_zN, g_zh, g_zk, g_tk, g_oi, g_vi⟩⟩ := id hG
  have hA : ∀ q : Nat, s.heap.size ≤ q → A q := fun q h => by rw [← hAe]; exact Or.inr h
  have hS : va_S A s.heap s.heap [] := va_S.rf
  have hP : va_P (dC, dI) vwCl [(h0, .inr (0, [.ref h1, .int 0, .int 0, .int 0])), (h1, .inl (k0, 3, .inl f0)), (h2, .inr (1, [.ref h3, .int 0, .int 0, .int 0])), (h3, .inl (k1, 16, .inl (fun _ => 0)))] s.heap := hP
  have hl := lv_entry ([.ref h2, .ref h0]) (n := 3) (Nat.le_of_ble_eq_true rfl)
  rw [lg_entry_eq]
  generalize (lg_sl ([.ref h2, .ref h0]) ++ List.replicate (3 - (lg_sl ([.ref h2, .ref h0])).length) Slot.unset).toArray = ls at hl ⊢
  have hl : lv_has ls 3 [(0, .ref h2), (1, .ref h0)] := hl
  refine lv_aload_n hx hb dJ5_append_cf1ce_0 rfl (lv_at hl 1 rfl) ?_
  refine lv_ifnonnull (tgt := 9) hx hb dJ5_append_cf1ce_1 (by decide) ?_
  refine lv_aload_n hx hb dJ5_append_cf1ce_9 rfl (lv_at hl 1 rfl) ?_
  have hPc := hP.sub (ws' := [(h0, .inr (0, [.ref h1, .int 0, .int 0, .int 0])), (h1, .inl (k0, 3, .inl f0))]) [0, 1] rfl
  have hDc := hD.sub (ws' := [(h0, .inr (0, [.ref h1, .int 0, .int 0, .int 0])), (h1, .inl (k0, 3, .inl f0))]) [0, 1] (by decide) rfl
  have hKc := hK.sub (tys' := [(k0, .byte)]) [0] rfl
  have hFc := va_free (wc := [(h0, .inr (0, [.ref h1, .int 0, .int 0, .int 0])), (h1, .inl (k0, 3, .inl f0))]) hD hS hA [0, 1] rfl
  refine va_calli (va_runV (As := []) (rest := []) ⟨hx, hb, hml, hown, hts⟩ (kx_J0_length_8abf5_4 l dC dI ge5 gea gv5 gva gde gic gi0 h0 h1 k0 s.heap.size f0 f0_t) (cwV 0 hts gJ5_append_cf1ce_J0_length_8abf5 rfl rfl rfl (by decide +kernel) ⟨Nat.le_of_ble_eq_true rfl, Nat.le_of_ble_eq_true rfl⟩) ⟨fun a U g mk q => by obtain ⟨q0, q1, qP, qK, qD, qG⟩ := q; exact ⟨q0, q1, qP, va_K.moved (u := U) (U := U.calling g mk a) (Vm.Alike.refl U.vm) qK, qD, gv.fb qG⟩, va_recv hKc hPc (ci := 0) (q0 := 0) rfl rfl, fun U hU hW => ⟨rfl, by rw [hU], by rw [hU]; exact hPc, va_K.moved hW.alike hKc, hDc.weaken (fun _ _ _ _ => trivial), gv.pass hW hU hS hFc hG⟩⟩ rfl rfl hl.1 rfl (lv_room (Nat.le_of_ble_eq_true rfl)) dJ5_append_cf1ce_10 ⟨Nat.le_of_ble_eq_true rfl, Nat.le_of_ble_eq_true rfl⟩) hS (fun q _ h => hFc q h) hFc (fun r9 u t H1 locs ht hvm hw hB hz1 hk1 hS => ?_)
  obtain rfl := hw
  obtain ⟨hP1, hK1, hD1⟩ := hB
  rw [ht] at hP1
  have hK1 := va_K.moved hvm.symm hK1
  obtain ⟨hP, hD⟩ := va_join (wr := [(h2, .inr (1, [.ref h3, .int 0, .int 0, .int 0])), (h3, .inl (k1, 16, .inl (fun _ => 0)))]) (w1 := [(h0, .inr (0, [.ref h1, .int 0, .int 0, .int 0])), (h1, .inl (k0, 3, .inl f0))]) hP hD [0, 1] [2, 3] rfl rfl (by decide) (by decide) hk1 hFc hP1 hD1
  generalize H1 = H at hP hS ⊢
  have hP : va_P (dC, dI) vwCl [(h2, .inr (1, [.ref h3, .int 0, .int 0, .int 0])), (h3, .inl (k1, 16, .inl (fun _ => 0))), (h0, .inr (0, [.ref h1, .int 0, .int 0, .int 0])), (h1, .inl (k0, 3, .inl f0))] H := hP
  have hD : va_D A [(h2, .inr (1, [.ref h3, .int 0, .int 0, .int 0])), (h3, .inl (k1, 16, .inl (fun _ => 0))), (h0, .inr (0, [.ref h1, .int 0, .int 0, .int 0])), (h1, .inl (k0, 3, .inl f0))] := hD
  refine lv_istore_n (lv' := [(2, .int 3), (0, .ref h2), (1, .ref h0)]) hx hb dJ5_append_cf1ce_13 rfl hl (by decide) rfl (fun ls hl => ?_)
  refine lv_aload_n hx hb dJ5_append_cf1ce_14 rfl (lv_at hl 1 rfl) ?_
  refine lv_aload_n hx hb dJ5_append_cf1ce_15 rfl (lv_at hl 1 rfl) ?_
  refine va_get (D := (dC, dI)) (ci := 1) (v := .int 0) (C := RJ4) (T := TJ4) (N := 4) hx hb hts (by decide +kernel) hown hK hP 0 rfl rfl 3 (by decide) (hts (.fieldLink RJ5 79 "java/lang/AbstractStringBuilder" "count" "I") (by decide +kernel)) (fun _ h9 => h9) rfl dJ5_append_cf1ce_16 ?_
  refine lv_iload_n hx hb dJ5_append_cf1ce_19 rfl (lv_at hl 0 rfl) ?_
  refine lv_iadd hx hb dJ5_append_cf1ce_20 ?_
  refine lv_topi (fun y1 ey1 => ?_)
  obtain rfl : y1 = 3 := ey1.trans (by decide)
  have hPc := hP.sub (ws' := [(h2, .inr (1, [.ref h3, .int 0, .int 0, .int 0])), (h3, .inl (k1, 16, .inl (fun _ => 0)))]) [0, 1] rfl
  have hDc := hD.sub (ws' := [(h2, .inr (1, [.ref h3, .int 0, .int 0, .int 0])), (h3, .inl (k1, 16, .inl (fun _ => 0)))]) [0, 1] (by decide) rfl
  have hKc := hK.sub (tys' := [(k1, .byte)]) [1] rfl
  have hFc := va_free (wc := [(h2, .inr (1, [.ref h3, .int 0, .int 0, .int 0])), (h3, .inl (k1, 16, .inl (fun _ => 0)))]) hD hS hA [0, 1] rfl
  refine va_callv (va_runU (As := [.int 3]) (rest := []) ⟨hx, hb, hml, hown, hts⟩ (kx_J5_ensureCapacityInternal_d00df_3 l dC dI h2 h3 k1 H.size) (va_cwU 1 hts gJ5_append_cf1ce_J5_ensureCapacityInternal_d00df_u100J4 rfl rfl rfl rfl (by decide +kernel) ⟨Nat.le_of_ble_eq_true rfl, Nat.le_of_ble_eq_true rfl⟩) ⟨fun a U g mk q => by obtain ⟨q0, q1, qP, qK, qD⟩ := q; exact ⟨q0, q1, qP, va_K.moved (u := U) (U := U.calling g mk a) (Vm.Alike.refl U.vm) qK, qD⟩, va_recv hKc hPc (ci := 1) (q0 := 0) rfl rfl, fun U hU hW => ⟨rfl, by rw [hU], by rw [hU]; exact hPc, va_K.moved hW.alike hKc, hDc.weaken (fun _ _ _ _ => trivial)⟩⟩ rfl rfl hl.1 rfl (lv_room (Nat.le_of_ble_eq_true rfl)) dJ5_append_cf1ce_21 ⟨Nat.le_of_ble_eq_true rfl, Nat.le_of_ble_eq_true rfl⟩) hS (fun q _ h => hFc q h) hFc (fun u t H1 locs ht hvm hw hB hz1 hk1 hS => ?_)
  obtain ⟨hP1, hK1, hD1⟩ := hB
  rw [ht] at hP1
  have hK1 := va_K.moved hvm.symm hK1
  obtain ⟨hP, hD⟩ := va_join (wr := [(h0, .inr (0, [.ref h1, .int 0, .int 0, .int 0])), (h1, .inl (k0, 3, .inl f0))]) (w1 := [(h2, .inr (1, [.ref h3, .int 0, .int 0, .int 0])), (h3, .inl (k1, 16, .inl (fun _ => 0)))]) hP hD [0, 1] [2, 3] rfl rfl (by decide) (by decide) hk1 hFc hP1 hD1
  generalize H1 = H at hP hS ⊢
  have hP : va_P (dC, dI) vwCl [(h0, .inr (0, [.ref h1, .int 0, .int 0, .int 0])), (h1, .inl (k0, 3, .inl f0)), (h2, .inr (1, [.ref h3, .int 0, .int 0, .int 0])), (h3, .inl (k1, 16, .inl (fun _ => 0)))] H := hP
  have hD : va_D A [(h0, .inr (0, [.ref h1, .int 0, .int 0, .int 0])), (h1, .inl (k0, 3, .inl f0)), (h2, .inr (1, [.ref h3, .int 0, .int 0, .int 0])), (h3, .inl (k1, 16, .inl (fun _ => 0)))] := hD
  refine lv_aload_n hx hb dJ5_append_cf1ce_24 rfl (lv_at hl 1 rfl) ?_
  refine lv_aload_n hx hb dJ5_append_cf1ce_25 rfl (lv_at hl 1 rfl) ?_
  refine va_get (D := (dC, dI)) (ci := 1) (v := .int 0) (C := RJ4) (T := TJ4) (N := 4) hx hb hts (by decide +kernel) hown hK hP 2 rfl rfl 3 (by decide) (hts (.fieldLink RJ5 79 "java/lang/AbstractStringBuilder" "count" "I") (by decide +kernel)) (fun _ h9 => h9) rfl dJ5_append_cf1ce_26 ?_
  refine lv_aload_n hx hb dJ5_append_cf1ce_29 rfl (lv_at hl 2 rfl) ?_
  have hPc := hP.sub (ws' := [(h0, .inr (0, [.ref h1, .int 0, .int 0, .int 0])), (h1, .inl (k0, 3, .inl f0)), (h2, .inr (1, [.ref h3, .int 0, .int 0, .int 0])), (h3, .inl (k1, 16, .inl (fun _ => 0)))]) [0, 1, 2, 3] rfl
  have hDc := hD.sub (ws' := [(h0, .inr (0, [.ref h1, .int 0, .int 0, .int 0])), (h1, .inl (k0, 3, .inl f0)), (h2, .inr (1, [.ref h3, .int 0, .int 0, .int 0])), (h3, .inl (k1, 16, .inl (fun _ => 0)))]) [0, 1, 2, 3] (by decide) rfl
  have hKc := hK.sub (tys' := [(k0, .byte), (k1, .byte)]) [0, 1] rfl
  have hFc := va_free (wc := [(h0, .inr (0, [.ref h1, .int 0, .int 0, .int 0])), (h1, .inl (k0, 3, .inl f0)), (h2, .inr (1, [.ref h3, .int 0, .int 0, .int 0])), (h3, .inl (k1, 16, .inl (fun _ => 0)))]) hD hS hA [0, 1, 2, 3] rfl
  refine va_callv (va_runU (As := [.int 0, .ref h0]) (rest := []) ⟨hx, hb, hml, hown, hts⟩ (kx_J5_putStringAt_47b60_3 l dC dI ge5 gea gv5 gva gde gic gi0 h0 h1 h2 h3 k0 k1 H.size f0 f0_t) (va_cwU 2 hts gJ5_append_cf1ce_J5_putStringAt_47b60_u208J4 rfl rfl rfl rfl (by decide +kernel) ⟨Nat.le_of_ble_eq_true rfl, Nat.le_of_ble_eq_true rfl⟩) ⟨fun a U g mk q => by obtain ⟨q0, q1, qP, qK, qD, qG⟩ := q; exact ⟨q0, q1, qP, va_K.moved (u := U) (U := U.calling g mk a) (Vm.Alike.refl U.vm) qK, qD, gv.fb qG⟩, va_recv hKc hPc (ci := 1) (q0 := 2) rfl rfl, fun U hU hW => ⟨rfl, by rw [hU], by rw [hU]; exact hPc, va_K.moved hW.alike hKc, hDc.weaken (fun _ _ _ _ => trivial), gv.pass hW hU hS hFc hG⟩⟩ rfl rfl hl.1 rfl (lv_room (Nat.le_of_ble_eq_true rfl)) dJ5_append_cf1ce_30 ⟨Nat.le_of_ble_eq_true rfl, Nat.le_of_ble_eq_true rfl⟩) hS (fun q _ h => hFc q h) hFc (fun u t H1 locs ht hvm hw hB hz1 hk1 hS => ?_)
  obtain ⟨f2, f2_t, hP1, hK1, hD1⟩ := hB
  rw [ht] at hP1
  have hK1 := va_K.moved hvm.symm hK1
  obtain ⟨hP, hD⟩ := va_join (wr := []) (w1 := [(h0, .inr (0, [.ref h1, .int 0, .int 0, .int 0])), (h1, .inl (k0, 3, .inl f0)), (h2, .inr (1, [.ref h3, .int 0, .int 0, .int 0])), (h3, .inl (k1, 16, .inl f2))]) hP hD [0, 1, 2, 3] [] rfl rfl (by decide) (by decide) hk1 hFc hP1 hD1
  generalize H1 = H at hP hS ⊢
  have hP : va_P (dC, dI) vwCl [(h0, .inr (0, [.ref h1, .int 0, .int 0, .int 0])), (h1, .inl (k0, 3, .inl f0)), (h2, .inr (1, [.ref h3, .int 0, .int 0, .int 0])), (h3, .inl (k1, 16, .inl f2))] H := hP
  have hD : va_D A [(h0, .inr (0, [.ref h1, .int 0, .int 0, .int 0])), (h1, .inl (k0, 3, .inl f0)), (h2, .inr (1, [.ref h3, .int 0, .int 0, .int 0])), (h3, .inl (k1, 16, .inl f2))] := hD
  refine lv_aload_n hx hb dJ5_append_cf1ce_33 rfl (lv_at hl 1 rfl) ?_
  refine lv_dup hx hb dJ5_append_cf1ce_34 rfl ?_
  refine va_get (D := (dC, dI)) (ci := 1) (v := .int 0) (C := RJ4) (T := TJ4) (N := 4) hx hb hts (by decide +kernel) hown hK hP 2 rfl rfl 3 (by decide) (hts (.fieldLink RJ5 79 "java/lang/AbstractStringBuilder" "count" "I") (by decide +kernel)) (fun _ h9 => h9) rfl dJ5_append_cf1ce_35 ?_
  refine lv_iload_n hx hb dJ5_append_cf1ce_38 rfl (lv_at hl 0 rfl) ?_
  refine lv_iadd hx hb dJ5_append_cf1ce_39 ?_
  refine lv_topi (fun y3 ey3 => ?_)
  obtain rfl : y3 = 3 := ey3.trans (by decide)
  refine va_put (D := (dC, dI)) (ci := 1) (v := .int 3) (ty := .int) (C := RJ4) (T := TJ4) (N := 4) hx hb hts (by decide +kernel) tyJ4 tyJ4_ok nmJ4 hown hK hP hD hS 2 rfl rfl 3 (by decide) (hts (.fieldLink RJ5 79 "java/lang/AbstractStringBuilder" "count" "I") (by decide +kernel)) (fun _ h9 => h9) rfl (by decide +kernel) rfl rfl (Nat.le_of_ble_eq_true rfl) dJ5_append_cf1ce_40 (fun H locs hP hD hS => ?_)
  have hP : va_P (dC, dI) vwCl [(h0, .inr (0, [.ref h1, .int 0, .int 0, .int 0])), (h1, .inl (k0, 3, .inl f0)), (h2, .inr (1, [.ref h3, .int 0, .int 0, .int 3])), (h3, .inl (k1, 16, .inl f2))] H := hP
  have hD : va_D A [(h0, .inr (0, [.ref h1, .int 0, .int 0, .int 0])), (h1, .inl (k0, 3, .inl f0)), (h2, .inr (1, [.ref h3, .int 0, .int 0, .int 3])), (h3, .inl (k1, 16, .inl f2))] := hD
  refine lv_aload_n hx hb dJ5_append_cf1ce_43 rfl (lv_at hl 1 rfl) ?_
  exact W.aret (v := .ref h2) hx hb hr (Or.inl ⟨_, rfl⟩) (Or.inr ⟨_, rfl⟩) (fun t ht hW => ⟨⟨(), h2, rfl, trivial, f2, f2_t, rfl, by rw [ht]; exact hP, va_K.moved hW.alike hK, hD⟩, hS.F ht⟩) hS.2.2 dJ5_append_cf1ce_44
set_option maxHeartbeats 4000000 in
set_option maxRecDepth 100000 in
theorem kx_J4_append_15ec4_3 (l : Launch) (dC : Nat → ClassId) (dI : Nat → Nat → Nat) (ge5 gea gv5 gva gde gic gi0 : Nat) (h0 : Nat) (h1 : Nat) (h2 : Nat) (h3 : Nat) (k0 : ClassId) (k1 : ClassId) (sz : Nat) (f0 : Nat → Int32) (f0_t : sb_Fit f0) : Met l yJ4_append_15ec4 wsJ4_append_15ec4 ({ frames := 4, cells := 0, slots := 0, locals := 127 }) (va_Pc [.ref h2, .ref h0] (fun U => U.heap.size = sz ∧ va_P (dC, dI) vwCl [(h0, .inr (0, [.ref h1, .int 0, .int 0, .int 0])), (h1, .inl (k0, 3, .inl f0)), (h2, .inr (1, [.ref h3, .int 0, .int 0, .int 0])), (h3, .inl (k1, 16, .inl (fun _ => 0)))] U.heap ∧ va_K (dC, dI) vwCl [(k0, .byte), (k1, .byte)] U ∧ va_D (fun _ => True) [(h0, .inr (0, [.ref h1, .int 0, .int 0, .int 0])), (h1, .inl (k0, 3, .inl f0)), (h2, .inr (1, [.ref h3, .int 0, .int 0, .int 0])), (h3, .inl (k1, 16, .inl (fun _ => 0)))] ∧ gv ge5 gea gv5 gva gde gic gi0 (va_A [(h0, .inr (0, [.ref h1, .int 0, .int 0, .int 0])), (h1, .inl (k0, 3, .inl f0)), (h2, .inr (1, [.ref h3, .int 0, .int 0, .int 0])), (h3, .inl (k1, 16, .inl (fun _ => 0)))] sz) U U.heap)) (va_Qr (fun _ : Unit => True) (fun (_ : Unit) (ra : Nat) (t : State) => ∃ f1 : Nat → Int32, sb_Fit f1 ∧ ra = h2 ∧ va_P (dC, dI) vwCl [(h0, .inr (0, [.ref h1, .int 0, .int 0, .int 0])), (h1, .inl (k0, 3, .inl f0)), (h2, .inr (1, [.ref h3, .int 0, .int 0, .int 3])), (h3, .inl (k1, 16, .inl f1))] t.heap ∧ va_K (dC, dI) vwCl [(k0, .byte), (k1, .byte)] t ∧ va_D (va_A [(h0, .inr (0, [.ref h1, .int 0, .int 0, .int 0])), (h1, .inl (k0, 3, .inl f0)), (h2, .inr (1, [.ref h3, .int 0, .int 0, .int 0])), (h3, .inl (k1, 16, .inl (fun _ => 0)))] sz) [(h0, .inr (0, [.ref h1, .int 0, .int 0, .int 0])), (h1, .inl (k0, 3, .inl f0)), (h2, .inr (1, [.ref h3, .int 0, .int 0, .int 3])), (h3, .inl (k1, 16, .inl f1))]) (va_A [(h0, .inr (0, [.ref h1, .int 0, .int 0, .int 0])), (h1, .inl (k0, 3, .inl f0)), (h2, .inr (1, [.ref h3, .int 0, .int 0, .int 0])), (h3, .inl (k1, 16, .inl (fun _ => 0)))] sz)) 0 0 (va_A [(h0, .inr (0, [.ref h1, .int 0, .int 0, .int 0])), (h1, .inl (k0, 3, .inl f0)), (h2, .inr (1, [.ref h3, .int 0, .int 0, .int 0])), (h3, .inl (k1, 16, .inl (fun _ => 0)))] sz) := by
  refine Met.ofW (cc := cJ4_append_15ec4) (maxL := 2) (ret := (some (.object "java/lang/StringBuilder"))) (by decide) rfl ?_
  intro p e s m args below meth c s₁ B hml hv
  obtain ⟨rfl, hsz, hP, hK, hD0, hG⟩ := hv
  have hx := B.exec
  have hb := B.bytes
  have hr := B.returns
  have hts := atoms_spec (ws := wsJ4_append_15ec4) B.pre
  have hown : s.vm.findClass RJ4 = some m.cls := findClass_of_methodNamed B.named
  have hlocks := B.notSynchronized
  subst hsz
  have hD := hD0.self (sz := s.heap.size)
  generalize hAe : va_A [(h0, .inr (0, [.ref h1, .int 0, .int 0, .int 0])), (h1, .inl (k0, 3, .inl f0)), (h2, .inr (1, [.ref h3, .int 0, .int 0, .int 0])), (h3, .inl (k1, 16, .inl (fun _ => 0)))] s.heap.size = A at hD hG ⊢
  obtain ⟨⟨g_AO_Text, g_AO_String, g_AO_Object, g_nm_RX1_20, g_nm_RX0_17, g_nm_RX3_31, g_nm_RX2_44, g_nm_RL_121, g_nf_RL_13, g_nf_RL_47, g_ca_IO, g_ca_IA, g_ca_IS, g_ca_IntObj, g_ca_StrObj, g_de_RT, g_de_EX, g_de_TH, g_nc_IA_IO, g_nc_IS_IO, g_nc_IS_IA⟩, ⟨g_s3, g_s5, g_sa, g_x278, g_x280, g_x282, g_x284, g_x286, g_x180, g_x238, g_x250⟩, ⟨g_o5, g_c5, g_v5, g_t5, g_oa, g_ca, g_va, g_ta, g_zc, g_zd, g_td, g_zf, g_zU, g_zN, g_zh, g_zk, g_tk, g_oi, g_vi⟩⟩ := id hG
  have hA : ∀ q : Nat, s.heap.size ≤ q → A q := fun q h => by rw [← hAe]; exact Or.inr h
  have hS : va_S A s.heap s.heap [] := va_S.rf
  have hP : va_P (dC, dI) vwCl [(h0, .inr (0, [.ref h1, .int 0, .int 0, .int 0])), (h1, .inl (k0, 3, .inl f0)), (h2, .inr (1, [.ref h3, .int 0, .int 0, .int 0])), (h3, .inl (k1, 16, .inl (fun _ => 0)))] s.heap := hP
  have hl := lv_entry ([.ref h2, .ref h0]) (n := 2) (Nat.le_of_ble_eq_true rfl)
  rw [lg_entry_eq]
  generalize (lg_sl ([.ref h2, .ref h0]) ++ List.replicate (2 - (lg_sl ([.ref h2, .ref h0])).length) Slot.unset).toArray = ls at hl ⊢
  have hl : lv_has ls 2 [(0, .ref h2), (1, .ref h0)] := hl
  refine lv_aload_n hx hb dJ4_append_15ec4_0 rfl (lv_at hl 0 rfl) ?_
  refine lv_aload_n hx hb dJ4_append_15ec4_1 rfl (lv_at hl 1 rfl) ?_
  have hPc := hP.sub (ws' := [(h0, .inr (0, [.ref h1, .int 0, .int 0, .int 0])), (h1, .inl (k0, 3, .inl f0)), (h2, .inr (1, [.ref h3, .int 0, .int 0, .int 0])), (h3, .inl (k1, 16, .inl (fun _ => 0)))]) [0, 1, 2, 3] rfl
  have hDc := hD.sub (ws' := [(h0, .inr (0, [.ref h1, .int 0, .int 0, .int 0])), (h1, .inl (k0, 3, .inl f0)), (h2, .inr (1, [.ref h3, .int 0, .int 0, .int 0])), (h3, .inl (k1, 16, .inl (fun _ => 0)))]) [0, 1, 2, 3] (by decide) rfl
  have hKc := hK.sub (tys' := [(k0, .byte), (k1, .byte)]) [0, 1] rfl
  have hFc := va_free (wc := [(h0, .inr (0, [.ref h1, .int 0, .int 0, .int 0])), (h1, .inl (k0, 3, .inl f0)), (h2, .inr (1, [.ref h3, .int 0, .int 0, .int 0])), (h3, .inl (k1, 16, .inl (fun _ => 0)))]) hD hS hA [0, 1, 2, 3] rfl
  refine va_callr (va_runSU (hK.1 1 _ rfl).2 (As := [.ref h0]) (rest := []) ⟨hx, hb, hml, hown, hts⟩ (kx_J5_append_cf1ce_3 l dC dI ge5 gea gv5 gva gde gic gi0 h0 h1 h2 h3 k0 k1 s.heap.size f0 f0_t) (va_cwSU 1 hts gJ4_append_15ec4_J5_append_cf1ce_s29 rfl rfl rfl (by decide +kernel) ⟨Nat.le_of_ble_eq_true rfl, Nat.le_of_ble_eq_true rfl⟩) ⟨fun a U g mk q => by obtain ⟨q0, q1, qP, qK, qD, qG⟩ := q; exact ⟨q0, q1, qP, va_K.moved (u := U) (U := U.calling g mk a) (Vm.Alike.refl U.vm) qK, qD, gv.fb qG⟩, va_recv hKc hPc (ci := 1) (q0 := 2) rfl rfl, fun U hU hW => ⟨rfl, by rw [hU], by rw [hU]; exact hPc, va_K.moved hW.alike hKc, hDc.weaken (fun _ _ _ _ => trivial), gv.pass hW hU hS hFc hG⟩⟩ rfl rfl hl.1 rfl (lv_room (Nat.le_of_ble_eq_true rfl)) dJ4_append_15ec4_2 ⟨Nat.le_of_ble_eq_true rfl, Nat.le_of_ble_eq_true rfl⟩) hS (fun q _ h => hFc q h) hFc (fun u ra t H1 locs ht hvm hw hB hz1 hk1 hS => ?_)
  obtain ⟨f1, f1_t, hra, hP1, hK1, hD1⟩ := hB
  rw [hra]
  rw [ht] at hP1
  have hK1 := va_K.moved hvm.symm hK1
  obtain ⟨hP, hD⟩ := va_join (wr := []) (w1 := [(h0, .inr (0, [.ref h1, .int 0, .int 0, .int 0])), (h1, .inl (k0, 3, .inl f0)), (h2, .inr (1, [.ref h3, .int 0, .int 0, .int 3])), (h3, .inl (k1, 16, .inl f1))]) hP hD [0, 1, 2, 3] [] rfl rfl (by decide) (by decide) hk1 hFc hP1 hD1
  generalize H1 = H at hP hS ⊢
  have hP : va_P (dC, dI) vwCl [(h0, .inr (0, [.ref h1, .int 0, .int 0, .int 0])), (h1, .inl (k0, 3, .inl f0)), (h2, .inr (1, [.ref h3, .int 0, .int 0, .int 3])), (h3, .inl (k1, 16, .inl f1))] H := hP
  have hD : va_D A [(h0, .inr (0, [.ref h1, .int 0, .int 0, .int 0])), (h1, .inl (k0, 3, .inl f0)), (h2, .inr (1, [.ref h3, .int 0, .int 0, .int 3])), (h3, .inl (k1, 16, .inl f1))] := hD
  refine lv_pop hx hb dJ4_append_15ec4_5 rfl ?_
  refine lv_aload_n hx hb dJ4_append_15ec4_6 rfl (lv_at hl 0 rfl) ?_
  exact W.aret (v := .ref h2) hx hb hr (Or.inl ⟨_, rfl⟩) (Or.inr ⟨_, rfl⟩) (fun t ht hW => ⟨⟨(), h2, rfl, trivial, f1, f1_t, rfl, by rw [ht]; exact hP, va_K.moved hW.alike hK, hD⟩, hS.F ht⟩) hS.2.2 dJ4_append_15ec4_7
set_option maxHeartbeats 4000000 in
set_option maxRecDepth 100000 in
theorem kx_J5_getValue_6d5f1_3 (l : Launch) (dC : Nat → ClassId) (dI : Nat → Nat → Nat) (h0 : Nat) (z0 : Nat) (sz : Nat) : Met l yJ5_getValue_6d5f1 wsJ5_getValue_6d5f1 ({ frames := 0, cells := 0, slots := 0, locals := 0 }) (va_Pc [.ref h0] (fun U => U.heap.size = sz ∧ va_P (dC, dI) vwCl [(h0, .inr (1, [.ref z0, .int 0, .int 0, .int 3]))] U.heap ∧ va_K (dC, dI) vwCl [] U ∧ va_D (fun _ => True) [(h0, .inr (1, [.ref z0, .int 0, .int 0, .int 3]))])) (va_Qr (fun _ : Unit => True) (fun (_ : Unit) (ra : Nat) (t : State) => ra = z0 ∧ va_P (dC, dI) vwCl [(h0, .inr (1, [.ref z0, .int 0, .int 0, .int 3]))] t.heap ∧ va_K (dC, dI) vwCl [] t ∧ va_D (va_A [(h0, .inr (1, [.ref z0, .int 0, .int 0, .int 3]))] sz) [(h0, .inr (1, [.ref z0, .int 0, .int 0, .int 3]))]) (va_A [(h0, .inr (1, [.ref z0, .int 0, .int 0, .int 3]))] sz)) 0 0 (va_A [(h0, .inr (1, [.ref z0, .int 0, .int 0, .int 3]))] sz) := by
  refine Met.ofW (cc := cJ5_getValue_6d5f1) (maxL := 1) (ret := (some (.array .byte))) (by decide) rfl ?_
  intro p e s m args below meth c s₁ B hml hv
  obtain ⟨rfl, hsz, hP, hK, hD0⟩ := hv
  have hx := B.exec
  have hb := B.bytes
  have hr := B.returns
  have hts := atoms_spec (ws := wsJ5_getValue_6d5f1) B.pre
  have hown : s.vm.findClass RJ5 = some m.cls := findClass_of_methodNamed B.named
  have hlocks := B.notSynchronized
  subst hsz
  have hD := hD0.self (sz := s.heap.size)
  generalize hAe : va_A [(h0, .inr (1, [.ref z0, .int 0, .int 0, .int 3]))] s.heap.size = A at hD ⊢
  have hA : ∀ q : Nat, s.heap.size ≤ q → A q := fun q h => by rw [← hAe]; exact Or.inr h
  have hS : va_S A s.heap s.heap [] := va_S.rf
  have hP : va_P (dC, dI) vwCl [(h0, .inr (1, [.ref z0, .int 0, .int 0, .int 3]))] s.heap := hP
  have hl := lv_entry ([.ref h0]) (n := 1) (Nat.le_of_ble_eq_true rfl)
  rw [lg_entry_eq]
  generalize (lg_sl ([.ref h0]) ++ List.replicate (1 - (lg_sl ([.ref h0])).length) Slot.unset).toArray = ls at hl ⊢
  have hl : lv_has ls 1 [(0, .ref h0)] := hl
  refine lv_aload_n hx hb dJ5_getValue_6d5f1_0 rfl (lv_at hl 0 rfl) ?_
  refine va_get (D := (dC, dI)) (ci := 1) (v := .ref z0) (C := RJ4) (T := TJ4) (N := 4) hx hb hts (by decide +kernel) hown hK hP 0 rfl rfl 0 (by decide) (hts (.fieldLink RJ5 15 "java/lang/AbstractStringBuilder" "value" "[B") (by decide +kernel)) (fun _ h9 => h9) rfl dJ5_getValue_6d5f1_1 ?_
  exact W.aret (v := .ref z0) hx hb hr (Or.inr ⟨_, rfl⟩) (Or.inr ⟨_, rfl⟩) (fun t ht hW => ⟨⟨(), z0, rfl, trivial, rfl, by rw [ht]; exact hP, va_K.moved hW.alike hK, hD⟩, hS.F ht⟩) hS.2.2 dJ5_getValue_6d5f1_4
set_option maxHeartbeats 4000000 in
set_option maxRecDepth 100000 in
theorem kx_J5_length_8abf5_3 (l : Launch) (dC : Nat → ClassId) (dI : Nat → Nat → Nat) (h0 : Nat) (z0 : Nat) (sz : Nat) : Met l yJ5_length_8abf5 wsJ5_length_8abf5 ({ frames := 0, cells := 0, slots := 0, locals := 0 }) (va_Pc [.ref h0] (fun U => U.heap.size = sz ∧ va_P (dC, dI) vwCl [(h0, .inr (1, [.ref z0, .int 0, .int 0, .int 3]))] U.heap ∧ va_K (dC, dI) vwCl [] U ∧ va_D (fun _ => True) [(h0, .inr (1, [.ref z0, .int 0, .int 0, .int 3]))])) (va_Qi (fun (r : Int32) (_ : Unit) => r = 3) (fun (_ : Unit) (t : State) => va_P (dC, dI) vwCl [(h0, .inr (1, [.ref z0, .int 0, .int 0, .int 3]))] t.heap ∧ va_K (dC, dI) vwCl [] t ∧ va_D (va_A [(h0, .inr (1, [.ref z0, .int 0, .int 0, .int 3]))] sz) [(h0, .inr (1, [.ref z0, .int 0, .int 0, .int 3]))]) (va_A [(h0, .inr (1, [.ref z0, .int 0, .int 0, .int 3]))] sz)) 0 0 (va_A [(h0, .inr (1, [.ref z0, .int 0, .int 0, .int 3]))] sz) := by
  refine Met.ofW (cc := cJ5_length_8abf5) (maxL := 1) (ret := (some .int)) (by decide) rfl ?_
  intro p e s m args below meth c s₁ B hml hv
  obtain ⟨rfl, hsz, hP, hK, hD0⟩ := hv
  have hx := B.exec
  have hb := B.bytes
  have hr := B.returns
  have hts := atoms_spec (ws := wsJ5_length_8abf5) B.pre
  have hown : s.vm.findClass RJ5 = some m.cls := findClass_of_methodNamed B.named
  have hlocks := B.notSynchronized
  subst hsz
  have hD := hD0.self (sz := s.heap.size)
  generalize hAe : va_A [(h0, .inr (1, [.ref z0, .int 0, .int 0, .int 3]))] s.heap.size = A at hD ⊢
  have hA : ∀ q : Nat, s.heap.size ≤ q → A q := fun q h => by rw [← hAe]; exact Or.inr h
  have hS : va_S A s.heap s.heap [] := va_S.rf
  have hP : va_P (dC, dI) vwCl [(h0, .inr (1, [.ref z0, .int 0, .int 0, .int 3]))] s.heap := hP
  have hl := lv_entry ([.ref h0]) (n := 1) (Nat.le_of_ble_eq_true rfl)
  rw [lg_entry_eq]
  generalize (lg_sl ([.ref h0]) ++ List.replicate (1 - (lg_sl ([.ref h0])).length) Slot.unset).toArray = ls at hl ⊢
  have hl : lv_has ls 1 [(0, .ref h0)] := hl
  refine lv_aload_n hx hb dJ5_length_8abf5_0 rfl (lv_at hl 0 rfl) ?_
  refine va_get (D := (dC, dI)) (ci := 1) (v := .int 3) (C := RJ4) (T := TJ4) (N := 4) hx hb hts (by decide +kernel) hown hK hP 0 rfl rfl 3 (by decide) (hts (.fieldLink RJ5 79 "java/lang/AbstractStringBuilder" "count" "I") (by decide +kernel)) (fun _ h9 => h9) rfl dJ5_length_8abf5_1 ?_
  exact W.iret (v := 3) hx hb hr (fun t ht hW => ⟨⟨3, (), rfl, rfl, by rw [ht]; exact hP, va_K.moved hW.alike hK, hD⟩, hS.F ht⟩) hS.2.2 dJ5_length_8abf5_4
set_option maxHeartbeats 4000000 in
set_option maxRecDepth 100000 in
theorem kx_J4_length_8abf5_3 (l : Launch) (dC : Nat → ClassId) (dI : Nat → Nat → Nat) (h0 : Nat) (z0 : Nat) (sz : Nat) : Met l yJ4_length_8abf5 wsJ4_length_8abf5 ({ frames := 1, cells := 0, slots := 0, locals := 20 }) (va_Pc [.ref h0] (fun U => U.heap.size = sz ∧ va_P (dC, dI) vwCl [(h0, .inr (1, [.ref z0, .int 0, .int 0, .int 3]))] U.heap ∧ va_K (dC, dI) vwCl [] U ∧ va_D (fun _ => True) [(h0, .inr (1, [.ref z0, .int 0, .int 0, .int 3]))])) (va_Qi (fun (r : Int32) (_ : Unit) => r = 3) (fun (_ : Unit) (t : State) => va_P (dC, dI) vwCl [(h0, .inr (1, [.ref z0, .int 0, .int 0, .int 3]))] t.heap ∧ va_K (dC, dI) vwCl [] t ∧ va_D (va_A [(h0, .inr (1, [.ref z0, .int 0, .int 0, .int 3]))] sz) [(h0, .inr (1, [.ref z0, .int 0, .int 0, .int 3]))]) (va_A [(h0, .inr (1, [.ref z0, .int 0, .int 0, .int 3]))] sz)) 0 0 (va_A [(h0, .inr (1, [.ref z0, .int 0, .int 0, .int 3]))] sz) := by
  refine Met.ofW (cc := cJ4_length_8abf5) (maxL := 1) (ret := (some .int)) (by decide) rfl ?_
  intro p e s m args below meth c s₁ B hml hv
  obtain ⟨rfl, hsz, hP, hK, hD0⟩ := hv
  have hx := B.exec
  have hb := B.bytes
  have hr := B.returns
  have hts := atoms_spec (ws := wsJ4_length_8abf5) B.pre
  have hown : s.vm.findClass RJ4 = some m.cls := findClass_of_methodNamed B.named
  have hlocks := B.notSynchronized
  subst hsz
  have hD := hD0.self (sz := s.heap.size)
  generalize hAe : va_A [(h0, .inr (1, [.ref z0, .int 0, .int 0, .int 3]))] s.heap.size = A at hD ⊢
  have hA : ∀ q : Nat, s.heap.size ≤ q → A q := fun q h => by rw [← hAe]; exact Or.inr h
  have hS : va_S A s.heap s.heap [] := va_S.rf
  have hP : va_P (dC, dI) vwCl [(h0, .inr (1, [.ref z0, .int 0, .int 0, .int 3]))] s.heap := hP
  have hl := lv_entry ([.ref h0]) (n := 1) (Nat.le_of_ble_eq_true rfl)
  rw [lg_entry_eq]
  generalize (lg_sl ([.ref h0]) ++ List.replicate (1 - (lg_sl ([.ref h0])).length) Slot.unset).toArray = ls at hl ⊢
  have hl : lv_has ls 1 [(0, .ref h0)] := hl
  refine lv_aload_n hx hb dJ4_length_8abf5_0 rfl (lv_at hl 0 rfl) ?_
  have hPc := hP.sub (ws' := [(h0, .inr (1, [.ref z0, .int 0, .int 0, .int 3]))]) [0] rfl
  have hDc := hD.sub (ws' := [(h0, .inr (1, [.ref z0, .int 0, .int 0, .int 3]))]) [0] (by decide) rfl
  have hKc := hK.sub (tys' := []) [] rfl
  have hFc := va_free (wc := [(h0, .inr (1, [.ref z0, .int 0, .int 0, .int 3]))]) hD hS hA [0] rfl
  refine va_calli (va_runSU (hK.1 1 _ rfl).2 (As := []) (rest := []) ⟨hx, hb, hml, hown, hts⟩ (kx_J5_length_8abf5_3 l dC dI h0 z0 s.heap.size) (va_cwSU 0 hts gJ4_length_8abf5_J5_length_8abf5_s343 rfl rfl rfl (by decide +kernel) ⟨Nat.le_of_ble_eq_true rfl, Nat.le_of_ble_eq_true rfl⟩) ⟨fun a U g mk q => by obtain ⟨q0, q1, qP, qK, qD⟩ := q; exact ⟨q0, q1, qP, va_K.moved (u := U) (U := U.calling g mk a) (Vm.Alike.refl U.vm) qK, qD⟩, va_recv hKc hPc (ci := 1) (q0 := 0) rfl rfl, fun U hU hW => ⟨rfl, by rw [hU], by rw [hU]; exact hPc, va_K.moved hW.alike hKc, hDc.weaken (fun _ _ _ _ => trivial)⟩⟩ rfl rfl hl.1 rfl (lv_room (Nat.le_of_ble_eq_true rfl)) dJ4_length_8abf5_1 ⟨Nat.le_of_ble_eq_true rfl, Nat.le_of_ble_eq_true rfl⟩) hS (fun q _ h => hFc q h) hFc (fun r9 u t H1 locs ht hvm hw hB hz1 hk1 hS => ?_)
  obtain rfl := hw
  obtain ⟨hP1, hK1, hD1⟩ := hB
  rw [ht] at hP1
  have hK1 := va_K.moved hvm.symm hK1
  obtain ⟨hP, hD⟩ := va_join (wr := []) (w1 := [(h0, .inr (1, [.ref z0, .int 0, .int 0, .int 3]))]) hP hD [0] [] rfl rfl (by decide) (by decide) hk1 hFc hP1 hD1
  generalize H1 = H at hP hS ⊢
  have hP : va_P (dC, dI) vwCl [(h0, .inr (1, [.ref z0, .int 0, .int 0, .int 3]))] H := hP
  have hD : va_D A [(h0, .inr (1, [.ref z0, .int 0, .int 0, .int 3]))] := hD
  exact W.iret (v := 3) hx hb hr (fun t ht hW => ⟨⟨3, (), rfl, rfl, by rw [ht]; exact hP, va_K.moved hW.alike hK, hD⟩, hS.F ht⟩) hS.2.2 dJ4_length_8abf5_4
set_option maxHeartbeats 4000000 in
set_option maxRecDepth 100000 in
theorem kx_J5_isLatin1_aae02_3 (l : Launch) (dC : Nat → ClassId) (dI : Nat → Nat → Nat) (ge5 gea gv5 gva gde gic gi0 : Nat) (h0 : Nat) (z0 : Nat) (sz : Nat) : Met l yJ5_isLatin1_aae02 wsJ5_isLatin1_aae02 ({ frames := 0, cells := 0, slots := 0, locals := 0 }) (va_Pc [.ref h0] (fun U => U.heap.size = sz ∧ va_P (dC, dI) vwCl [(h0, .inr (1, [.ref z0, .int 0, .int 0, .int 3]))] U.heap ∧ va_K (dC, dI) vwCl [] U ∧ va_D (fun _ => True) [(h0, .inr (1, [.ref z0, .int 0, .int 0, .int 3]))] ∧ gv ge5 gea gv5 gva gde gic gi0 (va_A [(h0, .inr (1, [.ref z0, .int 0, .int 0, .int 3]))] sz) U U.heap)) (va_Qi (fun (r : Int32) (_ : Unit) => r = 1) (fun (_ : Unit) (t : State) => va_P (dC, dI) vwCl [(h0, .inr (1, [.ref z0, .int 0, .int 0, .int 3]))] t.heap ∧ va_K (dC, dI) vwCl [] t ∧ va_D (va_A [(h0, .inr (1, [.ref z0, .int 0, .int 0, .int 3]))] sz) [(h0, .inr (1, [.ref z0, .int 0, .int 0, .int 3]))]) (va_A [(h0, .inr (1, [.ref z0, .int 0, .int 0, .int 3]))] sz)) 0 0 (va_A [(h0, .inr (1, [.ref z0, .int 0, .int 0, .int 3]))] sz) := by
  refine Met.ofW (cc := cJ5_isLatin1_aae02) (maxL := 1) (ret := (some .boolean)) (by decide) rfl ?_
  intro p e s m args below meth c s₁ B hml hv
  obtain ⟨rfl, hsz, hP, hK, hD0, hG⟩ := hv
  have hx := B.exec
  have hb := B.bytes
  have hr := B.returns
  have hts := atoms_spec (ws := wsJ5_isLatin1_aae02) B.pre
  have hown : s.vm.findClass RJ5 = some m.cls := findClass_of_methodNamed B.named
  have hlocks := B.notSynchronized
  subst hsz
  have hD := hD0.self (sz := s.heap.size)
  generalize hAe : va_A [(h0, .inr (1, [.ref z0, .int 0, .int 0, .int 3]))] s.heap.size = A at hD hG ⊢
  obtain ⟨⟨g_AO_Text, g_AO_String, g_AO_Object, g_nm_RX1_20, g_nm_RX0_17, g_nm_RX3_31, g_nm_RX2_44, g_nm_RL_121, g_nf_RL_13, g_nf_RL_47, g_ca_IO, g_ca_IA, g_ca_IS, g_ca_IntObj, g_ca_StrObj, g_de_RT, g_de_EX, g_de_TH, g_nc_IA_IO, g_nc_IS_IO, g_nc_IS_IA⟩, ⟨g_s3, g_s5, g_sa, g_x278, g_x280, g_x282, g_x284, g_x286, g_x180, g_x238, g_x250⟩, ⟨g_o5, g_c5, g_v5, g_t5, g_oa, g_ca, g_va, g_ta, g_zc, g_zd, g_td, g_zf, g_zU, g_zN, g_zh, g_zk, g_tk, g_oi, g_vi⟩⟩ := id hG
  have hA : ∀ q : Nat, s.heap.size ≤ q → A q := fun q h => by rw [← hAe]; exact Or.inr h
  have hS : va_S A s.heap s.heap [] := va_S.rf
  have hP : va_P (dC, dI) vwCl [(h0, .inr (1, [.ref z0, .int 0, .int 0, .int 3]))] s.heap := hP
  have hl := lv_entry ([.ref h0]) (n := 1) (Nat.le_of_ble_eq_true rfl)
  rw [lg_entry_eq]
  generalize (lg_sl ([.ref h0]) ++ List.replicate (1 - (lg_sl ([.ref h0])).length) Slot.unset).toArray = ls at hl ⊢
  have hl : lv_has ls 1 [(0, .ref h0)] := hl
  refine va_gets (v := .int 1) hx hb g_zc hS hown (hts (.fieldLink RJ5 18 "java/lang/String" "COMPACT_STRINGS" "Z") (by decide +kernel)) (fun _ h9 => h9) dJ5_isLatin1_aae02_0 ?_
  refine lv_if_eq (tgt := 17) hx hb dJ5_isLatin1_aae02_3 (by decide) (fun c9 => absurd c9 (by decide)) (fun _ => ?_)
  refine lv_aload_n hx hb dJ5_isLatin1_aae02_6 rfl (lv_at hl 0 rfl) ?_
  refine va_get (D := (dC, dI)) (ci := 1) (v := .int 0) (C := RJ4) (T := TJ4) (N := 4) hx hb hts (by decide +kernel) hown hK hP 0 rfl rfl 1 (by decide) (hts (.fieldLink RJ5 22 "java/lang/AbstractStringBuilder" "coder" "B") (by decide +kernel)) (fun _ h9 => h9) rfl dJ5_isLatin1_aae02_7 ?_
  refine lv_if_ne (tgt := 17) hx hb dJ5_isLatin1_aae02_10 (by decide) (fun c9 => absurd (by decide) c9) (fun _ => ?_)
  refine lv_iconst (v := 1) hx hb dJ5_isLatin1_aae02_13 (by decide) ?_
  refine lv_goto (tgt := 18) hx hb dJ5_isLatin1_aae02_14 (by decide) ?_
  exact W.zret (v := 1) hx hb hr (by decide) (fun t ht hW => ⟨⟨1, (), rfl, rfl, by rw [ht]; exact hP, va_K.moved hW.alike hK, hD⟩, hS.F ht⟩) hS.2.2 dJ5_isLatin1_aae02_18
set_option maxHeartbeats 4000000 in
set_option maxRecDepth 100000 in
theorem kx_J7_checkLength_df160_3 (l : Launch) (dC : Nat → ClassId) (dI : Nat → Nat → Nat) (sz : Nat) : Met l yJ7_checkLength_df160 wsJ7_checkLength_df160 ({ frames := 0, cells := 0, slots := 0, locals := 0 }) (va_Pc [.int 0, .int 3] (fun U => U.heap.size = sz ∧ va_P (dC, dI) vwCl [] U.heap ∧ va_K (dC, dI) vwCl [] U ∧ va_D (fun _ => True) [])) (va_Qv (fun _ : Unit => True) (fun (_ : Unit) (t : State) => va_P (dC, dI) vwCl [] t.heap ∧ va_K (dC, dI) vwCl [] t ∧ va_D (va_A [] sz) []) (va_A [] sz)) 0 0 (va_A [] sz) := by
  refine Met.ofW (cc := cJ7_checkLength_df160) (maxL := 2) (ret := none) (by decide) rfl ?_
  intro p e s m args below meth c s₁ B hml hv
  obtain ⟨rfl, hsz, hP, hK, hD0⟩ := hv
  have hx := B.exec
  have hb := B.bytes
  have hr := B.returns
  have hts := atoms_spec (ws := wsJ7_checkLength_df160) B.pre
  have hown : s.vm.findClass RJ7 = some m.cls := findClass_of_methodNamed B.named
  have hlocks := B.notSynchronized
  subst hsz
  have hD := hD0.self (sz := s.heap.size)
  generalize hAe : va_A [] s.heap.size = A at hD ⊢
  have hA : ∀ q : Nat, s.heap.size ≤ q → A q := fun q h => by rw [← hAe]; exact Or.inr h
  have hS : va_S A s.heap s.heap [] := va_S.rf
  have hP : va_P (dC, dI) vwCl [] s.heap := hP
  have hl := lv_entry ([.int 0, .int 3]) (n := 2) (Nat.le_of_ble_eq_true rfl)
  rw [lg_entry_eq]
  generalize (lg_sl ([.int 0, .int 3]) ++ List.replicate (2 - (lg_sl ([.int 0, .int 3])).length) Slot.unset).toArray = ls at hl ⊢
  have hl : lv_has ls 2 [(0, .int 0), (1, .int 3)] := hl
  refine lv_iload_n hx hb dJ7_checkLength_df160_0 rfl (lv_at hl 1 rfl) ?_
  refine lv_iload_n hx hb dJ7_checkLength_df160_1 rfl (lv_at hl 0 rfl) ?_
  refine lv_icmp_ge (tgt := 37) hx hb dJ7_checkLength_df160_2 (by decide) (fun _ => ?_) (fun c9 => absurd (by decide) c9)
  exact W.vret hx hb hr (fun t ht hW => ⟨⟨(), rfl, trivial, by rw [ht]; exact hP, va_K.moved hW.alike hK, hD⟩, hS.F ht⟩) hS.2.2 dJ7_checkLength_df160_37
set_option maxHeartbeats 4000000 in
set_option maxRecDepth 100000 in
theorem kx_J7_copyOfRangeByte_39247_3 (l : Launch) (dC : Nat → ClassId) (dI : Nat → Nat → Nat) (h0 : Nat) (k0 : ClassId) (sz : Nat) (f0 : Nat → Int32) (f0_t : sb_Fit f0) : Met l yJ7_copyOfRangeByte_39247 wsJ7_copyOfRangeByte_39247 ({ frames := 1, cells := 1, slots := 3, locals := 60 }) (va_Pc [.ref h0, .int 0, .int 3] (fun U => U.heap.size = sz ∧ va_P (dC, dI) vwCl [(h0, .inl (k0, 16, .inl f0))] U.heap ∧ va_K (dC, dI) vwCl [(k0, .byte)] U ∧ va_D (fun _ => True) [(h0, .inl (k0, 16, .inl f0))])) (va_Qr (fun _ : Unit => True) (fun (_ : Unit) (ra : Nat) (t : State) => ∃ q2 : Nat, ∃ cq2 : ClassId, ∃ f5 : Nat → Int32, sb_Fit f5 ∧ ra = q2 ∧ va_P (dC, dI) vwCl [(h0, .inl (k0, 16, .inl f0)), (q2, .inl (cq2, 3, .inl f5))] t.heap ∧ va_K (dC, dI) vwCl [(k0, .byte), (cq2, .byte)] t ∧ va_D (va_A [(h0, .inl (k0, 16, .inl f0))] sz) [(h0, .inl (k0, 16, .inl f0)), (q2, .inl (cq2, 3, .inl f5))]) (va_A [(h0, .inl (k0, 16, .inl f0))] sz)) 1 3 (va_A [(h0, .inl (k0, 16, .inl f0))] sz) := by
  refine Met.ofW (cc := cJ7_copyOfRangeByte_39247) (maxL := 5) (ret := (some (.array .byte))) (by decide) rfl ?_
  intro p e s m args below meth c s₁ B hml hv
  obtain ⟨rfl, hsz, hP, hK, hD0⟩ := hv
  have hx := B.exec
  have hb := B.bytes
  have hr := B.returns
  have hts := atoms_spec (ws := wsJ7_copyOfRangeByte_39247) B.pre
  have hown : s.vm.findClass RJ7 = some m.cls := findClass_of_methodNamed B.named
  have hlocks := B.notSynchronized
  subst hsz
  have hD := hD0.self (sz := s.heap.size)
  generalize hAe : va_A [(h0, .inl (k0, 16, .inl f0))] s.heap.size = A at hD ⊢
  have hA : ∀ q : Nat, s.heap.size ≤ q → A q := fun q h => by rw [← hAe]; exact Or.inr h
  have hS : va_S A s.heap s.heap [] := va_S.rf
  have hP : va_P (dC, dI) vwCl [(h0, .inl (k0, 16, .inl f0))] s.heap := hP
  have hl := lv_entry ([.ref h0, .int 0, .int 3]) (n := 5) (Nat.le_of_ble_eq_true rfl)
  rw [lg_entry_eq]
  generalize (lg_sl ([.ref h0, .int 0, .int 3]) ++ List.replicate (5 - (lg_sl ([.ref h0, .int 0, .int 3])).length) Slot.unset).toArray = ls at hl ⊢
  have hl : lv_has ls 5 [(0, .ref h0), (1, .int 0), (2, .int 3)] := hl
  refine lv_iload_n hx hb dJ7_copyOfRangeByte_39247_0 rfl (lv_at hl 1 rfl) ?_
  refine lv_iload_n hx hb dJ7_copyOfRangeByte_39247_1 rfl (lv_at hl 2 rfl) ?_
  have hPc := hP.sub (ws' := []) [] rfl
  have hDc := hD.sub (ws' := []) [] (by decide) rfl
  have hKc := hK.sub (tys' := []) [] rfl
  have hFc := va_free (wc := []) hD hS hA [] rfl
  refine va_callv (va_runS (As := [.int 0, .int 3]) (rest := []) ⟨hx, hb, hml, hown, hts⟩ (kx_J7_checkLength_df160_3 l dC dI s.heap.size) (cwS 2 hts gJ7_copyOfRangeByte_39247_J7_checkLength_df160 rfl rfl rfl (by decide +kernel) ⟨Nat.le_of_ble_eq_true rfl, Nat.le_of_ble_eq_true rfl⟩) ⟨fun a U g mk q => by obtain ⟨q0, q1, qP, qK, qD⟩ := q; exact ⟨q0, q1, qP, va_K.moved (u := U) (U := U.calling g mk a) (Vm.Alike.refl U.vm) qK, qD⟩, fun U hU hW => ⟨rfl, by rw [hU], by rw [hU]; exact hPc, va_K.moved hW.alike hKc, hDc.weaken (fun _ _ _ _ => trivial)⟩⟩ rfl rfl hl.1 rfl (lv_room (Nat.le_of_ble_eq_true rfl)) dJ7_copyOfRangeByte_39247_2 ⟨Nat.le_of_ble_eq_true rfl, Nat.le_of_ble_eq_true rfl⟩) hS (fun q _ h => hFc q h) hFc (fun u t H1 locs ht hvm hw hB hz1 hk1 hS => ?_)
  obtain ⟨hP1, hK1, hD1⟩ := hB
  rw [ht] at hP1
  have hK1 := va_K.moved hvm.symm hK1
  obtain ⟨hP, hD⟩ := va_join (wr := [(h0, .inl (k0, 16, .inl f0))]) (w1 := []) hP hD [] [0] rfl rfl (by decide) (by decide) hk1 hFc hP1 hD1
  generalize H1 = H at hP hS ⊢
  have hP : va_P (dC, dI) vwCl [(h0, .inl (k0, 16, .inl f0))] H := hP
  have hD : va_D A [(h0, .inl (k0, 16, .inl f0))] := hD
  refine lv_iload_n hx hb dJ7_copyOfRangeByte_39247_5 rfl (lv_at hl 2 rfl) ?_
  refine lv_iload_n hx hb dJ7_copyOfRangeByte_39247_6 rfl (lv_at hl 1 rfl) ?_
  refine lv_isub hx hb dJ7_copyOfRangeByte_39247_7 ?_
  refine lv_topi (fun y1 ey1 => ?_)
  obtain rfl : y1 = 3 := ey1.trans (by decide)
  refine lv_istore_n (lv' := [(3, .int 3), (0, .ref h0), (1, .int 0), (2, .int 3)]) hx hb dJ7_copyOfRangeByte_39247_8 rfl hl (by decide) rfl (fun ls hl => ?_)
  refine lv_iload_n hx hb dJ7_copyOfRangeByte_39247_9 rfl (lv_at hl 0 rfl) ?_
  refine va_newa (D := (dC, dI)) (atype := .byte) (ty := .byte) (a0 := (3, .inl (fun _ => 0))) (n := 3) (N' := 3) hx hb (hts (.arrayClass .byte) (by decide +kernel)) rfl hK hP hD hS hA (fun _ => rfl) (by decide) (by decide) (Nat.le_of_ble_eq_true rfl) (Nat.le_of_ble_eq_true rfl) (Nat.le_of_ble_eq_true rfl) dJ7_copyOfRangeByte_39247_10 (fun q2 cq2 H hK hP hD hS => ?_)
  have hK : va_K (dC, dI) vwCl [(k0, .byte), (cq2, .byte)] s := hK
  have hP : va_P (dC, dI) vwCl [(h0, .inl (k0, 16, .inl f0)), (q2, .inl (cq2, 3, .inl (fun _ => 0)))] H := hP
  have hD : va_D A [(h0, .inl (k0, 16, .inl f0)), (q2, .inl (cq2, 3, .inl (fun _ => 0)))] := hD
  refine W.widen (k := 1) (n := 3) (by omega) (by omega) ?_
  refine lv_astore (lv' := [(4, .ref q2), (3, .int 3), (0, .ref h0), (1, .int 0), (2, .int 3)]) hx hb dJ7_copyOfRangeByte_39247_12 hl (by decide) rfl (fun ls hl => ?_)
  refine lv_aload_n hx hb dJ7_copyOfRangeByte_39247_14 rfl (lv_at hl 2 rfl) ?_
  refine lv_iload_n hx hb dJ7_copyOfRangeByte_39247_15 rfl (lv_at hl 3 rfl) ?_
  refine lv_aload hx hb dJ7_copyOfRangeByte_39247_16 (lv_at hl 0 rfl) ?_
  refine lv_iconst (v := 0) hx hb dJ7_copyOfRangeByte_39247_18 (by decide) ?_
  refine lv_aload_n hx hb dJ7_copyOfRangeByte_39247_19 rfl (lv_at hl 2 rfl) ?_
  refine va_alen (D := (dC, dI)) (v := 16) hx hb hK hP 0 0 rfl rfl (show Int32.ofNat 16 = 16 from by decide) dJ7_copyOfRangeByte_39247_20 ?_
  refine lv_iload_n hx hb dJ7_copyOfRangeByte_39247_21 rfl (lv_at hl 3 rfl) ?_
  refine lv_isub hx hb dJ7_copyOfRangeByte_39247_22 ?_
  refine lv_topi (fun y3 ey3 => ?_)
  obtain rfl : y3 = 16 := ey3.trans (by decide)
  refine lv_iload_n hx hb dJ7_copyOfRangeByte_39247_23 rfl (lv_at hl 1 rfl) ?_
  refine va_mmin (x := 16) (y := 3) hx hb (by rw [hml]; exact hl.1.symm) hown (hts (.methodLink RJ7 304 Lib.Math.min.name) (by decide +kernel)) (hts (.static Lib.Math.min.name) (by decide +kernel)) (hts (.initialized "java/lang/Math") (by decide +kernel)) (hts (.code Lib.Math.min.name Lib.Math.min.code 2 (some .int)) (by decide +kernel)) (Nat.le_of_ble_eq_true rfl) (Nat.le_of_ble_eq_true rfl) (Nat.le_of_ble_eq_true rfl) (Nat.le_of_ble_eq_true rfl) dJ7_copyOfRangeByte_39247_24 ?_
  refine lv_topi (fun y4 ey4 => ?_)
  obtain rfl : y4 = 3 := ey4.trans (by decide)
  refine va_copyi (D := (dC, dI)) (sp := 0) (dp := 0) (n := 3) hx hb (by rw [hml]; exact hl.1.symm) hown (hts (.methodLink RJ7 150 arraycopyName) (by decide +kernel)) (hts (.native arraycopyName) (by decide +kernel)) (hts (.static arraycopyName) (by decide +kernel)) (hts (.initialized "java/lang/System") (by decide +kernel)) hK hP hD hS 0 1 0 1 rfl rfl rfl rfl rfl (by decide) (by decide) (by decide) (by decide) (by decide) (fun i hi => f0_t _) (Nat.le_of_ble_eq_true rfl) (Nat.le_of_ble_eq_true rfl) dJ7_copyOfRangeByte_39247_27 (fun H locs hP hD hS => ?_)
  have hP : va_P (dC, dI) vwCl [(h0, .inl (k0, 16, .inl f0)), (q2, .inl (cq2, 3, .inl (va_cpy f0 (fun _ => 0) (0 : Int32).toNatClampNeg (0 : Int32).toNatClampNeg (3 : Int32).toNatClampNeg)))] H := hP
  have hD : va_D A [(h0, .inl (k0, 16, .inl f0)), (q2, .inl (cq2, 3, .inl (va_cpy f0 (fun _ => 0) (0 : Int32).toNatClampNeg (0 : Int32).toNatClampNeg (3 : Int32).toNatClampNeg)))] := hD
  obtain ⟨f5, hf5⟩ : ∃ f : Nat → Int32, f = va_cpy f0 (fun _ => 0) (0 : Int32).toNatClampNeg (0 : Int32).toNatClampNeg (3 : Int32).toNatClampNeg := ⟨_, rfl⟩
  have f5_t : sb_Fit f5 := by rw [hf5]; exact sb_fitC f0_t sb_fit0
  rw [← hf5] at hP hD
  refine lv_aload hx hb dJ7_copyOfRangeByte_39247_30 (lv_at hl 0 rfl) ?_
  exact W.aret (v := .ref q2) hx hb hr (Or.inr ⟨_, rfl⟩) (Or.inr ⟨_, rfl⟩) (fun t ht hW => ⟨⟨(), q2, rfl, trivial, q2, cq2, f5, f5_t, rfl, by rw [ht]; exact hP, va_K.moved hW.alike hK, hD⟩, hS.F ht⟩) hS.2.2 dJ7_copyOfRangeByte_39247_32
set_option maxHeartbeats 4000000 in
set_option maxRecDepth 100000 in
theorem kx_J7_copyOfRange_39247_3 (l : Launch) (dC : Nat → ClassId) (dI : Nat → Nat → Nat) (h0 : Nat) (k0 : ClassId) (sz : Nat) (f0 : Nat → Int32) (f0_t : sb_Fit f0) : Met l yJ7_copyOfRange_39247 wsJ7_copyOfRange_39247 ({ frames := 2, cells := 1, slots := 3, locals := 84 }) (va_Pc [.ref h0, .int 0, .int 3] (fun U => U.heap.size = sz ∧ va_P (dC, dI) vwCl [(h0, .inl (k0, 16, .inl f0))] U.heap ∧ va_K (dC, dI) vwCl [(k0, .byte)] U ∧ va_D (fun _ => True) [(h0, .inl (k0, 16, .inl f0))])) (va_Qr (fun _ : Unit => True) (fun (_ : Unit) (ra : Nat) (t : State) => ∃ q1 : Nat, ∃ cq2 : ClassId, ∃ f3 : Nat → Int32, sb_Fit f3 ∧ ra = q1 ∧ va_P (dC, dI) vwCl [(h0, .inl (k0, 16, .inl f0)), (q1, .inl (cq2, 3, .inl f3))] t.heap ∧ va_K (dC, dI) vwCl [(k0, .byte), (cq2, .byte)] t ∧ va_D (va_A [(h0, .inl (k0, 16, .inl f0))] sz) [(h0, .inl (k0, 16, .inl f0)), (q1, .inl (cq2, 3, .inl f3))]) (va_A [(h0, .inl (k0, 16, .inl f0))] sz)) 1 3 (va_A [(h0, .inl (k0, 16, .inl f0))] sz) := by
  refine Met.ofW (cc := cJ7_copyOfRange_39247) (maxL := 3) (ret := (some (.array .byte))) (by decide) rfl ?_
  intro p e s m args below meth c s₁ B hml hv
  obtain ⟨rfl, hsz, hP, hK, hD0⟩ := hv
  have hx := B.exec
  have hb := B.bytes
  have hr := B.returns
  have hts := atoms_spec (ws := wsJ7_copyOfRange_39247) B.pre
  have hown : s.vm.findClass RJ7 = some m.cls := findClass_of_methodNamed B.named
  have hlocks := B.notSynchronized
  subst hsz
  have hD := hD0.self (sz := s.heap.size)
  generalize hAe : va_A [(h0, .inl (k0, 16, .inl f0))] s.heap.size = A at hD ⊢
  have hA : ∀ q : Nat, s.heap.size ≤ q → A q := fun q h => by rw [← hAe]; exact Or.inr h
  have hS : va_S A s.heap s.heap [] := va_S.rf
  have hP : va_P (dC, dI) vwCl [(h0, .inl (k0, 16, .inl f0))] s.heap := hP
  have hl := lv_entry ([.ref h0, .int 0, .int 3]) (n := 3) (Nat.le_of_ble_eq_true rfl)
  rw [lg_entry_eq]
  generalize (lg_sl ([.ref h0, .int 0, .int 3]) ++ List.replicate (3 - (lg_sl ([.ref h0, .int 0, .int 3])).length) Slot.unset).toArray = ls at hl ⊢
  have hl : lv_has ls 3 [(0, .ref h0), (1, .int 0), (2, .int 3)] := hl
  refine lv_iload_n hx hb dJ7_copyOfRange_39247_0 rfl (lv_at hl 1 rfl) ?_
  refine lv_if_ne (tgt := 10) hx hb dJ7_copyOfRange_39247_1 (by decide) (fun c9 => absurd (by decide) c9) (fun _ => ?_)
  refine lv_iload_n hx hb dJ7_copyOfRange_39247_4 rfl (lv_at hl 2 rfl) ?_
  refine lv_aload_n hx hb dJ7_copyOfRange_39247_5 rfl (lv_at hl 0 rfl) ?_
  refine va_alen (D := (dC, dI)) (v := 16) hx hb hK hP 0 0 rfl rfl (show Int32.ofNat 16 = 16 from by decide) dJ7_copyOfRange_39247_6 ?_
  refine lv_icmp_eq (tgt := 17) hx hb dJ7_copyOfRange_39247_7 (by decide) (fun c9 => absurd c9 (by decide)) (fun _ => ?_)
  refine lv_aload_n hx hb dJ7_copyOfRange_39247_10 rfl (lv_at hl 0 rfl) ?_
  refine lv_iload_n hx hb dJ7_copyOfRange_39247_11 rfl (lv_at hl 1 rfl) ?_
  refine lv_iload_n hx hb dJ7_copyOfRange_39247_12 rfl (lv_at hl 2 rfl) ?_
  have hPc := hP.sub (ws' := [(h0, .inl (k0, 16, .inl f0))]) [0] rfl
  have hDc := hD.sub (ws' := [(h0, .inl (k0, 16, .inl f0))]) [0] (by decide) rfl
  have hKc := hK.sub (tys' := [(k0, .byte)]) [0] rfl
  have hFc := va_free (wc := [(h0, .inl (k0, 16, .inl f0))]) hD hS hA [0] rfl
  refine va_callr (va_runS (As := [.ref h0, .int 0, .int 3]) (rest := []) ⟨hx, hb, hml, hown, hts⟩ (kx_J7_copyOfRangeByte_39247_3 l dC dI h0 k0 s.heap.size f0 f0_t) (cwS 3 hts gJ7_copyOfRange_39247_J7_copyOfRangeByte_39247 rfl rfl rfl (by decide +kernel) ⟨Nat.le_of_ble_eq_true rfl, Nat.le_of_ble_eq_true rfl⟩) ⟨fun a U g mk q => by obtain ⟨q0, q1, qP, qK, qD⟩ := q; exact ⟨q0, q1, qP, va_K.moved (u := U) (U := U.calling g mk a) (Vm.Alike.refl U.vm) qK, qD⟩, fun U hU hW => ⟨rfl, by rw [hU], by rw [hU]; exact hPc, va_K.moved hW.alike hKc, hDc.weaken (fun _ _ _ _ => trivial)⟩⟩ rfl rfl hl.1 rfl (lv_room (Nat.le_of_ble_eq_true rfl)) dJ7_copyOfRange_39247_13 ⟨Nat.le_of_ble_eq_true rfl, Nat.le_of_ble_eq_true rfl⟩) hS (fun q _ h => hFc q h) hFc (fun u ra t H1 locs ht hvm hw hB hz1 hk1 hS => ?_)
  obtain ⟨q1, cq2, f3, f3_t, hra, hP1, hK1, hD1⟩ := hB
  rw [hra]
  rw [ht] at hP1
  have hK1 := va_K.moved hvm.symm hK1
  obtain ⟨hP, hD⟩ := va_join (wr := []) (w1 := [(h0, .inl (k0, 16, .inl f0)), (q1, .inl (cq2, 3, .inl f3))]) hP hD [0] [] rfl rfl (by decide) (by decide) hk1 hFc hP1 hD1
  have hK := hK.app (hK1.sub (tys' := [(cq2, .byte)]) [1] rfl)
  generalize H1 = H at hP hS ⊢
  have hK : va_K (dC, dI) vwCl [(k0, .byte), (cq2, .byte)] s := hK
  have hP : va_P (dC, dI) vwCl [(h0, .inl (k0, 16, .inl f0)), (q1, .inl (cq2, 3, .inl f3))] H := hP
  have hD : va_D A [(h0, .inl (k0, 16, .inl f0)), (q1, .inl (cq2, 3, .inl f3))] := hD
  refine W.widen (k := 1) (n := 3) (by omega) (by omega) ?_
  exact W.aret (v := .ref q1) hx hb hr (Or.inr ⟨_, rfl⟩) (Or.inr ⟨_, rfl⟩) (fun t ht hW => ⟨⟨(), q1, rfl, trivial, q1, cq2, f3, f3_t, rfl, by rw [ht]; exact hP, va_K.moved hW.alike hK, hD⟩, hS.F ht⟩) hS.2.2 dJ7_copyOfRange_39247_16
set_option maxHeartbeats 4000000 in
set_option maxRecDepth 100000 in
theorem kx_J0_init_db425_3 (l : Launch) (dC : Nat → ClassId) (dI : Nat → Nat → Nat) (ge5 gea gv5 gva gde gic gi0 : Nat) (h0 : Nat) (h1 : Nat) (h2 : Nat) (k0 : ClassId) (sz : Nat) (f0 : Nat → Int32) (f0_t : sb_Fit f0) : Met l yJ0_init_db425 wsJ0_init_db425 ({ frames := 3, cells := 1, slots := 3, locals := 106 }) (va_Pc [.ref h2, .ref h0, .null] (fun U => U.heap.size = sz ∧ va_P (dC, dI) vwCl [(h0, .inr (1, [.ref h1, .int 0, .int 0, .int 3])), (h1, .inl (k0, 16, .inl f0)), (h2, .inr (0, [.null, .int 0, .int 0, .int 0]))] U.heap ∧ va_K (dC, dI) vwCl [(k0, .byte)] U ∧ va_D (fun _ => True) [(h0, .inr (1, [.ref h1, .int 0, .int 0, .int 3])), (h1, .inl (k0, 16, .inl f0)), (h2, .inr (0, [.null, .int 0, .int 0, .int 0]))] ∧ gv ge5 gea gv5 gva gde gic gi0 (va_A [(h0, .inr (1, [.ref h1, .int 0, .int 0, .int 3])), (h1, .inl (k0, 16, .inl f0)), (h2, .inr (0, [.null, .int 0, .int 0, .int 0]))] sz) U U.heap)) (va_Qv (fun _ : Unit => True) (fun (_ : Unit) (t : State) => ∃ q1 : Nat, ∃ cq2 : ClassId, ∃ f3 : Nat → Int32, sb_Fit f3 ∧ va_P (dC, dI) vwCl [(h0, .inr (1, [.ref h1, .int 0, .int 0, .int 3])), (h1, .inl (k0, 16, .inl f0)), (h2, .inr (0, [.ref q1, .int 0, .int 0, .int 0])), (q1, .inl (cq2, 3, .inl f3))] t.heap ∧ va_K (dC, dI) vwCl [(k0, .byte), (cq2, .byte)] t ∧ va_D (va_A [(h0, .inr (1, [.ref h1, .int 0, .int 0, .int 3])), (h1, .inl (k0, 16, .inl f0)), (h2, .inr (0, [.null, .int 0, .int 0, .int 0]))] sz) [(h0, .inr (1, [.ref h1, .int 0, .int 0, .int 3])), (h1, .inl (k0, 16, .inl f0)), (h2, .inr (0, [.ref q1, .int 0, .int 0, .int 0])), (q1, .inl (cq2, 3, .inl f3))]) (va_A [(h0, .inr (1, [.ref h1, .int 0, .int 0, .int 3])), (h1, .inl (k0, 16, .inl f0)), (h2, .inr (0, [.null, .int 0, .int 0, .int 0]))] sz)) 1 3 (va_A [(h0, .inr (1, [.ref h1, .int 0, .int 0, .int 3])), (h1, .inl (k0, 16, .inl f0)), (h2, .inr (0, [.null, .int 0, .int 0, .int 0]))] sz) := by
  refine Met.ofW (cc := cJ0_init_db425) (maxL := 5) (ret := none) (by decide) rfl ?_
  intro p e s m args below meth c s₁ B hml hv
  obtain ⟨rfl, hsz, hP, hK, hD0, hG⟩ := hv
  have hx := B.exec
  have hb := B.bytes
  have hr := B.returns
  have hts := atoms_spec (ws := wsJ0_init_db425) B.pre
  have hown : s.vm.findClass RJ0 = some m.cls := findClass_of_methodNamed B.named
  have hlocks := B.notSynchronized
  have hin : meth.name = "<init>" := (name_of_methodNamed B.named B.method).1
  subst hsz
  have hD := hD0.self (sz := s.heap.size)
  generalize hAe : va_A [(h0, .inr (1, [.ref h1, .int 0, .int 0, .int 3])), (h1, .inl (k0, 16, .inl f0)), (h2, .inr (0, [.null, .int 0, .int 0, .int 0]))] s.heap.size = A at hD hG ⊢
  obtain ⟨⟨g_AO_Text, g_AO_String, g_AO_Object, g_nm_RX1_20, g_nm_RX0_17, g_nm_RX3_31, g_nm_RX2_44, g_nm_RL_121, g_nf_RL_13, g_nf_RL_47, g_ca_IO, g_ca_IA, g_ca_IS, g_ca_IntObj, g_ca_StrObj, g_de_RT, g_de_EX, g_de_TH, g_nc_IA_IO, g_nc_IS_IO, g_nc_IS_IA⟩, ⟨g_s3, g_s5, g_sa, g_x278, g_x280, g_x282, g_x284, g_x286, g_x180, g_x238, g_x250⟩, ⟨g_o5, g_c5, g_v5, g_t5, g_oa, g_ca, g_va, g_ta, g_zc, g_zd, g_td, g_zf, g_zU, g_zN, g_zh, g_zk, g_tk, g_oi, g_vi⟩⟩ := id hG
  have hA : ∀ q : Nat, s.heap.size ≤ q → A q := fun q h => by rw [← hAe]; exact Or.inr h
  have hS : va_S A s.heap s.heap [] := va_S.rf
  have hP : va_P (dC, dI) vwCl [(h0, .inr (1, [.ref h1, .int 0, .int 0, .int 3])), (h1, .inl (k0, 16, .inl f0)), (h2, .inr (0, [.null, .int 0, .int 0, .int 0]))] s.heap := hP
  have hl := lv_entry ([.ref h2, .ref h0, .null]) (n := 5) (Nat.le_of_ble_eq_true rfl)
  rw [lg_entry_eq]
  generalize (lg_sl ([.ref h2, .ref h0, .null]) ++ List.replicate (5 - (lg_sl ([.ref h2, .ref h0, .null])).length) Slot.unset).toArray = ls at hl ⊢
  have hl : lv_has ls 5 [(0, .ref h2), (1, .ref h0), (2, .null)] := hl
  refine lv_aload_n hx hb dJ0_init_db425_0 rfl (lv_at hl 0 rfl) ?_
  refine W.objInit hx hb hown (hts (.methodLink RJ0 1 objectInit) (by decide +kernel)) (hts (.instanceMethod objectInit) (by decide +kernel)) (hts (.code objectInit ⟨#[0xb1]⟩ 1 none) (by decide +kernel)) rfl (by rw [hml]; exact hl.1) rfl dJ0_init_db425_1 (Nat.le_of_ble_eq_true rfl) (Nat.le_of_ble_eq_true rfl) ?_
  refine W.eq (g2 := F0 m 4 ls []) rfl ?_
  refine lv_aload_n hx hb dJ0_init_db425_4 rfl (lv_at hl 1 rfl) ?_
  have hPc := hP.sub (ws' := [(h0, .inr (1, [.ref h1, .int 0, .int 0, .int 3]))]) [0] rfl
  have hDc := hD.sub (ws' := [(h0, .inr (1, [.ref h1, .int 0, .int 0, .int 3]))]) [0] (by decide) rfl
  have hKc := hK.sub (tys' := []) [] rfl
  have hFc := va_free (wc := [(h0, .inr (1, [.ref h1, .int 0, .int 0, .int 3]))]) hD hS hA [0] rfl
  refine va_callr (va_runU (As := []) (rest := []) ⟨hx, hb, hml, hown, hts⟩ (kx_J5_getValue_6d5f1_3 l dC dI h0 h1 s.heap.size) (va_cwU 0 hts gJ0_init_db425_J5_getValue_6d5f1_u552J4 rfl rfl rfl rfl (by decide +kernel) ⟨Nat.le_of_ble_eq_true rfl, Nat.le_of_ble_eq_true rfl⟩) ⟨fun a U g mk q => by obtain ⟨q0, q1, qP, qK, qD⟩ := q; exact ⟨q0, q1, qP, va_K.moved (u := U) (U := U.calling g mk a) (Vm.Alike.refl U.vm) qK, qD⟩, va_recv hKc hPc (ci := 1) (q0 := 0) rfl rfl, fun U hU hW => ⟨rfl, by rw [hU], by rw [hU]; exact hPc, va_K.moved hW.alike hKc, hDc.weaken (fun _ _ _ _ => trivial)⟩⟩ rfl rfl hl.1 rfl (lv_room (Nat.le_of_ble_eq_true rfl)) dJ0_init_db425_5 ⟨Nat.le_of_ble_eq_true rfl, Nat.le_of_ble_eq_true rfl⟩) hS (fun q _ h => hFc q h) hFc (fun u ra t H1 locs ht hvm hw hB hz1 hk1 hS => ?_)
  obtain ⟨hra, hP1, hK1, hD1⟩ := hB
  rw [hra]
  rw [ht] at hP1
  have hK1 := va_K.moved hvm.symm hK1
  obtain ⟨hP, hD⟩ := va_join (wr := [(h1, .inl (k0, 16, .inl f0)), (h2, .inr (0, [.null, .int 0, .int 0, .int 0]))]) (w1 := [(h0, .inr (1, [.ref h1, .int 0, .int 0, .int 3]))]) hP hD [0] [1, 2] rfl rfl (by decide) (by decide) hk1 hFc hP1 hD1
  generalize H1 = H at hP hS ⊢
  have hP : va_P (dC, dI) vwCl [(h1, .inl (k0, 16, .inl f0)), (h2, .inr (0, [.null, .int 0, .int 0, .int 0])), (h0, .inr (1, [.ref h1, .int 0, .int 0, .int 3]))] H := hP
  have hD : va_D A [(h1, .inl (k0, 16, .inl f0)), (h2, .inr (0, [.null, .int 0, .int 0, .int 0])), (h0, .inr (1, [.ref h1, .int 0, .int 0, .int 3]))] := hD
  refine lv_astore_n (lv' := [(3, .ref h1), (0, .ref h2), (1, .ref h0), (2, .null)]) hx hb dJ0_init_db425_8 rfl hl (by decide) rfl (fun ls hl => ?_)
  refine lv_aload_n hx hb dJ0_init_db425_9 rfl (lv_at hl 2 rfl) ?_
  have hPc := hP.sub (ws' := [(h0, .inr (1, [.ref h1, .int 0, .int 0, .int 3]))]) [2] rfl
  have hDc := hD.sub (ws' := [(h0, .inr (1, [.ref h1, .int 0, .int 0, .int 3]))]) [2] (by decide) rfl
  have hKc := hK.sub (tys' := []) [] rfl
  have hFc := va_free (wc := [(h0, .inr (1, [.ref h1, .int 0, .int 0, .int 3]))]) hD hS hA [2] rfl
  refine va_calli (va_runU (As := []) (rest := []) ⟨hx, hb, hml, hown, hts⟩ (kx_J4_length_8abf5_3 l dC dI h0 h1 H.size) (va_cwO 0 hts gJ0_init_db425_J4_length_8abf5_u549J4 rfl rfl rfl (b0 := cJ5_length_8abf5) (m0 := 1) (r0 := (some .int)) (by decide +kernel) (by decide +kernel) ⟨Nat.le_of_ble_eq_true rfl, Nat.le_of_ble_eq_true rfl⟩) ⟨fun a U g mk q => by obtain ⟨q0, q1, qP, qK, qD⟩ := q; exact ⟨q0, q1, qP, va_K.moved (u := U) (U := U.calling g mk a) (Vm.Alike.refl U.vm) qK, qD⟩, va_recv hKc hPc (ci := 1) (q0 := 0) rfl rfl, fun U hU hW => ⟨rfl, by rw [hU], by rw [hU]; exact hPc, va_K.moved hW.alike hKc, hDc.weaken (fun _ _ _ _ => trivial)⟩⟩ rfl rfl hl.1 rfl (lv_room (Nat.le_of_ble_eq_true rfl)) dJ0_init_db425_10 ⟨Nat.le_of_ble_eq_true rfl, Nat.le_of_ble_eq_true rfl⟩) hS (fun q _ h => hFc q h) hFc (fun r9 u t H1 locs ht hvm hw hB hz1 hk1 hS => ?_)
  obtain rfl := hw
  obtain ⟨hP1, hK1, hD1⟩ := hB
  rw [ht] at hP1
  have hK1 := va_K.moved hvm.symm hK1
  obtain ⟨hP, hD⟩ := va_join (wr := [(h1, .inl (k0, 16, .inl f0)), (h2, .inr (0, [.null, .int 0, .int 0, .int 0]))]) (w1 := [(h0, .inr (1, [.ref h1, .int 0, .int 0, .int 3]))]) hP hD [2] [0, 1] rfl rfl (by decide) (by decide) hk1 hFc hP1 hD1
  generalize H1 = H at hP hS ⊢
  have hP : va_P (dC, dI) vwCl [(h1, .inl (k0, 16, .inl f0)), (h2, .inr (0, [.null, .int 0, .int 0, .int 0])), (h0, .inr (1, [.ref h1, .int 0, .int 0, .int 3]))] H := hP
  have hD : va_D A [(h1, .inl (k0, 16, .inl f0)), (h2, .inr (0, [.null, .int 0, .int 0, .int 0])), (h0, .inr (1, [.ref h1, .int 0, .int 0, .int 3]))] := hD
  refine lv_istore (lv' := [(4, .int 3), (3, .ref h1), (0, .ref h2), (1, .ref h0), (2, .null)]) hx hb dJ0_init_db425_13 hl (by decide) rfl (fun ls hl => ?_)
  refine lv_aload_n hx hb dJ0_init_db425_15 rfl (lv_at hl 3 rfl) ?_
  have hPc := hP.sub (ws' := [(h0, .inr (1, [.ref h1, .int 0, .int 0, .int 3]))]) [2] rfl
  have hDc := hD.sub (ws' := [(h0, .inr (1, [.ref h1, .int 0, .int 0, .int 3]))]) [2] (by decide) rfl
  have hKc := hK.sub (tys' := []) [] rfl
  have hFc := va_free (wc := [(h0, .inr (1, [.ref h1, .int 0, .int 0, .int 3]))]) hD hS hA [2] rfl
  refine va_calli (va_runU (As := []) (rest := []) ⟨hx, hb, hml, hown, hts⟩ (kx_J5_isLatin1_aae02_3 l dC dI ge5 gea gv5 gva gde gic gi0 h0 h1 H.size) (va_cwU 0 hts gJ0_init_db425_J5_isLatin1_aae02_u1047J4 rfl rfl rfl rfl (by decide +kernel) ⟨Nat.le_of_ble_eq_true rfl, Nat.le_of_ble_eq_true rfl⟩) ⟨fun a U g mk q => by obtain ⟨q0, q1, qP, qK, qD, qG⟩ := q; exact ⟨q0, q1, qP, va_K.moved (u := U) (U := U.calling g mk a) (Vm.Alike.refl U.vm) qK, qD, gv.fb qG⟩, va_recv hKc hPc (ci := 1) (q0 := 0) rfl rfl, fun U hU hW => ⟨rfl, by rw [hU], by rw [hU]; exact hPc, va_K.moved hW.alike hKc, hDc.weaken (fun _ _ _ _ => trivial), gv.pass hW hU hS hFc hG⟩⟩ rfl rfl hl.1 rfl (lv_room (Nat.le_of_ble_eq_true rfl)) dJ0_init_db425_16 ⟨Nat.le_of_ble_eq_true rfl, Nat.le_of_ble_eq_true rfl⟩) hS (fun q _ h => hFc q h) hFc (fun r9 u t H1 locs ht hvm hw hB hz1 hk1 hS => ?_)
  obtain rfl := hw
  obtain ⟨hP1, hK1, hD1⟩ := hB
  rw [ht] at hP1
  have hK1 := va_K.moved hvm.symm hK1
  obtain ⟨hP, hD⟩ := va_join (wr := [(h1, .inl (k0, 16, .inl f0)), (h2, .inr (0, [.null, .int 0, .int 0, .int 0]))]) (w1 := [(h0, .inr (1, [.ref h1, .int 0, .int 0, .int 3]))]) hP hD [2] [0, 1] rfl rfl (by decide) (by decide) hk1 hFc hP1 hD1
  generalize H1 = H at hP hS ⊢
  have hP : va_P (dC, dI) vwCl [(h1, .inl (k0, 16, .inl f0)), (h2, .inr (0, [.null, .int 0, .int 0, .int 0])), (h0, .inr (1, [.ref h1, .int 0, .int 0, .int 3]))] H := hP
  have hD : va_D A [(h1, .inl (k0, 16, .inl f0)), (h2, .inr (0, [.null, .int 0, .int 0, .int 0])), (h0, .inr (1, [.ref h1, .int 0, .int 0, .int 3]))] := hD
  refine lv_if_eq (tgt := 41) hx hb dJ0_init_db425_19 (by decide) (fun c9 => absurd c9 (by decide)) (fun _ => ?_)
  refine lv_aload_n hx hb dJ0_init_db425_22 rfl (lv_at hl 2 rfl) ?_
  refine lv_iconst (v := 0) hx hb dJ0_init_db425_23 (by decide) ?_
  refine va_putF (D := (dC, dI)) (ci := 0) (v := .int 0) (ty := .byte) (C := RJ0) (T := TJ0) (N := 4) hx hb hts (by decide +kernel) tyJ0 tyJ0_ok nmJ0 hown hK hP hD hS 1 rfl rfl 1 (by decide) (hts (.fieldLink RJ0 15 "java/lang/String" "coder" "B") (by decide +kernel)) (fun _ h9 => h9) rfl hin rfl (by decide +kernel) rfl rfl (Nat.le_of_ble_eq_true rfl) dJ0_init_db425_24 (fun H locs hP hD hS => ?_)
  have hP : va_P (dC, dI) vwCl [(h1, .inl (k0, 16, .inl f0)), (h2, .inr (0, [.null, .int 0, .int 0, .int 0])), (h0, .inr (1, [.ref h1, .int 0, .int 0, .int 3]))] H := hP
  have hD : va_D A [(h1, .inl (k0, 16, .inl f0)), (h2, .inr (0, [.null, .int 0, .int 0, .int 0])), (h0, .inr (1, [.ref h1, .int 0, .int 0, .int 3]))] := hD
  refine lv_aload_n hx hb dJ0_init_db425_27 rfl (lv_at hl 2 rfl) ?_
  refine lv_aload_n hx hb dJ0_init_db425_28 rfl (lv_at hl 1 rfl) ?_
  refine lv_iconst (v := 0) hx hb dJ0_init_db425_29 (by decide) ?_
  refine lv_iload hx hb dJ0_init_db425_30 (lv_at hl 0 rfl) ?_
  have hPc := hP.sub (ws' := [(h1, .inl (k0, 16, .inl f0))]) [0] rfl
  have hDc := hD.sub (ws' := [(h1, .inl (k0, 16, .inl f0))]) [0] (by decide) rfl
  have hKc := hK.sub (tys' := [(k0, .byte)]) [0] rfl
  have hFc := va_free (wc := [(h1, .inl (k0, 16, .inl f0))]) hD hS hA [0] rfl
  refine va_callr (va_runS (As := [.ref h1, .int 0, .int 3]) (rest := [.ref h2]) ⟨hx, hb, hml, hown, hts⟩ (kx_J7_copyOfRange_39247_3 l dC dI h1 k0 H.size f0 f0_t) (va_cwS 3 hts gJ0_init_db425_J7_copyOfRange_39247 rfl rfl rfl (by decide +kernel) ⟨Nat.le_of_ble_eq_true rfl, Nat.le_of_ble_eq_true rfl⟩) ⟨fun a U g mk q => by obtain ⟨q0, q1, qP, qK, qD⟩ := q; exact ⟨q0, q1, qP, va_K.moved (u := U) (U := U.calling g mk a) (Vm.Alike.refl U.vm) qK, qD⟩, fun U hU hW => ⟨rfl, by rw [hU], by rw [hU]; exact hPc, va_K.moved hW.alike hKc, hDc.weaken (fun _ _ _ _ => trivial)⟩⟩ rfl rfl hl.1 rfl (lv_room (Nat.le_of_ble_eq_true rfl)) dJ0_init_db425_32 ⟨Nat.le_of_ble_eq_true rfl, Nat.le_of_ble_eq_true rfl⟩) hS (fun q _ h => hFc q h) hFc (fun u ra t H1 locs ht hvm hw hB hz1 hk1 hS => ?_)
  obtain ⟨q1, cq2, f3, f3_t, hra, hP1, hK1, hD1⟩ := hB
  rw [hra]
  rw [ht] at hP1
  have hK1 := va_K.moved hvm.symm hK1
  obtain ⟨hP, hD⟩ := va_join (wr := [(h2, .inr (0, [.null, .int 0, .int 0, .int 0])), (h0, .inr (1, [.ref h1, .int 0, .int 0, .int 3]))]) (w1 := [(h1, .inl (k0, 16, .inl f0)), (q1, .inl (cq2, 3, .inl f3))]) hP hD [0] [1, 2] rfl rfl (by decide) (by decide) hk1 hFc hP1 hD1
  have hK := hK.app (hK1.sub (tys' := [(cq2, .byte)]) [1] rfl)
  generalize H1 = H at hP hS ⊢
  have hK : va_K (dC, dI) vwCl [(k0, .byte), (cq2, .byte)] s := hK
  have hP : va_P (dC, dI) vwCl [(h2, .inr (0, [.null, .int 0, .int 0, .int 0])), (h0, .inr (1, [.ref h1, .int 0, .int 0, .int 3])), (h1, .inl (k0, 16, .inl f0)), (q1, .inl (cq2, 3, .inl f3))] H := hP
  have hD : va_D A [(h2, .inr (0, [.null, .int 0, .int 0, .int 0])), (h0, .inr (1, [.ref h1, .int 0, .int 0, .int 3])), (h1, .inl (k0, 16, .inl f0)), (q1, .inl (cq2, 3, .inl f3))] := hD
  refine W.widen (k := 1) (n := 3) (by omega) (by omega) ?_
  refine va_putF (D := (dC, dI)) (ci := 0) (v := .ref q1) (ty := .array .byte) (C := RJ0) (T := TJ0) (N := 4) hx hb hts (by decide +kernel) tyJ0 tyJ0_ok nmJ0 hown hK hP hD hS 0 rfl rfl 0 (by decide) (hts (.fieldLink RJ0 9 "java/lang/String" "value" "[B") (by decide +kernel)) (fun _ h9 => h9) rfl hin rfl (by decide +kernel) rfl rfl (Nat.le_of_ble_eq_true rfl) dJ0_init_db425_35 (fun H locs hP hD hS => ?_)
  have hP : va_P (dC, dI) vwCl [(h2, .inr (0, [.ref q1, .int 0, .int 0, .int 0])), (h0, .inr (1, [.ref h1, .int 0, .int 0, .int 3])), (h1, .inl (k0, 16, .inl f0)), (q1, .inl (cq2, 3, .inl f3))] H := hP
  have hD : va_D A [(h2, .inr (0, [.ref q1, .int 0, .int 0, .int 0])), (h0, .inr (1, [.ref h1, .int 0, .int 0, .int 3])), (h1, .inl (k0, 16, .inl f0)), (q1, .inl (cq2, 3, .inl f3))] := hD
  refine lv_goto (tgt := 97) hx hb dJ0_init_db425_38 (by decide) ?_
  have hP := hP.sub (ws' := [(h0, .inr (1, [.ref h1, .int 0, .int 0, .int 3])), (h1, .inl (k0, 16, .inl f0)), (h2, .inr (0, [.ref q1, .int 0, .int 0, .int 0])), (q1, .inl (cq2, 3, .inl f3))]) [1, 2, 0, 3] rfl
  have hD := hD.sub (ws' := [(h0, .inr (1, [.ref h1, .int 0, .int 0, .int 3])), (h1, .inl (k0, 16, .inl f0)), (h2, .inr (0, [.ref q1, .int 0, .int 0, .int 0])), (q1, .inl (cq2, 3, .inl f3))]) [1, 2, 0, 3] (by decide) rfl
  exact W.vret hx hb hr (fun t ht hW => ⟨⟨(), rfl, trivial, q1, cq2, f3, f3_t, by rw [ht]; exact hP, va_K.moved hW.alike hK, hD⟩, hS.F ht⟩) hS.2.2 dJ0_init_db425_97
set_option maxHeartbeats 4000000 in
set_option maxRecDepth 100000 in
theorem kx_J0_init_81219_3 (l : Launch) (dC : Nat → ClassId) (dI : Nat → Nat → Nat) (ge5 gea gv5 gva gde gic gi0 : Nat) (h0 : Nat) (h1 : Nat) (h2 : Nat) (k0 : ClassId) (sz : Nat) (f0 : Nat → Int32) (f0_t : sb_Fit f0) : Met l yJ0_init_81219 wsJ0_init_81219 ({ frames := 4, cells := 1, slots := 3, locals := 130 }) (va_Pc [.ref h2, .ref h0] (fun U => U.heap.size = sz ∧ va_P (dC, dI) vwCl [(h0, .inr (1, [.ref h1, .int 0, .int 0, .int 3])), (h1, .inl (k0, 16, .inl f0)), (h2, .inr (0, [.null, .int 0, .int 0, .int 0]))] U.heap ∧ va_K (dC, dI) vwCl [(k0, .byte)] U ∧ va_D (fun _ => True) [(h0, .inr (1, [.ref h1, .int 0, .int 0, .int 3])), (h1, .inl (k0, 16, .inl f0)), (h2, .inr (0, [.null, .int 0, .int 0, .int 0]))] ∧ gv ge5 gea gv5 gva gde gic gi0 (va_A [(h0, .inr (1, [.ref h1, .int 0, .int 0, .int 3])), (h1, .inl (k0, 16, .inl f0)), (h2, .inr (0, [.null, .int 0, .int 0, .int 0]))] sz) U U.heap)) (va_Qv (fun _ : Unit => True) (fun (_ : Unit) (t : State) => ∃ q1 : Nat, ∃ cq2 : ClassId, ∃ f3 : Nat → Int32, sb_Fit f3 ∧ va_P (dC, dI) vwCl [(h0, .inr (1, [.ref h1, .int 0, .int 0, .int 3])), (h1, .inl (k0, 16, .inl f0)), (h2, .inr (0, [.ref q1, .int 0, .int 0, .int 0])), (q1, .inl (cq2, 3, .inl f3))] t.heap ∧ va_K (dC, dI) vwCl [(k0, .byte), (cq2, .byte)] t ∧ va_D (va_A [(h0, .inr (1, [.ref h1, .int 0, .int 0, .int 3])), (h1, .inl (k0, 16, .inl f0)), (h2, .inr (0, [.null, .int 0, .int 0, .int 0]))] sz) [(h0, .inr (1, [.ref h1, .int 0, .int 0, .int 3])), (h1, .inl (k0, 16, .inl f0)), (h2, .inr (0, [.ref q1, .int 0, .int 0, .int 0])), (q1, .inl (cq2, 3, .inl f3))]) (va_A [(h0, .inr (1, [.ref h1, .int 0, .int 0, .int 3])), (h1, .inl (k0, 16, .inl f0)), (h2, .inr (0, [.null, .int 0, .int 0, .int 0]))] sz)) 1 3 (va_A [(h0, .inr (1, [.ref h1, .int 0, .int 0, .int 3])), (h1, .inl (k0, 16, .inl f0)), (h2, .inr (0, [.null, .int 0, .int 0, .int 0]))] sz) := by
  refine Met.ofW (cc := cJ0_init_81219) (maxL := 2) (ret := none) (by decide) rfl ?_
  intro p e s m args below meth c s₁ B hml hv
  obtain ⟨rfl, hsz, hP, hK, hD0, hG⟩ := hv
  have hx := B.exec
  have hb := B.bytes
  have hr := B.returns
  have hts := atoms_spec (ws := wsJ0_init_81219) B.pre
  have hown : s.vm.findClass RJ0 = some m.cls := findClass_of_methodNamed B.named
  have hlocks := B.notSynchronized
  have hin : meth.name = "<init>" := (name_of_methodNamed B.named B.method).1
  subst hsz
  have hD := hD0.self (sz := s.heap.size)
  generalize hAe : va_A [(h0, .inr (1, [.ref h1, .int 0, .int 0, .int 3])), (h1, .inl (k0, 16, .inl f0)), (h2, .inr (0, [.null, .int 0, .int 0, .int 0]))] s.heap.size = A at hD hG ⊢
  obtain ⟨⟨g_AO_Text, g_AO_String, g_AO_Object, g_nm_RX1_20, g_nm_RX0_17, g_nm_RX3_31, g_nm_RX2_44, g_nm_RL_121, g_nf_RL_13, g_nf_RL_47, g_ca_IO, g_ca_IA, g_ca_IS, g_ca_IntObj, g_ca_StrObj, g_de_RT, g_de_EX, g_de_TH, g_nc_IA_IO, g_nc_IS_IO, g_nc_IS_IA⟩, ⟨g_s3, g_s5, g_sa, g_x278, g_x280, g_x282, g_x284, g_x286, g_x180, g_x238, g_x250⟩, ⟨g_o5, g_c5, g_v5, g_t5, g_oa, g_ca, g_va, g_ta, g_zc, g_zd, g_td, g_zf, g_zU, g_zN, g_zh, g_zk, g_tk, g_oi, g_vi⟩⟩ := id hG
  have hA : ∀ q : Nat, s.heap.size ≤ q → A q := fun q h => by rw [← hAe]; exact Or.inr h
  have hS : va_S A s.heap s.heap [] := va_S.rf
  have hP : va_P (dC, dI) vwCl [(h0, .inr (1, [.ref h1, .int 0, .int 0, .int 3])), (h1, .inl (k0, 16, .inl f0)), (h2, .inr (0, [.null, .int 0, .int 0, .int 0]))] s.heap := hP
  have hl := lv_entry ([.ref h2, .ref h0]) (n := 2) (Nat.le_of_ble_eq_true rfl)
  rw [lg_entry_eq]
  generalize (lg_sl ([.ref h2, .ref h0]) ++ List.replicate (2 - (lg_sl ([.ref h2, .ref h0])).length) Slot.unset).toArray = ls at hl ⊢
  have hl : lv_has ls 2 [(0, .ref h2), (1, .ref h0)] := hl
  refine lv_aload_n hx hb dJ0_init_81219_0 rfl (lv_at hl 0 rfl) ?_
  refine lv_aload_n hx hb dJ0_init_81219_1 rfl (lv_at hl 1 rfl) ?_
  refine lv_null hx hb dJ0_init_81219_2 ?_
  have hPc := hP.sub (ws' := [(h0, .inr (1, [.ref h1, .int 0, .int 0, .int 3])), (h1, .inl (k0, 16, .inl f0)), (h2, .inr (0, [.null, .int 0, .int 0, .int 0]))]) [0, 1, 2] rfl
  have hDc := hD.sub (ws' := [(h0, .inr (1, [.ref h1, .int 0, .int 0, .int 3])), (h1, .inl (k0, 16, .inl f0)), (h2, .inr (0, [.null, .int 0, .int 0, .int 0]))]) [0, 1, 2] (by decide) rfl
  have hKc := hK.sub (tys' := [(k0, .byte)]) [0] rfl
  have hFc := va_free (wc := [(h0, .inr (1, [.ref h1, .int 0, .int 0, .int 3])), (h1, .inl (k0, 16, .inl f0)), (h2, .inr (0, [.null, .int 0, .int 0, .int 0]))]) hD hS hA [0, 1, 2] rfl
  refine va_callv (va_runI (As := [.ref h0, .null]) (rest := []) ⟨hx, hb, hml, hown, hts⟩ (kx_J0_init_db425_3 l dC dI ge5 gea gv5 gva gde gic gi0 h0 h1 h2 k0 s.heap.size f0 f0_t) (cwI 2 hts gJ0_init_81219_J0_init_db425 rfl rfl rfl (hts (.initialized RJ0) (by decide +kernel)) (hts (.methodLink RJ0 489 yJ0_init_db425) (by decide +kernel)) (hts (.instanceMethod yJ0_init_db425) (by decide +kernel)) rfl (by decide +kernel) ⟨Nat.le_of_ble_eq_true rfl, Nat.le_of_ble_eq_true rfl⟩) ⟨fun a U g mk q => by obtain ⟨q0, q1, qP, qK, qD, qG⟩ := q; exact ⟨q0, q1, qP, va_K.moved (u := U) (U := U.calling g mk a) (Vm.Alike.refl U.vm) qK, qD, gv.fb qG⟩, fun U hU hW => ⟨rfl, by rw [hU], by rw [hU]; exact hPc, va_K.moved hW.alike hKc, hDc.weaken (fun _ _ _ _ => trivial), gv.pass hW hU hS hFc hG⟩⟩ rfl rfl hl.1 rfl (lv_room (Nat.le_of_ble_eq_true rfl)) dJ0_init_81219_3 ⟨Nat.le_of_ble_eq_true rfl, Nat.le_of_ble_eq_true rfl⟩) hS (fun q _ h => hFc q h) hFc (fun u t H1 locs ht hvm hw hB hz1 hk1 hS => ?_)
  obtain ⟨q1, cq2, f3, f3_t, hP1, hK1, hD1⟩ := hB
  rw [ht] at hP1
  have hK1 := va_K.moved hvm.symm hK1
  obtain ⟨hP, hD⟩ := va_join (wr := []) (w1 := [(h0, .inr (1, [.ref h1, .int 0, .int 0, .int 3])), (h1, .inl (k0, 16, .inl f0)), (h2, .inr (0, [.ref q1, .int 0, .int 0, .int 0])), (q1, .inl (cq2, 3, .inl f3))]) hP hD [0, 1, 2] [] rfl rfl (by decide) (by decide) hk1 hFc hP1 hD1
  have hK := hK.app (hK1.sub (tys' := [(cq2, .byte)]) [1] rfl)
  generalize H1 = H at hP hS ⊢
  have hK : va_K (dC, dI) vwCl [(k0, .byte), (cq2, .byte)] s := hK
  have hP : va_P (dC, dI) vwCl [(h0, .inr (1, [.ref h1, .int 0, .int 0, .int 3])), (h1, .inl (k0, 16, .inl f0)), (h2, .inr (0, [.ref q1, .int 0, .int 0, .int 0])), (q1, .inl (cq2, 3, .inl f3))] H := hP
  have hD : va_D A [(h0, .inr (1, [.ref h1, .int 0, .int 0, .int 3])), (h1, .inl (k0, 16, .inl f0)), (h2, .inr (0, [.ref q1, .int 0, .int 0, .int 0])), (q1, .inl (cq2, 3, .inl f3))] := hD
  refine W.widen (k := 1) (n := 3) (by omega) (by omega) ?_
  exact W.vret hx hb hr (fun t ht hW => ⟨⟨(), rfl, trivial, q1, cq2, f3, f3_t, by rw [ht]; exact hP, va_K.moved hW.alike hK, hD⟩, hS.F ht⟩) hS.2.2 dJ0_init_81219_6
set_option maxHeartbeats 4000000 in
set_option maxRecDepth 100000 in
theorem kx_J4_toString_0e30d_3 (l : Launch) (dC : Nat → ClassId) (dI : Nat → Nat → Nat) (ge5 gea gv5 gva gde gic gi0 : Nat) (h0 : Nat) (h1 : Nat) (k0 : ClassId) (sz : Nat) (f0 : Nat → Int32) (f0_t : sb_Fit f0) : Met l yJ4_toString_0e30d wsJ4_toString_0e30d ({ frames := 5, cells := 2, slots := 7, locals := 151 }) (va_Pc [.ref h0] (fun U => U.heap.size = sz ∧ va_P (dC, dI) vwCl [(h0, .inr (1, [.ref h1, .int 0, .int 0, .int 3])), (h1, .inl (k0, 16, .inl f0))] U.heap ∧ va_K (dC, dI) vwCl [(k0, .byte)] U ∧ va_D (fun _ => True) [(h0, .inr (1, [.ref h1, .int 0, .int 0, .int 3])), (h1, .inl (k0, 16, .inl f0))] ∧ gv ge5 gea gv5 gva gde gic gi0 (va_A [(h0, .inr (1, [.ref h1, .int 0, .int 0, .int 3])), (h1, .inl (k0, 16, .inl f0))] sz) U U.heap)) (va_Qr (fun _ : Unit => True) (fun (_ : Unit) (ra : Nat) (t : State) => ∃ q1 : Nat, ∃ q2 : Nat, ∃ cq3 : ClassId, ∃ f4 : Nat → Int32, sb_Fit f4 ∧ ra = q1 ∧ va_P (dC, dI) vwCl [(h0, .inr (1, [.ref h1, .int 0, .int 0, .int 3])), (h1, .inl (k0, 16, .inl f0)), (q1, .inr (0, [.ref q2, .int 0, .int 0, .int 0])), (q2, .inl (cq3, 3, .inl f4))] t.heap ∧ va_K (dC, dI) vwCl [(k0, .byte), (cq3, .byte)] t ∧ va_D (va_A [(h0, .inr (1, [.ref h1, .int 0, .int 0, .int 3])), (h1, .inl (k0, 16, .inl f0))] sz) [(h0, .inr (1, [.ref h1, .int 0, .int 0, .int 3])), (h1, .inl (k0, 16, .inl f0)), (q1, .inr (0, [.ref q2, .int 0, .int 0, .int 0])), (q2, .inl (cq3, 3, .inl f4))]) (va_A [(h0, .inr (1, [.ref h1, .int 0, .int 0, .int 3])), (h1, .inl (k0, 16, .inl f0))] sz)) 2 7 (va_A [(h0, .inr (1, [.ref h1, .int 0, .int 0, .int 3])), (h1, .inl (k0, 16, .inl f0))] sz) := by
  refine Met.ofW (cc := cJ4_toString_0e30d) (maxL := 1) (ret := (some (.object "java/lang/String"))) (by decide) rfl ?_
  intro p e s m args below meth c s₁ B hml hv
  obtain ⟨rfl, hsz, hP, hK, hD0, hG⟩ := hv
  have hx := B.exec
  have hb := B.bytes
  have hr := B.returns
  have hts := atoms_spec (ws := wsJ4_toString_0e30d) B.pre
  have hown : s.vm.findClass RJ4 = some m.cls := findClass_of_methodNamed B.named
  have hlocks := B.notSynchronized
  subst hsz
  have hD := hD0.self (sz := s.heap.size)
  generalize hAe : va_A [(h0, .inr (1, [.ref h1, .int 0, .int 0, .int 3])), (h1, .inl (k0, 16, .inl f0))] s.heap.size = A at hD hG ⊢
  obtain ⟨⟨g_AO_Text, g_AO_String, g_AO_Object, g_nm_RX1_20, g_nm_RX0_17, g_nm_RX3_31, g_nm_RX2_44, g_nm_RL_121, g_nf_RL_13, g_nf_RL_47, g_ca_IO, g_ca_IA, g_ca_IS, g_ca_IntObj, g_ca_StrObj, g_de_RT, g_de_EX, g_de_TH, g_nc_IA_IO, g_nc_IS_IO, g_nc_IS_IA⟩, ⟨g_s3, g_s5, g_sa, g_x278, g_x280, g_x282, g_x284, g_x286, g_x180, g_x238, g_x250⟩, ⟨g_o5, g_c5, g_v5, g_t5, g_oa, g_ca, g_va, g_ta, g_zc, g_zd, g_td, g_zf, g_zU, g_zN, g_zh, g_zk, g_tk, g_oi, g_vi⟩⟩ := id hG
  have hA : ∀ q : Nat, s.heap.size ≤ q → A q := fun q h => by rw [← hAe]; exact Or.inr h
  have hS : va_S A s.heap s.heap [] := va_S.rf
  have hP : va_P (dC, dI) vwCl [(h0, .inr (1, [.ref h1, .int 0, .int 0, .int 3])), (h1, .inl (k0, 16, .inl f0))] s.heap := hP
  have hl := lv_entry ([.ref h0]) (n := 1) (Nat.le_of_ble_eq_true rfl)
  rw [lg_entry_eq]
  generalize (lg_sl ([.ref h0]) ++ List.replicate (1 - (lg_sl ([.ref h0])).length) Slot.unset).toArray = ls at hl ⊢
  have hl : lv_has ls 1 [(0, .ref h0)] := hl
  refine va_new (ci := 0) (fs := [.null, .int 0, .int 0, .int 0]) (C := RJ0) (T := TJ0) (N := 4) hx hb hts (by decide +kernel) tyJ0 tyJ0_ok hown (hts (.classLink RJ4 18 RJ0) (by decide +kernel)) (hts (.instantiable RJ0 4) (by decide +kernel)) (hts (.initialized RJ0) (by decide +kernel)) hK hP hD hS hA rfl (fun j hj => by rcases (show j = 0 ∨ j = 1 ∨ j = 2 ∨ j = 3 by omega) with rfl | rfl | rfl | rfl <;> rfl) (Nat.le_of_ble_eq_true rfl) (Nat.le_of_ble_eq_true rfl) dJ4_toString_0e30d_0 (fun q1 H hP hD hS => ?_)
  have hP : va_P (dC, dI) vwCl [(h0, .inr (1, [.ref h1, .int 0, .int 0, .int 3])), (h1, .inl (k0, 16, .inl f0)), (q1, .inr (0, [.null, .int 0, .int 0, .int 0]))] H := hP
  have hD : va_D A [(h0, .inr (1, [.ref h1, .int 0, .int 0, .int 3])), (h1, .inl (k0, 16, .inl f0)), (q1, .inr (0, [.null, .int 0, .int 0, .int 0]))] := hD
  refine W.widen (k := 1) (n := 4) (by omega) (by omega) ?_
  refine lv_dup hx hb dJ4_toString_0e30d_3 rfl ?_
  refine lv_aload_n hx hb dJ4_toString_0e30d_4 rfl (lv_at hl 0 rfl) ?_
  have hPc := hP.sub (ws' := [(h0, .inr (1, [.ref h1, .int 0, .int 0, .int 3])), (h1, .inl (k0, 16, .inl f0)), (q1, .inr (0, [.null, .int 0, .int 0, .int 0]))]) [0, 1, 2] rfl
  have hDc := hD.sub (ws' := [(h0, .inr (1, [.ref h1, .int 0, .int 0, .int 3])), (h1, .inl (k0, 16, .inl f0)), (q1, .inr (0, [.null, .int 0, .int 0, .int 0]))]) [0, 1, 2] (by decide) rfl
  have hKc := hK.sub (tys' := [(k0, .byte)]) [0] rfl
  have hFc := va_free (wc := [(h0, .inr (1, [.ref h1, .int 0, .int 0, .int 3])), (h1, .inl (k0, 16, .inl f0)), (q1, .inr (0, [.null, .int 0, .int 0, .int 0]))]) hD hS hA [0, 1, 2] rfl
  refine va_callv (va_runI (As := [.ref h0]) (rest := [.ref q1]) ⟨hx, hb, hml, hown, hts⟩ (kx_J0_init_81219_3 l dC dI ge5 gea gv5 gva gde gic gi0 h0 h1 q1 k0 H.size f0 f0_t) (cwI 1 hts gJ4_toString_0e30d_J0_init_81219 rfl rfl rfl (hts (.initialized RJ0) (by decide +kernel)) (hts (.methodLink RJ4 137 yJ0_init_81219) (by decide +kernel)) (hts (.instanceMethod yJ0_init_81219) (by decide +kernel)) rfl (by decide +kernel) ⟨Nat.le_of_ble_eq_true rfl, Nat.le_of_ble_eq_true rfl⟩) ⟨fun a U g mk q => by obtain ⟨q0, q1, qP, qK, qD, qG⟩ := q; exact ⟨q0, q1, qP, va_K.moved (u := U) (U := U.calling g mk a) (Vm.Alike.refl U.vm) qK, qD, gv.fb qG⟩, fun U hU hW => ⟨rfl, by rw [hU], by rw [hU]; exact hPc, va_K.moved hW.alike hKc, hDc.weaken (fun _ _ _ _ => trivial), gv.pass hW hU hS hFc hG⟩⟩ rfl rfl hl.1 rfl (lv_room (Nat.le_of_ble_eq_true rfl)) dJ4_toString_0e30d_5 ⟨Nat.le_of_ble_eq_true rfl, Nat.le_of_ble_eq_true rfl⟩) hS (fun q _ h => hFc q h) hFc (fun u t H1 locs ht hvm hw hB hz1 hk1 hS => ?_)
  obtain ⟨q2, cq3, f4, f4_t, hP1, hK1, hD1⟩ := hB
  rw [ht] at hP1
  have hK1 := va_K.moved hvm.symm hK1
  obtain ⟨hP, hD⟩ := va_join (wr := []) (w1 := [(h0, .inr (1, [.ref h1, .int 0, .int 0, .int 3])), (h1, .inl (k0, 16, .inl f0)), (q1, .inr (0, [.ref q2, .int 0, .int 0, .int 0])), (q2, .inl (cq3, 3, .inl f4))]) hP hD [0, 1, 2] [] rfl rfl (by decide) (by decide) hk1 hFc hP1 hD1
  have hK := hK.app (hK1.sub (tys' := [(cq3, .byte)]) [1] rfl)
  generalize H1 = H at hP hS ⊢
  have hK : va_K (dC, dI) vwCl [(k0, .byte), (cq3, .byte)] s := hK
  have hP : va_P (dC, dI) vwCl [(h0, .inr (1, [.ref h1, .int 0, .int 0, .int 3])), (h1, .inl (k0, 16, .inl f0)), (q1, .inr (0, [.ref q2, .int 0, .int 0, .int 0])), (q2, .inl (cq3, 3, .inl f4))] H := hP
  have hD : va_D A [(h0, .inr (1, [.ref h1, .int 0, .int 0, .int 3])), (h1, .inl (k0, 16, .inl f0)), (q1, .inr (0, [.ref q2, .int 0, .int 0, .int 0])), (q2, .inl (cq3, 3, .inl f4))] := hD
  refine W.widen (k := 2) (n := 7) (by omega) (by omega) ?_
  exact W.aret (v := .ref q1) hx hb hr (Or.inl ⟨_, rfl⟩) (Or.inr ⟨_, rfl⟩) (fun t ht hW => ⟨⟨(), q1, rfl, trivial, q1, q2, cq3, f4, f4_t, rfl, by rw [ht]; exact hP, va_K.moved hW.alike hK, hD⟩, hS.F ht⟩) hS.2.2 dJ4_toString_0e30d_8
set_option maxHeartbeats 8000000 in
set_option maxRecDepth 100000 in
theorem kx_X5_type_h530 {l : Launch} {dC : Nat → ClassId} {dI : Nat → Nat → Nat} {ge5 gea gv5 gva gde gic gi0 : Nat} {h0 h1 h2 h3 h4 z0 z1 : Nat} {k0 k1 k2 : ClassId} {rp l1 l2 l3 l4 l5 R v : Int32} {p : Program} {e : Env} {s : State} {m : MethodId} {args : Array Value} {below : List Frame} {meth : Method} {c : Code} {A : Nat → Prop} {H : Heap} {locs : List Loc} {ls : Array Slot} {f0 : Nat → Int32} (f0_t : sb_Fit f0) (hR : kz_ty rp 3 0 [] = (R, v)) (hx : p.tables.exec = Jvm.exec) (hb : c.code = cX5_type) (hr : meth.sig.returnType = some .int) (hml : c.maxLocals = 14) (hown : s.vm.findClass RX5 = some m.cls) (hts : ∀ w ∈ wsX5_type, w.before args s = true) (hlocks : meth.locks = false) (hA : ∀ q : Nat, s.heap.size ≤ q → A q) (hG : gv ge5 gea gv5 gva gde gic gi0 A s s.heap) (hS : va_S A s.heap H locs) (hK : va_K (dC, dI) vwCl [(k0, .object "java/lang/String"), (k1, .int), (k2, .byte)] s) (hP : va_P (dC, dI) vwCl [(h0, .inr (9, [.int 0, .ref h1, .ref z0, .ref z1, .int 0, .int 0, .int 0])), (h1, .inl (k0, 4, .inr (.inr (.inr (.inr (va_up (va_up (va_up (va_up (fun _ => none) 0 (some ge5)) 1 (some ge5)) 2 (some ge5)) 3 (some ge5))))))), (h2, .inl (k1, 5, .inl (upd (upd (upd (upd (upd (fun _ => 0) 0 l1) 1 l2) 2 l3) 3 l4) 4 l5))), (h3, .inr (0, [.ref h4, .int 0, .int 0, .int 0])), (h4, .inl (k2, 3, .inl f0))] H) (hD : va_D A [(h0, .inr (9, [.int 0, .ref h1, .ref z0, .ref z1, .int 0, .int 0, .int 0])), (h1, .inl (k0, 4, .inr (.inr (.inr (.inr (va_up (va_up (va_up (va_up (fun _ => none) 0 (some ge5)) 1 (some ge5)) 2 (some ge5)) 3 (some ge5))))))), (h2, .inl (k1, 5, .inl (upd (upd (upd (upd (upd (fun _ => 0) 0 l1) 1 l2) 2 l3) 3 l4) 4 l5))), (h3, .inr (0, [.ref h4, .int 0, .int 0, .int 0])), (h4, .inl (k2, 3, .inl f0))]) (hl : lv_has ls 14 [(0, .ref h0), (1, .int rp), (7, .ref h2), (8, .int 0), (9, .ref h3), (10, .ref h2), (11, .int 5), (12, .int 5)]) : W p l e (headSpec wsX5_type ({ frames := 6, cells := 25, slots := 169, locals := 171 })).room s m args below meth c H locs 13 83 (MQ below (va_Qi (fun (r : Int32) (_ : Unit) => r = R) (fun (_ : Unit) (t : State) => va_P (dC, dI) vwCl [(h0, .inr (9, [.int v, .ref h1, .ref z0, .ref z1, .int 0, .int 0, .int 0]))] t.heap ∧ va_K (dC, dI) vwCl [(k0, .object "java/lang/String")] t ∧ va_D A [(h0, .inr (9, [.int v, .ref h1, .ref z0, .ref z1, .int 0, .int 0, .int 0]))]) A) args s 25 169 A) (F0 m 47 ls []) := by
  obtain ⟨⟨g_AO_Text, g_AO_String, g_AO_Object, g_nm_RX1_20, g_nm_RX0_17, g_nm_RX3_31, g_nm_RX2_44, g_nm_RL_121, g_nf_RL_13, g_nf_RL_47, g_ca_IO, g_ca_IA, g_ca_IS, g_ca_IntObj, g_ca_StrObj, g_de_RT, g_de_EX, g_de_TH, g_nc_IA_IO, g_nc_IS_IO, g_nc_IS_IA⟩, ⟨g_s3, g_s5, g_sa, g_x278, g_x280, g_x282, g_x284, g_x286, g_x180, g_x238, g_x250⟩, ⟨g_o5, g_c5, g_v5, g_t5, g_oa, g_ca, g_va, g_ta, g_zc, g_zd, g_td, g_zf, g_zU, g_zN, g_zh, g_zk, g_tk, g_oi, g_vi⟩⟩ := id hG
  have a9 := Int32.le_toInt rp
  have b9 := Int32.toInt_lt rp
  rcases Int.lt_or_le rp.toInt 0 with r9 | r9
  · have rp_l : ((-2147483648) : Int) ≤ rp.toInt := by omega
    have rp_u : rp.toInt ≤ ((-1) : Int) := by omega
    have hR9 : ((0 : Int32), (1 : Int32)) = (R, v) := (show ((0 : Int32), (1 : Int32)) = kz_ty rp 3 0 [] from ((kz_ty_R0 (by omega) [] 3 0).trans (by decide)).symm).trans hR
    obtain ⟨rfl, rfl⟩ := Prod.mk.inj hR9
    refine lv_iload hx hb dX5_type_47 (lv_at hl 7 rfl) ?_
    refine lv_iload hx hb dX5_type_49 (lv_at hl 6 rfl) ?_
    refine lv_icmp_ge (tgt := 124) hx hb dX5_type_51 (by decide) (fun _ => ?_) (fun c9 => absurd (by decide) c9)
    refine lv_aload_n hx hb dX5_type_124 rfl (lv_at hl 0 rfl) ?_
    refine lv_iload_n hx hb dX5_type_125 rfl (lv_at hl 1 rfl) ?_
    have hPc := hP.sub (ws' := []) [] rfl
    have hDc := hD.sub (ws' := []) [] (by decide) rfl
    have hKc := hK.sub (tys' := []) [] rfl
    have hFc := va_free (wc := []) hD hS hA [] rfl
    refine va_calli (va_runS (As := [.int rp]) (rest := [.ref h0]) ⟨hx, hb, hml, hown, hts⟩ (kx_X5_isNo_0 l dC dI H.size rp rp_l rp_u) (cwS 1 hts gX5_type_X5_isNo rfl rfl rfl (by decide +kernel) ⟨Nat.le_of_ble_eq_true rfl, Nat.le_of_ble_eq_true rfl⟩) ⟨fun a U g mk q => by obtain ⟨q0, q1, qP, qK, qD⟩ := q; exact ⟨q0, q1, qP, va_K.moved (u := U) (U := U.calling g mk a) (Vm.Alike.refl U.vm) qK, qD⟩, fun U hU hW => ⟨rfl, by rw [hU], by rw [hU]; exact hPc, va_K.moved hW.alike hKc, hDc.weaken (fun _ _ _ _ => trivial)⟩⟩ rfl rfl hl.1 rfl (lv_room (Nat.le_of_ble_eq_true rfl)) dX5_type_126 ⟨Nat.le_of_ble_eq_true rfl, Nat.le_of_ble_eq_true rfl⟩) hS (fun q _ h => hFc q h) hFc (fun r9 u t H1 locs ht hvm hw hB hz1 hk1 hS => ?_)
    obtain rfl := hw
    obtain ⟨hP1, hK1, hD1⟩ := hB
    rw [ht] at hP1
    have hK1 := va_K.moved hvm.symm hK1
    obtain ⟨hP, hD⟩ := va_join (wr := [(h0, .inr (9, [.int 0, .ref h1, .ref z0, .ref z1, .int 0, .int 0, .int 0])), (h1, .inl (k0, 4, .inr (.inr (.inr (.inr (va_up (va_up (va_up (va_up (fun _ => none) 0 (some ge5)) 1 (some ge5)) 2 (some ge5)) 3 (some ge5))))))), (h2, .inl (k1, 5, .inl (upd (upd (upd (upd (upd (fun _ => 0) 0 l1) 1 l2) 2 l3) 3 l4) 4 l5))), (h3, .inr (0, [.ref h4, .int 0, .int 0, .int 0])), (h4, .inl (k2, 3, .inl f0))]) (w1 := []) hP hD [] [0, 1, 2, 3, 4] rfl rfl (by decide) (by decide) hk1 hFc hP1 hD1
    generalize H1 = H at hP hS ⊢
    have hP : va_P (dC, dI) vwCl [(h0, .inr (9, [.int 0, .ref h1, .ref z0, .ref z1, .int 0, .int 0, .int 0])), (h1, .inl (k0, 4, .inr (.inr (.inr (.inr (va_up (va_up (va_up (va_up (fun _ => none) 0 (some ge5)) 1 (some ge5)) 2 (some ge5)) 3 (some ge5))))))), (h2, .inl (k1, 5, .inl (upd (upd (upd (upd (upd (fun _ => 0) 0 l1) 1 l2) 2 l3) 3 l4) 4 l5))), (h3, .inr (0, [.ref h4, .int 0, .int 0, .int 0])), (h4, .inl (k2, 3, .inl f0))] H := hP
    have hD : va_D A [(h0, .inr (9, [.int 0, .ref h1, .ref z0, .ref z1, .int 0, .int 0, .int 0])), (h1, .inl (k0, 4, .inr (.inr (.inr (.inr (va_up (va_up (va_up (va_up (fun _ => none) 0 (some ge5)) 1 (some ge5)) 2 (some ge5)) 3 (some ge5))))))), (h2, .inl (k1, 5, .inl (upd (upd (upd (upd (upd (fun _ => 0) 0 l1) 1 l2) 2 l3) 3 l4) 4 l5))), (h3, .inr (0, [.ref h4, .int 0, .int 0, .int 0])), (h4, .inl (k2, 3, .inl f0))] := hD
    refine lv_iload hx hb dX5_type_129 (lv_at hl 3 rfl) ?_
    refine lv_iload_n hx hb dX5_type_131 rfl (lv_at hl 1 rfl) ?_
    have hPc := hP.sub (ws' := []) [] rfl
    have hDc := hD.sub (ws' := []) [] (by decide) rfl
    have hKc := hK.sub (tys' := []) [] rfl
    have hFc := va_free (wc := []) hD hS hA [] rfl
    refine va_calli (va_runS (As := [.int rp]) (rest := [.int 0, .int 1, .ref h0]) ⟨hx, hb, hml, hown, hts⟩ (kx_X5_isNo_0 l dC dI H.size rp rp_l rp_u) (cwS 1 hts gX5_type_X5_isNo rfl rfl rfl (by decide +kernel) ⟨Nat.le_of_ble_eq_true rfl, Nat.le_of_ble_eq_true rfl⟩) ⟨fun a U g mk q => by obtain ⟨q0, q1, qP, qK, qD⟩ := q; exact ⟨q0, q1, qP, va_K.moved (u := U) (U := U.calling g mk a) (Vm.Alike.refl U.vm) qK, qD⟩, fun U hU hW => ⟨rfl, by rw [hU], by rw [hU]; exact hPc, va_K.moved hW.alike hKc, hDc.weaken (fun _ _ _ _ => trivial)⟩⟩ rfl rfl hl.1 rfl (lv_room (Nat.le_of_ble_eq_true rfl)) dX5_type_132 ⟨Nat.le_of_ble_eq_true rfl, Nat.le_of_ble_eq_true rfl⟩) hS (fun q _ h => hFc q h) hFc (fun r9 u t H1 locs ht hvm hw hB hz1 hk1 hS => ?_)
    obtain rfl := hw
    obtain ⟨hP1, hK1, hD1⟩ := hB
    rw [ht] at hP1
    have hK1 := va_K.moved hvm.symm hK1
    obtain ⟨hP, hD⟩ := va_join (wr := [(h0, .inr (9, [.int 0, .ref h1, .ref z0, .ref z1, .int 0, .int 0, .int 0])), (h1, .inl (k0, 4, .inr (.inr (.inr (.inr (va_up (va_up (va_up (va_up (fun _ => none) 0 (some ge5)) 1 (some ge5)) 2 (some ge5)) 3 (some ge5))))))), (h2, .inl (k1, 5, .inl (upd (upd (upd (upd (upd (fun _ => 0) 0 l1) 1 l2) 2 l3) 3 l4) 4 l5))), (h3, .inr (0, [.ref h4, .int 0, .int 0, .int 0])), (h4, .inl (k2, 3, .inl f0))]) (w1 := []) hP hD [] [0, 1, 2, 3, 4] rfl rfl (by decide) (by decide) hk1 hFc hP1 hD1
    generalize H1 = H at hP hS ⊢
    have hP : va_P (dC, dI) vwCl [(h0, .inr (9, [.int 0, .ref h1, .ref z0, .ref z1, .int 0, .int 0, .int 0])), (h1, .inl (k0, 4, .inr (.inr (.inr (.inr (va_up (va_up (va_up (va_up (fun _ => none) 0 (some ge5)) 1 (some ge5)) 2 (some ge5)) 3 (some ge5))))))), (h2, .inl (k1, 5, .inl (upd (upd (upd (upd (upd (fun _ => 0) 0 l1) 1 l2) 2 l3) 3 l4) 4 l5))), (h3, .inr (0, [.ref h4, .int 0, .int 0, .int 0])), (h4, .inl (k2, 3, .inl f0))] H := hP
    have hD : va_D A [(h0, .inr (9, [.int 0, .ref h1, .ref z0, .ref z1, .int 0, .int 0, .int 0])), (h1, .inl (k0, 4, .inr (.inr (.inr (.inr (va_up (va_up (va_up (va_up (fun _ => none) 0 (some ge5)) 1 (some ge5)) 2 (some ge5)) 3 (some ge5))))))), (h2, .inl (k1, 5, .inl (upd (upd (upd (upd (upd (fun _ => 0) 0 l1) 1 l2) 2 l3) 3 l4) 4 l5))), (h3, .inr (0, [.ref h4, .int 0, .int 0, .int 0])), (h4, .inl (k2, 3, .inl f0))] := hD
    refine lv_if_ne (tgt := 162) hx hb dX5_type_135 (by decide) (fun _ => ?_) (fun c9 => absurd c9 (by decide))
    refine lv_iconst (v := 0) hx hb dX5_type_162 (by decide) ?_
    have hPc := hP.sub (ws' := [(h0, .inr (9, [.int 0, .ref h1, .ref z0, .ref z1, .int 0, .int 0, .int 0]))]) [0] rfl
    have hDc := hD.sub (ws' := [(h0, .inr (9, [.int 0, .ref h1, .ref z0, .ref z1, .int 0, .int 0, .int 0]))]) [0] (by decide) rfl
    have hKc := hK.sub (tys' := []) [] rfl
    have hFc := va_free (wc := [(h0, .inr (9, [.int 0, .ref h1, .ref z0, .ref z1, .int 0, .int 0, .int 0]))]) hD hS hA [0] rfl
    refine va_calli (va_runV (As := [.int 1, .int 0, .int 0]) (rest := []) ⟨hx, hb, hml, hown, hts⟩ (kx_X5_fails_0 l dC dI h0 h1 z0 z1 H.size) (cwV 3 hts gX5_type_X5_fails rfl rfl rfl (by decide +kernel) ⟨Nat.le_of_ble_eq_true rfl, Nat.le_of_ble_eq_true rfl⟩) ⟨fun a U g mk q => by obtain ⟨q0, q1, qP, qK, qD⟩ := q; exact ⟨q0, q1, qP, va_K.moved (u := U) (U := U.calling g mk a) (Vm.Alike.refl U.vm) qK, qD⟩, va_recv hKc hPc (ci := 9) (q0 := 0) rfl rfl, fun U hU hW => ⟨rfl, by rw [hU], by rw [hU]; exact hPc, va_K.moved hW.alike hKc, hDc.weaken (fun _ _ _ _ => trivial)⟩⟩ rfl rfl hl.1 rfl (lv_room (Nat.le_of_ble_eq_true rfl)) dX5_type_163 ⟨Nat.le_of_ble_eq_true rfl, Nat.le_of_ble_eq_true rfl⟩) hS (fun q _ h => hFc q h) hFc (fun r9 u t H1 locs ht hvm hw hB hz1 hk1 hS => ?_)
    obtain rfl := hw
    obtain ⟨hP1, hK1, hD1⟩ := hB
    rw [ht] at hP1
    have hK1 := va_K.moved hvm.symm hK1
    obtain ⟨hP, hD⟩ := va_join (wr := [(h1, .inl (k0, 4, .inr (.inr (.inr (.inr (va_up (va_up (va_up (va_up (fun _ => none) 0 (some ge5)) 1 (some ge5)) 2 (some ge5)) 3 (some ge5))))))), (h2, .inl (k1, 5, .inl (upd (upd (upd (upd (upd (fun _ => 0) 0 l1) 1 l2) 2 l3) 3 l4) 4 l5))), (h3, .inr (0, [.ref h4, .int 0, .int 0, .int 0])), (h4, .inl (k2, 3, .inl f0))]) (w1 := [(h0, .inr (9, [.int 1, .ref h1, .ref z0, .ref z1, .int 0, .int 0, .int 0]))]) hP hD [0] [1, 2, 3, 4] rfl rfl (by decide) (by decide) hk1 hFc hP1 hD1
    generalize H1 = H at hP hS ⊢
    have hP : va_P (dC, dI) vwCl [(h1, .inl (k0, 4, .inr (.inr (.inr (.inr (va_up (va_up (va_up (va_up (fun _ => none) 0 (some ge5)) 1 (some ge5)) 2 (some ge5)) 3 (some ge5))))))), (h2, .inl (k1, 5, .inl (upd (upd (upd (upd (upd (fun _ => 0) 0 l1) 1 l2) 2 l3) 3 l4) 4 l5))), (h3, .inr (0, [.ref h4, .int 0, .int 0, .int 0])), (h4, .inl (k2, 3, .inl f0)), (h0, .inr (9, [.int 1, .ref h1, .ref z0, .ref z1, .int 0, .int 0, .int 0]))] H := hP
    have hD : va_D A [(h1, .inl (k0, 4, .inr (.inr (.inr (.inr (va_up (va_up (va_up (va_up (fun _ => none) 0 (some ge5)) 1 (some ge5)) 2 (some ge5)) 3 (some ge5))))))), (h2, .inl (k1, 5, .inl (upd (upd (upd (upd (upd (fun _ => 0) 0 l1) 1 l2) 2 l3) 3 l4) 4 l5))), (h3, .inr (0, [.ref h4, .int 0, .int 0, .int 0])), (h4, .inl (k2, 3, .inl f0)), (h0, .inr (9, [.int 1, .ref h1, .ref z0, .ref z1, .int 0, .int 0, .int 0]))] := hD
    refine lv_if_eq (tgt := 171) hx hb dX5_type_166 (by decide) (fun c9 => absurd c9 (by decide)) (fun _ => ?_)
    refine lv_iconst (v := 0) hx hb dX5_type_169 (by decide) ?_
    refine W.widen (k := 25) (n := 169) (Nat.le_of_ble_eq_true rfl) (Nat.le_of_ble_eq_true rfl) ?_
    have hK := hK.sub (tys' := [(k0, .object "java/lang/String")]) [0] rfl
    have hP := hP.sub (ws' := [(h0, .inr (9, [.int 1, .ref h1, .ref z0, .ref z1, .int 0, .int 0, .int 0]))]) [4] rfl
    have hD := hD.sub (ws' := [(h0, .inr (9, [.int 1, .ref h1, .ref z0, .ref z1, .int 0, .int 0, .int 0]))]) [4] (by decide) rfl
    exact W.iret (v := 0) hx hb hr (fun t ht hW => ⟨⟨0, (), rfl, rfl, by rw [ht]; exact hP, va_K.moved hW.alike hK, hD⟩, hS.F ht⟩) hS.2.2 dX5_type_170
  · rcases Int.lt_or_le rp.toInt 4 with r8 | r8
    · have rp_l : (0 : Int) ≤ rp.toInt := by omega
      have rp_u : rp.toInt ≤ (3 : Int) := by omega
      have hR9 : ((3 : Int32), (0 : Int32)) = (R, v) := (show ((3 : Int32), (0 : Int32)) = kz_ty rp 3 0 [] from ((kz_ty_e rp_l rp_u).trans (by decide)).symm).trans hR
      obtain ⟨rfl, rfl⟩ := Prod.mk.inj hR9
      refine lv_iload hx hb dX5_type_47 (lv_at hl 7 rfl) ?_
      refine lv_iload hx hb dX5_type_49 (lv_at hl 6 rfl) ?_
      refine lv_icmp_ge (tgt := 124) hx hb dX5_type_51 (by decide) (fun _ => ?_) (fun c9 => absurd (by decide) c9)
      refine lv_aload_n hx hb dX5_type_124 rfl (lv_at hl 0 rfl) ?_
      refine lv_iload_n hx hb dX5_type_125 rfl (lv_at hl 1 rfl) ?_
      have hPc := hP.sub (ws' := []) [] rfl
      have hDc := hD.sub (ws' := []) [] (by decide) rfl
      have hKc := hK.sub (tys' := []) [] rfl
      have hFc := va_free (wc := []) hD hS hA [] rfl
      refine va_calli (va_runS (As := [.int rp]) (rest := [.ref h0]) ⟨hx, hb, hml, hown, hts⟩ (kx_X5_isNo_1 l dC dI H.size rp rp_l rp_u) (cwS 1 hts gX5_type_X5_isNo rfl rfl rfl (by decide +kernel) ⟨Nat.le_of_ble_eq_true rfl, Nat.le_of_ble_eq_true rfl⟩) ⟨fun a U g mk q => by obtain ⟨q0, q1, qP, qK, qD⟩ := q; exact ⟨q0, q1, qP, va_K.moved (u := U) (U := U.calling g mk a) (Vm.Alike.refl U.vm) qK, qD⟩, fun U hU hW => ⟨rfl, by rw [hU], by rw [hU]; exact hPc, va_K.moved hW.alike hKc, hDc.weaken (fun _ _ _ _ => trivial)⟩⟩ rfl rfl hl.1 rfl (lv_room (Nat.le_of_ble_eq_true rfl)) dX5_type_126 ⟨Nat.le_of_ble_eq_true rfl, Nat.le_of_ble_eq_true rfl⟩) hS (fun q _ h => hFc q h) hFc (fun r9 u t H1 locs ht hvm hw hB hz1 hk1 hS => ?_)
      obtain rfl := hw
      obtain ⟨hP1, hK1, hD1⟩ := hB
      rw [ht] at hP1
      have hK1 := va_K.moved hvm.symm hK1
      obtain ⟨hP, hD⟩ := va_join (wr := [(h0, .inr (9, [.int 0, .ref h1, .ref z0, .ref z1, .int 0, .int 0, .int 0])), (h1, .inl (k0, 4, .inr (.inr (.inr (.inr (va_up (va_up (va_up (va_up (fun _ => none) 0 (some ge5)) 1 (some ge5)) 2 (some ge5)) 3 (some ge5))))))), (h2, .inl (k1, 5, .inl (upd (upd (upd (upd (upd (fun _ => 0) 0 l1) 1 l2) 2 l3) 3 l4) 4 l5))), (h3, .inr (0, [.ref h4, .int 0, .int 0, .int 0])), (h4, .inl (k2, 3, .inl f0))]) (w1 := []) hP hD [] [0, 1, 2, 3, 4] rfl rfl (by decide) (by decide) hk1 hFc hP1 hD1
      generalize H1 = H at hP hS ⊢
      have hP : va_P (dC, dI) vwCl [(h0, .inr (9, [.int 0, .ref h1, .ref z0, .ref z1, .int 0, .int 0, .int 0])), (h1, .inl (k0, 4, .inr (.inr (.inr (.inr (va_up (va_up (va_up (va_up (fun _ => none) 0 (some ge5)) 1 (some ge5)) 2 (some ge5)) 3 (some ge5))))))), (h2, .inl (k1, 5, .inl (upd (upd (upd (upd (upd (fun _ => 0) 0 l1) 1 l2) 2 l3) 3 l4) 4 l5))), (h3, .inr (0, [.ref h4, .int 0, .int 0, .int 0])), (h4, .inl (k2, 3, .inl f0))] H := hP
      have hD : va_D A [(h0, .inr (9, [.int 0, .ref h1, .ref z0, .ref z1, .int 0, .int 0, .int 0])), (h1, .inl (k0, 4, .inr (.inr (.inr (.inr (va_up (va_up (va_up (va_up (fun _ => none) 0 (some ge5)) 1 (some ge5)) 2 (some ge5)) 3 (some ge5))))))), (h2, .inl (k1, 5, .inl (upd (upd (upd (upd (upd (fun _ => 0) 0 l1) 1 l2) 2 l3) 3 l4) 4 l5))), (h3, .inr (0, [.ref h4, .int 0, .int 0, .int 0])), (h4, .inl (k2, 3, .inl f0))] := hD
      refine lv_iload hx hb dX5_type_129 (lv_at hl 3 rfl) ?_
      refine lv_iload_n hx hb dX5_type_131 rfl (lv_at hl 1 rfl) ?_
      have hPc := hP.sub (ws' := []) [] rfl
      have hDc := hD.sub (ws' := []) [] (by decide) rfl
      have hKc := hK.sub (tys' := []) [] rfl
      have hFc := va_free (wc := []) hD hS hA [] rfl
      refine va_calli (va_runS (As := [.int rp]) (rest := [.int 0, .int 0, .ref h0]) ⟨hx, hb, hml, hown, hts⟩ (kx_X5_isNo_1 l dC dI H.size rp rp_l rp_u) (cwS 1 hts gX5_type_X5_isNo rfl rfl rfl (by decide +kernel) ⟨Nat.le_of_ble_eq_true rfl, Nat.le_of_ble_eq_true rfl⟩) ⟨fun a U g mk q => by obtain ⟨q0, q1, qP, qK, qD⟩ := q; exact ⟨q0, q1, qP, va_K.moved (u := U) (U := U.calling g mk a) (Vm.Alike.refl U.vm) qK, qD⟩, fun U hU hW => ⟨rfl, by rw [hU], by rw [hU]; exact hPc, va_K.moved hW.alike hKc, hDc.weaken (fun _ _ _ _ => trivial)⟩⟩ rfl rfl hl.1 rfl (lv_room (Nat.le_of_ble_eq_true rfl)) dX5_type_132 ⟨Nat.le_of_ble_eq_true rfl, Nat.le_of_ble_eq_true rfl⟩) hS (fun q _ h => hFc q h) hFc (fun r9 u t H1 locs ht hvm hw hB hz1 hk1 hS => ?_)
      obtain rfl := hw
      obtain ⟨hP1, hK1, hD1⟩ := hB
      rw [ht] at hP1
      have hK1 := va_K.moved hvm.symm hK1
      obtain ⟨hP, hD⟩ := va_join (wr := [(h0, .inr (9, [.int 0, .ref h1, .ref z0, .ref z1, .int 0, .int 0, .int 0])), (h1, .inl (k0, 4, .inr (.inr (.inr (.inr (va_up (va_up (va_up (va_up (fun _ => none) 0 (some ge5)) 1 (some ge5)) 2 (some ge5)) 3 (some ge5))))))), (h2, .inl (k1, 5, .inl (upd (upd (upd (upd (upd (fun _ => 0) 0 l1) 1 l2) 2 l3) 3 l4) 4 l5))), (h3, .inr (0, [.ref h4, .int 0, .int 0, .int 0])), (h4, .inl (k2, 3, .inl f0))]) (w1 := []) hP hD [] [0, 1, 2, 3, 4] rfl rfl (by decide) (by decide) hk1 hFc hP1 hD1
      generalize H1 = H at hP hS ⊢
      have hP : va_P (dC, dI) vwCl [(h0, .inr (9, [.int 0, .ref h1, .ref z0, .ref z1, .int 0, .int 0, .int 0])), (h1, .inl (k0, 4, .inr (.inr (.inr (.inr (va_up (va_up (va_up (va_up (fun _ => none) 0 (some ge5)) 1 (some ge5)) 2 (some ge5)) 3 (some ge5))))))), (h2, .inl (k1, 5, .inl (upd (upd (upd (upd (upd (fun _ => 0) 0 l1) 1 l2) 2 l3) 3 l4) 4 l5))), (h3, .inr (0, [.ref h4, .int 0, .int 0, .int 0])), (h4, .inl (k2, 3, .inl f0))] H := hP
      have hD : va_D A [(h0, .inr (9, [.int 0, .ref h1, .ref z0, .ref z1, .int 0, .int 0, .int 0])), (h1, .inl (k0, 4, .inr (.inr (.inr (.inr (va_up (va_up (va_up (va_up (fun _ => none) 0 (some ge5)) 1 (some ge5)) 2 (some ge5)) 3 (some ge5))))))), (h2, .inl (k1, 5, .inl (upd (upd (upd (upd (upd (fun _ => 0) 0 l1) 1 l2) 2 l3) 3 l4) 4 l5))), (h3, .inr (0, [.ref h4, .int 0, .int 0, .int 0])), (h4, .inl (k2, 3, .inl f0))] := hD
      refine lv_if_ne (tgt := 162) hx hb dX5_type_135 (by decide) (fun c9 => absurd (by decide) c9) (fun _ => ?_)
      refine lv_aload_n hx hb dX5_type_138 rfl (lv_at hl 0 rfl) ?_
      refine va_get (D := (dC, dI)) (ci := 9) (v := .ref h1) (C := RX5) (T := TX5) (N := 7) hx hb hts (by decide +kernel) hown hK hP 0 rfl rfl 1 (by decide) (hts (.fieldLink RX5 11 "RewriteropeModel" "ropes" "[Ljava/lang/String;") (by decide +kernel)) (fun _ h9 => h9) rfl dX5_type_139 ?_
      refine lv_iload_n hx hb dX5_type_142 rfl (lv_at hl 1 rfl) ?_
      refine va_aldq (D := (dC, dI)) hx hb hK hP 1 0 rfl rfl (kz_in4 rp_l rp_u) dX5_type_143 ?_
      rw [show (va_up (va_up (va_up (va_up (fun _ => none) 0 (some ge5)) 1 (some ge5)) 2 (some ge5)) 3 (some ge5)) rp.toNatClampNeg = some ge5 from (kz_ix4 (P := fun z => (va_up (va_up (va_up (va_up (fun _ => none) 0 (some ge5)) 1 (some ge5)) 2 (some ge5)) 3 (some ge5)) z.toNatClampNeg = some ge5) rfl rfl rfl rfl rp_l rp_u)]
      refine W.eq (g2 := F0 m 144 ls [.ref ge5, .int 0, .int 0, .ref h0]) rfl ?_
      have hPc := hP.sub (ws' := []) [] rfl
      have hDc := hD.sub (ws' := []) [] (by decide) rfl
      have hKc := hK.sub (tys' := []) [] rfl
      have hFc := va_free (wc := []) hD hS hA [] rfl
      refine va_calli (va_runV (As := []) (rest := [.int 0, .int 0, .ref h0]) ⟨hx, hb, hml, hown, hts⟩ (kx_J0_length_8abf5_0 l dC dI ge5 gea gv5 gva gde gic gi0 H.size) (cwV 0 hts gX5_type_J0_length_8abf5 rfl rfl rfl (by decide +kernel) ⟨Nat.le_of_ble_eq_true rfl, Nat.le_of_ble_eq_true rfl⟩) ⟨fun a U g mk q => by obtain ⟨q0, q1, qP, qK, qD, qG⟩ := q; exact ⟨q0, q1, qP, va_K.moved (u := U) (U := U.calling g mk a) (Vm.Alike.refl U.vm) qK, qD, gv.fb qG⟩, (by obtain ⟨cell, k1, k2, k3, -⟩ := g_o5.kept hS.2.1; exact ⟨cell, k1, k2, k3⟩), fun U hU hW => ⟨rfl, by rw [hU], by rw [hU]; exact hPc, va_K.moved hW.alike hKc, hDc.weaken (fun _ _ _ _ => trivial), gv.pass hW hU hS hFc hG⟩⟩ rfl rfl hl.1 rfl (lv_room (Nat.le_of_ble_eq_true rfl)) dX5_type_144 ⟨Nat.le_of_ble_eq_true rfl, Nat.le_of_ble_eq_true rfl⟩) hS (fun q _ h => hFc q h) hFc (fun r9 u t H1 locs ht hvm hw hB hz1 hk1 hS => ?_)
      obtain rfl := hw
      obtain ⟨hP1, hK1, hD1⟩ := hB
      rw [ht] at hP1
      have hK1 := va_K.moved hvm.symm hK1
      obtain ⟨hP, hD⟩ := va_join (wr := [(h0, .inr (9, [.int 0, .ref h1, .ref z0, .ref z1, .int 0, .int 0, .int 0])), (h1, .inl (k0, 4, .inr (.inr (.inr (.inr (va_up (va_up (va_up (va_up (fun _ => none) 0 (some ge5)) 1 (some ge5)) 2 (some ge5)) 3 (some ge5))))))), (h2, .inl (k1, 5, .inl (upd (upd (upd (upd (upd (fun _ => 0) 0 l1) 1 l2) 2 l3) 3 l4) 4 l5))), (h3, .inr (0, [.ref h4, .int 0, .int 0, .int 0])), (h4, .inl (k2, 3, .inl f0))]) (w1 := []) hP hD [] [0, 1, 2, 3, 4] rfl rfl (by decide) (by decide) hk1 hFc hP1 hD1
      generalize H1 = H at hP hS ⊢
      have hP : va_P (dC, dI) vwCl [(h0, .inr (9, [.int 0, .ref h1, .ref z0, .ref z1, .int 0, .int 0, .int 0])), (h1, .inl (k0, 4, .inr (.inr (.inr (.inr (va_up (va_up (va_up (va_up (fun _ => none) 0 (some ge5)) 1 (some ge5)) 2 (some ge5)) 3 (some ge5))))))), (h2, .inl (k1, 5, .inl (upd (upd (upd (upd (upd (fun _ => 0) 0 l1) 1 l2) 2 l3) 3 l4) 4 l5))), (h3, .inr (0, [.ref h4, .int 0, .int 0, .int 0])), (h4, .inl (k2, 3, .inl f0))] H := hP
      have hD : va_D A [(h0, .inr (9, [.int 0, .ref h1, .ref z0, .ref z1, .int 0, .int 0, .int 0])), (h1, .inl (k0, 4, .inr (.inr (.inr (.inr (va_up (va_up (va_up (va_up (fun _ => none) 0 (some ge5)) 1 (some ge5)) 2 (some ge5)) 3 (some ge5))))))), (h2, .inl (k1, 5, .inl (upd (upd (upd (upd (upd (fun _ => 0) 0 l1) 1 l2) 2 l3) 3 l4) 4 l5))), (h3, .inr (0, [.ref h4, .int 0, .int 0, .int 0])), (h4, .inl (k2, 3, .inl f0))] := hD
      refine lv_aload hx hb dX5_type_147 (lv_at hl 4 rfl) ?_
      have hPc := hP.sub (ws' := [(h3, .inr (0, [.ref h4, .int 0, .int 0, .int 0])), (h4, .inl (k2, 3, .inl f0))]) [3, 4] rfl
      have hDc := hD.sub (ws' := [(h3, .inr (0, [.ref h4, .int 0, .int 0, .int 0])), (h4, .inl (k2, 3, .inl f0))]) [3, 4] (by decide) rfl
      have hKc := hK.sub (tys' := [(k2, .byte)]) [2] rfl
      have hFc := va_free (wc := [(h3, .inr (0, [.ref h4, .int 0, .int 0, .int 0])), (h4, .inl (k2, 3, .inl f0))]) hD hS hA [3, 4] rfl
      refine va_calli (va_runV (As := []) (rest := [.int 0, .int 0, .int 0, .ref h0]) ⟨hx, hb, hml, hown, hts⟩ (kx_J0_length_8abf5_4 l dC dI ge5 gea gv5 gva gde gic gi0 h3 h4 k2 H.size f0 f0_t) (cwV 0 hts gX5_type_J0_length_8abf5 rfl rfl rfl (by decide +kernel) ⟨Nat.le_of_ble_eq_true rfl, Nat.le_of_ble_eq_true rfl⟩) ⟨fun a U g mk q => by obtain ⟨q0, q1, qP, qK, qD, qG⟩ := q; exact ⟨q0, q1, qP, va_K.moved (u := U) (U := U.calling g mk a) (Vm.Alike.refl U.vm) qK, qD, gv.fb qG⟩, va_recv hKc hPc (ci := 0) (q0 := 0) rfl rfl, fun U hU hW => ⟨rfl, by rw [hU], by rw [hU]; exact hPc, va_K.moved hW.alike hKc, hDc.weaken (fun _ _ _ _ => trivial), gv.pass hW hU hS hFc hG⟩⟩ rfl rfl hl.1 rfl (lv_room (Nat.le_of_ble_eq_true rfl)) dX5_type_149 ⟨Nat.le_of_ble_eq_true rfl, Nat.le_of_ble_eq_true rfl⟩) hS (fun q _ h => hFc q h) hFc (fun r9 u t H1 locs ht hvm hw hB hz1 hk1 hS => ?_)
      obtain rfl := hw
      obtain ⟨hP1, hK1, hD1⟩ := hB
      rw [ht] at hP1
      have hK1 := va_K.moved hvm.symm hK1
      obtain ⟨hP, hD⟩ := va_join (wr := [(h0, .inr (9, [.int 0, .ref h1, .ref z0, .ref z1, .int 0, .int 0, .int 0])), (h1, .inl (k0, 4, .inr (.inr (.inr (.inr (va_up (va_up (va_up (va_up (fun _ => none) 0 (some ge5)) 1 (some ge5)) 2 (some ge5)) 3 (some ge5))))))), (h2, .inl (k1, 5, .inl (upd (upd (upd (upd (upd (fun _ => 0) 0 l1) 1 l2) 2 l3) 3 l4) 4 l5)))]) (w1 := [(h3, .inr (0, [.ref h4, .int 0, .int 0, .int 0])), (h4, .inl (k2, 3, .inl f0))]) hP hD [3, 4] [0, 1, 2] rfl rfl (by decide) (by decide) hk1 hFc hP1 hD1
      generalize H1 = H at hP hS ⊢
      have hP : va_P (dC, dI) vwCl [(h0, .inr (9, [.int 0, .ref h1, .ref z0, .ref z1, .int 0, .int 0, .int 0])), (h1, .inl (k0, 4, .inr (.inr (.inr (.inr (va_up (va_up (va_up (va_up (fun _ => none) 0 (some ge5)) 1 (some ge5)) 2 (some ge5)) 3 (some ge5))))))), (h2, .inl (k1, 5, .inl (upd (upd (upd (upd (upd (fun _ => 0) 0 l1) 1 l2) 2 l3) 3 l4) 4 l5))), (h3, .inr (0, [.ref h4, .int 0, .int 0, .int 0])), (h4, .inl (k2, 3, .inl f0))] H := hP
      have hD : va_D A [(h0, .inr (9, [.int 0, .ref h1, .ref z0, .ref z1, .int 0, .int 0, .int 0])), (h1, .inl (k0, 4, .inr (.inr (.inr (.inr (va_up (va_up (va_up (va_up (fun _ => none) 0 (some ge5)) 1 (some ge5)) 2 (some ge5)) 3 (some ge5))))))), (h2, .inl (k1, 5, .inl (upd (upd (upd (upd (upd (fun _ => 0) 0 l1) 1 l2) 2 l3) 3 l4) 4 l5))), (h3, .inr (0, [.ref h4, .int 0, .int 0, .int 0])), (h4, .inl (k2, 3, .inl f0))] := hD
      refine lv_iadd hx hb dX5_type_152 ?_
      refine lv_topi (fun y101 ey101 => ?_)
      obtain rfl : y101 = 3 := ey101.trans (by decide)
      refine lv_bipush (v := 32) hx hb dX5_type_153 (by decide) ?_
      refine lv_icmp_le (tgt := 162) hx hb dX5_type_155 (by decide) (fun _ => ?_) (fun c9 => absurd (by decide) c9)
      refine lv_iconst (v := 0) hx hb dX5_type_162 (by decide) ?_
      have hPc := hP.sub (ws' := [(h0, .inr (9, [.int 0, .ref h1, .ref z0, .ref z1, .int 0, .int 0, .int 0]))]) [0] rfl
      have hDc := hD.sub (ws' := [(h0, .inr (9, [.int 0, .ref h1, .ref z0, .ref z1, .int 0, .int 0, .int 0]))]) [0] (by decide) rfl
      have hKc := hK.sub (tys' := []) [] rfl
      have hFc := va_free (wc := [(h0, .inr (9, [.int 0, .ref h1, .ref z0, .ref z1, .int 0, .int 0, .int 0]))]) hD hS hA [0] rfl
      refine va_calli (va_runV (As := [.int 0, .int 0, .int 0]) (rest := []) ⟨hx, hb, hml, hown, hts⟩ (kx_X5_fails_1 l dC dI h0 h1 z0 z1 H.size) (cwV 3 hts gX5_type_X5_fails rfl rfl rfl (by decide +kernel) ⟨Nat.le_of_ble_eq_true rfl, Nat.le_of_ble_eq_true rfl⟩) ⟨fun a U g mk q => by obtain ⟨q0, q1, qP, qK, qD⟩ := q; exact ⟨q0, q1, qP, va_K.moved (u := U) (U := U.calling g mk a) (Vm.Alike.refl U.vm) qK, qD⟩, va_recv hKc hPc (ci := 9) (q0 := 0) rfl rfl, fun U hU hW => ⟨rfl, by rw [hU], by rw [hU]; exact hPc, va_K.moved hW.alike hKc, hDc.weaken (fun _ _ _ _ => trivial)⟩⟩ rfl rfl hl.1 rfl (lv_room (Nat.le_of_ble_eq_true rfl)) dX5_type_163 ⟨Nat.le_of_ble_eq_true rfl, Nat.le_of_ble_eq_true rfl⟩) hS (fun q _ h => hFc q h) hFc (fun r9 u t H1 locs ht hvm hw hB hz1 hk1 hS => ?_)
      obtain rfl := hw
      obtain ⟨hP1, hK1, hD1⟩ := hB
      rw [ht] at hP1
      have hK1 := va_K.moved hvm.symm hK1
      obtain ⟨hP, hD⟩ := va_join (wr := [(h1, .inl (k0, 4, .inr (.inr (.inr (.inr (va_up (va_up (va_up (va_up (fun _ => none) 0 (some ge5)) 1 (some ge5)) 2 (some ge5)) 3 (some ge5))))))), (h2, .inl (k1, 5, .inl (upd (upd (upd (upd (upd (fun _ => 0) 0 l1) 1 l2) 2 l3) 3 l4) 4 l5))), (h3, .inr (0, [.ref h4, .int 0, .int 0, .int 0])), (h4, .inl (k2, 3, .inl f0))]) (w1 := [(h0, .inr (9, [.int 0, .ref h1, .ref z0, .ref z1, .int 0, .int 0, .int 0]))]) hP hD [0] [1, 2, 3, 4] rfl rfl (by decide) (by decide) hk1 hFc hP1 hD1
      generalize H1 = H at hP hS ⊢
      have hP : va_P (dC, dI) vwCl [(h1, .inl (k0, 4, .inr (.inr (.inr (.inr (va_up (va_up (va_up (va_up (fun _ => none) 0 (some ge5)) 1 (some ge5)) 2 (some ge5)) 3 (some ge5))))))), (h2, .inl (k1, 5, .inl (upd (upd (upd (upd (upd (fun _ => 0) 0 l1) 1 l2) 2 l3) 3 l4) 4 l5))), (h3, .inr (0, [.ref h4, .int 0, .int 0, .int 0])), (h4, .inl (k2, 3, .inl f0)), (h0, .inr (9, [.int 0, .ref h1, .ref z0, .ref z1, .int 0, .int 0, .int 0]))] H := hP
      have hD : va_D A [(h1, .inl (k0, 4, .inr (.inr (.inr (.inr (va_up (va_up (va_up (va_up (fun _ => none) 0 (some ge5)) 1 (some ge5)) 2 (some ge5)) 3 (some ge5))))))), (h2, .inl (k1, 5, .inl (upd (upd (upd (upd (upd (fun _ => 0) 0 l1) 1 l2) 2 l3) 3 l4) 4 l5))), (h3, .inr (0, [.ref h4, .int 0, .int 0, .int 0])), (h4, .inl (k2, 3, .inl f0)), (h0, .inr (9, [.int 0, .ref h1, .ref z0, .ref z1, .int 0, .int 0, .int 0]))] := hD
      refine lv_if_eq (tgt := 171) hx hb dX5_type_166 (by decide) (fun _ => ?_) (fun c9 => absurd (by decide) c9)
      refine va_new (ci := 1) (fs := [.null, .int 0, .int 0, .int 0]) (C := RJ4) (T := TJ4) (N := 4) hx hb hts (by decide +kernel) tyJ4 tyJ4_ok hown (hts (.classLink RX5 49 RJ4) (by decide +kernel)) (hts (.instantiable RJ4 4) (by decide +kernel)) (hts (.initialized RJ4) (by decide +kernel)) hK hP hD hS hA rfl (fun j hj => by rcases (show j = 0 ∨ j = 1 ∨ j = 2 ∨ j = 3 by omega) with rfl | rfl | rfl | rfl <;> rfl) (Nat.le_of_ble_eq_true rfl) (Nat.le_of_ble_eq_true rfl) dX5_type_171 (fun q102 H hP hD hS => ?_)
      have hP : va_P (dC, dI) vwCl [(h1, .inl (k0, 4, .inr (.inr (.inr (.inr (va_up (va_up (va_up (va_up (fun _ => none) 0 (some ge5)) 1 (some ge5)) 2 (some ge5)) 3 (some ge5))))))), (h2, .inl (k1, 5, .inl (upd (upd (upd (upd (upd (fun _ => 0) 0 l1) 1 l2) 2 l3) 3 l4) 4 l5))), (h3, .inr (0, [.ref h4, .int 0, .int 0, .int 0])), (h4, .inl (k2, 3, .inl f0)), (h0, .inr (9, [.int 0, .ref h1, .ref z0, .ref z1, .int 0, .int 0, .int 0])), (q102, .inr (1, [.null, .int 0, .int 0, .int 0]))] H := hP
      have hD : va_D A [(h1, .inl (k0, 4, .inr (.inr (.inr (.inr (va_up (va_up (va_up (va_up (fun _ => none) 0 (some ge5)) 1 (some ge5)) 2 (some ge5)) 3 (some ge5))))))), (h2, .inl (k1, 5, .inl (upd (upd (upd (upd (upd (fun _ => 0) 0 l1) 1 l2) 2 l3) 3 l4) 4 l5))), (h3, .inr (0, [.ref h4, .int 0, .int 0, .int 0])), (h4, .inl (k2, 3, .inl f0)), (h0, .inr (9, [.int 0, .ref h1, .ref z0, .ref z1, .int 0, .int 0, .int 0])), (q102, .inr (1, [.null, .int 0, .int 0, .int 0]))] := hD
      refine W.widen (k := 14) (n := 87) (by omega) (by omega) ?_
      refine lv_dup hx hb dX5_type_174 rfl ?_
      have hPc := hP.sub (ws' := [(q102, .inr (1, [.null, .int 0, .int 0, .int 0]))]) [5] rfl
      have hDc := hD.sub (ws' := [(q102, .inr (1, [.null, .int 0, .int 0, .int 0]))]) [5] (by decide) rfl
      have hKc := hK.sub (tys' := []) [] rfl
      have hFc := va_free (wc := [(q102, .inr (1, [.null, .int 0, .int 0, .int 0]))]) hD hS hA [5] rfl
      refine va_callv (va_runI (As := []) (rest := [.ref q102]) ⟨hx, hb, hml, hown, hts⟩ (kx_J4_init_da8c8_0 l dC dI ge5 gea gv5 gva gde gic gi0 q102 H.size) (cwI 0 hts gX5_type_J4_init_da8c8 rfl rfl rfl (hts (.initialized RJ4) (by decide +kernel)) (hts (.methodLink RX5 51 yJ4_init_da8c8) (by decide +kernel)) (hts (.instanceMethod yJ4_init_da8c8) (by decide +kernel)) rfl (by decide +kernel) ⟨Nat.le_of_ble_eq_true rfl, Nat.le_of_ble_eq_true rfl⟩) ⟨fun a U g mk q => by obtain ⟨q0, q1, qP, qK, qD, qG⟩ := q; exact ⟨q0, q1, qP, va_K.moved (u := U) (U := U.calling g mk a) (Vm.Alike.refl U.vm) qK, qD, gv.fb qG⟩, fun U hU hW => ⟨rfl, by rw [hU], by rw [hU]; exact hPc, va_K.moved hW.alike hKc, hDc.weaken (fun _ _ _ _ => trivial), gv.pass hW hU hS hFc hG⟩⟩ rfl rfl hl.1 rfl (lv_room (Nat.le_of_ble_eq_true rfl)) dX5_type_175 ⟨Nat.le_of_ble_eq_true rfl, Nat.le_of_ble_eq_true rfl⟩) hS (fun q _ h => hFc q h) hFc (fun u t H1 locs ht hvm hw hB hz1 hk1 hS => ?_)
      obtain ⟨q103, cq104, hP1, hK1, hD1⟩ := hB
      rw [ht] at hP1
      have hK1 := va_K.moved hvm.symm hK1
      obtain ⟨hP, hD⟩ := va_join (wr := [(h1, .inl (k0, 4, .inr (.inr (.inr (.inr (va_up (va_up (va_up (va_up (fun _ => none) 0 (some ge5)) 1 (some ge5)) 2 (some ge5)) 3 (some ge5))))))), (h2, .inl (k1, 5, .inl (upd (upd (upd (upd (upd (fun _ => 0) 0 l1) 1 l2) 2 l3) 3 l4) 4 l5))), (h3, .inr (0, [.ref h4, .int 0, .int 0, .int 0])), (h4, .inl (k2, 3, .inl f0)), (h0, .inr (9, [.int 0, .ref h1, .ref z0, .ref z1, .int 0, .int 0, .int 0]))]) (w1 := [(q102, .inr (1, [.ref q103, .int 0, .int 0, .int 0])), (q103, .inl (cq104, 16, .inl (fun _ => 0)))]) hP hD [5] [0, 1, 2, 3, 4] rfl rfl (by decide) (by decide) hk1 hFc hP1 hD1
      have hK := hK.app (hK1.sub (tys' := [(cq104, .byte)]) [0] rfl)
      generalize H1 = H at hP hS ⊢
      have hK : va_K (dC, dI) vwCl [(k0, .object "java/lang/String"), (k1, .int), (k2, .byte), (cq104, .byte)] s := hK
      have hP : va_P (dC, dI) vwCl [(h1, .inl (k0, 4, .inr (.inr (.inr (.inr (va_up (va_up (va_up (va_up (fun _ => none) 0 (some ge5)) 1 (some ge5)) 2 (some ge5)) 3 (some ge5))))))), (h2, .inl (k1, 5, .inl (upd (upd (upd (upd (upd (fun _ => 0) 0 l1) 1 l2) 2 l3) 3 l4) 4 l5))), (h3, .inr (0, [.ref h4, .int 0, .int 0, .int 0])), (h4, .inl (k2, 3, .inl f0)), (h0, .inr (9, [.int 0, .ref h1, .ref z0, .ref z1, .int 0, .int 0, .int 0])), (q102, .inr (1, [.ref q103, .int 0, .int 0, .int 0])), (q103, .inl (cq104, 16, .inl (fun _ => 0)))] H := hP
      have hD : va_D A [(h1, .inl (k0, 4, .inr (.inr (.inr (.inr (va_up (va_up (va_up (va_up (fun _ => none) 0 (some ge5)) 1 (some ge5)) 2 (some ge5)) 3 (some ge5))))))), (h2, .inl (k1, 5, .inl (upd (upd (upd (upd (upd (fun _ => 0) 0 l1) 1 l2) 2 l3) 3 l4) 4 l5))), (h3, .inr (0, [.ref h4, .int 0, .int 0, .int 0])), (h4, .inl (k2, 3, .inl f0)), (h0, .inr (9, [.int 0, .ref h1, .ref z0, .ref z1, .int 0, .int 0, .int 0])), (q102, .inr (1, [.ref q103, .int 0, .int 0, .int 0])), (q103, .inl (cq104, 16, .inl (fun _ => 0)))] := hD
      refine W.widen (k := 15) (n := 103) (by omega) (by omega) ?_
      refine lv_aload_n hx hb dX5_type_178 rfl (lv_at hl 0 rfl) ?_
      refine va_get (D := (dC, dI)) (ci := 9) (v := .ref h1) (C := RX5) (T := TX5) (N := 7) hx hb hts (by decide +kernel) hown hK hP 4 rfl rfl 1 (by decide) (hts (.fieldLink RX5 11 "RewriteropeModel" "ropes" "[Ljava/lang/String;") (by decide +kernel)) (fun _ h9 => h9) rfl dX5_type_179 ?_
      refine lv_iload_n hx hb dX5_type_182 rfl (lv_at hl 1 rfl) ?_
      refine kz_dup2_x1 hx hb dX5_type_183 rfl rfl rfl ?_
      refine va_aldq (D := (dC, dI)) hx hb hK hP 0 0 rfl rfl (kz_in4 rp_l rp_u) dX5_type_184 ?_
      rw [show (va_up (va_up (va_up (va_up (fun _ => none) 0 (some ge5)) 1 (some ge5)) 2 (some ge5)) 3 (some ge5)) rp.toNatClampNeg = some ge5 from (kz_ix4 (P := fun z => (va_up (va_up (va_up (va_up (fun _ => none) 0 (some ge5)) 1 (some ge5)) 2 (some ge5)) 3 (some ge5)) z.toNatClampNeg = some ge5) rfl rfl rfl rfl rp_l rp_u)]
      refine W.eq (g2 := F0 m 185 ls [.ref ge5, .ref q102, .int rp, .ref h1]) rfl ?_
      have hPc := hP.sub (ws' := [(q102, .inr (1, [.ref q103, .int 0, .int 0, .int 0])), (q103, .inl (cq104, 16, .inl (fun _ => 0)))]) [5, 6] rfl
      have hDc := hD.sub (ws' := [(q102, .inr (1, [.ref q103, .int 0, .int 0, .int 0])), (q103, .inl (cq104, 16, .inl (fun _ => 0)))]) [5, 6] (by decide) rfl
      have hKc := hK.sub (tys' := [(cq104, .byte)]) [3] rfl
      have hFc := va_free (wc := [(q102, .inr (1, [.ref q103, .int 0, .int 0, .int 0])), (q103, .inl (cq104, 16, .inl (fun _ => 0)))]) hD hS hA [5, 6] rfl
      refine va_callr (va_runV (As := [.ref ge5]) (rest := [.int rp, .ref h1]) ⟨hx, hb, hml, hown, hts⟩ (kx_J4_append_15ec4_0 l dC dI ge5 gea gv5 gva gde gic gi0 q102 q103 cq104 H.size) (cwV 1 hts gX5_type_J4_append_15ec4 rfl rfl rfl (by decide +kernel) ⟨Nat.le_of_ble_eq_true rfl, Nat.le_of_ble_eq_true rfl⟩) ⟨fun a U g mk q => by obtain ⟨q0, q1, qP, qK, qD, qG⟩ := q; exact ⟨q0, q1, qP, va_K.moved (u := U) (U := U.calling g mk a) (Vm.Alike.refl U.vm) qK, qD, gv.fb qG⟩, va_recv hKc hPc (ci := 1) (q0 := 0) rfl rfl, fun U hU hW => ⟨rfl, by rw [hU], by rw [hU]; exact hPc, va_K.moved hW.alike hKc, hDc.weaken (fun _ _ _ _ => trivial), gv.pass hW hU hS hFc hG⟩⟩ rfl rfl hl.1 rfl (lv_room (Nat.le_of_ble_eq_true rfl)) dX5_type_185 ⟨Nat.le_of_ble_eq_true rfl, Nat.le_of_ble_eq_true rfl⟩) hS (fun q _ h => hFc q h) hFc (fun u ra t H1 locs ht hvm hw hB hz1 hk1 hS => ?_)
      obtain ⟨hra, hP1, hK1, hD1⟩ := hB
      rw [hra]
      rw [ht] at hP1
      have hK1 := va_K.moved hvm.symm hK1
      obtain ⟨hP, hD⟩ := va_join (wr := [(h1, .inl (k0, 4, .inr (.inr (.inr (.inr (va_up (va_up (va_up (va_up (fun _ => none) 0 (some ge5)) 1 (some ge5)) 2 (some ge5)) 3 (some ge5))))))), (h2, .inl (k1, 5, .inl (upd (upd (upd (upd (upd (fun _ => 0) 0 l1) 1 l2) 2 l3) 3 l4) 4 l5))), (h3, .inr (0, [.ref h4, .int 0, .int 0, .int 0])), (h4, .inl (k2, 3, .inl f0)), (h0, .inr (9, [.int 0, .ref h1, .ref z0, .ref z1, .int 0, .int 0, .int 0]))]) (w1 := [(q102, .inr (1, [.ref q103, .int 0, .int 0, .int 0])), (q103, .inl (cq104, 16, .inl (fun _ => 0)))]) hP hD [5, 6] [0, 1, 2, 3, 4] rfl rfl (by decide) (by decide) hk1 hFc hP1 hD1
      generalize H1 = H at hP hS ⊢
      have hP : va_P (dC, dI) vwCl [(h1, .inl (k0, 4, .inr (.inr (.inr (.inr (va_up (va_up (va_up (va_up (fun _ => none) 0 (some ge5)) 1 (some ge5)) 2 (some ge5)) 3 (some ge5))))))), (h2, .inl (k1, 5, .inl (upd (upd (upd (upd (upd (fun _ => 0) 0 l1) 1 l2) 2 l3) 3 l4) 4 l5))), (h3, .inr (0, [.ref h4, .int 0, .int 0, .int 0])), (h4, .inl (k2, 3, .inl f0)), (h0, .inr (9, [.int 0, .ref h1, .ref z0, .ref z1, .int 0, .int 0, .int 0])), (q102, .inr (1, [.ref q103, .int 0, .int 0, .int 0])), (q103, .inl (cq104, 16, .inl (fun _ => 0)))] H := hP
      have hD : va_D A [(h1, .inl (k0, 4, .inr (.inr (.inr (.inr (va_up (va_up (va_up (va_up (fun _ => none) 0 (some ge5)) 1 (some ge5)) 2 (some ge5)) 3 (some ge5))))))), (h2, .inl (k1, 5, .inl (upd (upd (upd (upd (upd (fun _ => 0) 0 l1) 1 l2) 2 l3) 3 l4) 4 l5))), (h3, .inr (0, [.ref h4, .int 0, .int 0, .int 0])), (h4, .inl (k2, 3, .inl f0)), (h0, .inr (9, [.int 0, .ref h1, .ref z0, .ref z1, .int 0, .int 0, .int 0])), (q102, .inr (1, [.ref q103, .int 0, .int 0, .int 0])), (q103, .inl (cq104, 16, .inl (fun _ => 0)))] := hD
      refine lv_aload hx hb dX5_type_188 (lv_at hl 4 rfl) ?_
      have hPc := hP.sub (ws' := [(h3, .inr (0, [.ref h4, .int 0, .int 0, .int 0])), (h4, .inl (k2, 3, .inl f0)), (q102, .inr (1, [.ref q103, .int 0, .int 0, .int 0])), (q103, .inl (cq104, 16, .inl (fun _ => 0)))]) [2, 3, 5, 6] rfl
      have hDc := hD.sub (ws' := [(h3, .inr (0, [.ref h4, .int 0, .int 0, .int 0])), (h4, .inl (k2, 3, .inl f0)), (q102, .inr (1, [.ref q103, .int 0, .int 0, .int 0])), (q103, .inl (cq104, 16, .inl (fun _ => 0)))]) [2, 3, 5, 6] (by decide) rfl
      have hKc := hK.sub (tys' := [(k2, .byte), (cq104, .byte)]) [2, 3] rfl
      have hFc := va_free (wc := [(h3, .inr (0, [.ref h4, .int 0, .int 0, .int 0])), (h4, .inl (k2, 3, .inl f0)), (q102, .inr (1, [.ref q103, .int 0, .int 0, .int 0])), (q103, .inl (cq104, 16, .inl (fun _ => 0)))]) hD hS hA [2, 3, 5, 6] rfl
      refine va_callr (va_runV (As := [.ref h3]) (rest := [.int rp, .ref h1]) ⟨hx, hb, hml, hown, hts⟩ (kx_J4_append_15ec4_3 l dC dI ge5 gea gv5 gva gde gic gi0 h3 h4 q102 q103 k2 cq104 H.size f0 f0_t) (cwV 1 hts gX5_type_J4_append_15ec4 rfl rfl rfl (by decide +kernel) ⟨Nat.le_of_ble_eq_true rfl, Nat.le_of_ble_eq_true rfl⟩) ⟨fun a U g mk q => by obtain ⟨q0, q1, qP, qK, qD, qG⟩ := q; exact ⟨q0, q1, qP, va_K.moved (u := U) (U := U.calling g mk a) (Vm.Alike.refl U.vm) qK, qD, gv.fb qG⟩, va_recv hKc hPc (ci := 1) (q0 := 2) rfl rfl, fun U hU hW => ⟨rfl, by rw [hU], by rw [hU]; exact hPc, va_K.moved hW.alike hKc, hDc.weaken (fun _ _ _ _ => trivial), gv.pass hW hU hS hFc hG⟩⟩ rfl rfl hl.1 rfl (lv_room (Nat.le_of_ble_eq_true rfl)) dX5_type_190 ⟨Nat.le_of_ble_eq_true rfl, Nat.le_of_ble_eq_true rfl⟩) hS (fun q _ h => hFc q h) hFc (fun u ra t H1 locs ht hvm hw hB hz1 hk1 hS => ?_)
      obtain ⟨f105, f105_t, hra, hP1, hK1, hD1⟩ := hB
      rw [hra]
      rw [ht] at hP1
      have hK1 := va_K.moved hvm.symm hK1
      obtain ⟨hP, hD⟩ := va_join (wr := [(h1, .inl (k0, 4, .inr (.inr (.inr (.inr (va_up (va_up (va_up (va_up (fun _ => none) 0 (some ge5)) 1 (some ge5)) 2 (some ge5)) 3 (some ge5))))))), (h2, .inl (k1, 5, .inl (upd (upd (upd (upd (upd (fun _ => 0) 0 l1) 1 l2) 2 l3) 3 l4) 4 l5))), (h0, .inr (9, [.int 0, .ref h1, .ref z0, .ref z1, .int 0, .int 0, .int 0]))]) (w1 := [(h3, .inr (0, [.ref h4, .int 0, .int 0, .int 0])), (h4, .inl (k2, 3, .inl f0)), (q102, .inr (1, [.ref q103, .int 0, .int 0, .int 3])), (q103, .inl (cq104, 16, .inl f105))]) hP hD [2, 3, 5, 6] [0, 1, 4] rfl rfl (by decide) (by decide) hk1 hFc hP1 hD1
      generalize H1 = H at hP hS ⊢
      have hP : va_P (dC, dI) vwCl [(h1, .inl (k0, 4, .inr (.inr (.inr (.inr (va_up (va_up (va_up (va_up (fun _ => none) 0 (some ge5)) 1 (some ge5)) 2 (some ge5)) 3 (some ge5))))))), (h2, .inl (k1, 5, .inl (upd (upd (upd (upd (upd (fun _ => 0) 0 l1) 1 l2) 2 l3) 3 l4) 4 l5))), (h0, .inr (9, [.int 0, .ref h1, .ref z0, .ref z1, .int 0, .int 0, .int 0])), (h3, .inr (0, [.ref h4, .int 0, .int 0, .int 0])), (h4, .inl (k2, 3, .inl f0)), (q102, .inr (1, [.ref q103, .int 0, .int 0, .int 3])), (q103, .inl (cq104, 16, .inl f105))] H := hP
      have hD : va_D A [(h1, .inl (k0, 4, .inr (.inr (.inr (.inr (va_up (va_up (va_up (va_up (fun _ => none) 0 (some ge5)) 1 (some ge5)) 2 (some ge5)) 3 (some ge5))))))), (h2, .inl (k1, 5, .inl (upd (upd (upd (upd (upd (fun _ => 0) 0 l1) 1 l2) 2 l3) 3 l4) 4 l5))), (h0, .inr (9, [.int 0, .ref h1, .ref z0, .ref z1, .int 0, .int 0, .int 0])), (h3, .inr (0, [.ref h4, .int 0, .int 0, .int 0])), (h4, .inl (k2, 3, .inl f0)), (q102, .inr (1, [.ref q103, .int 0, .int 0, .int 3])), (q103, .inl (cq104, 16, .inl f105))] := hD
      have hPc := hP.sub (ws' := [(q102, .inr (1, [.ref q103, .int 0, .int 0, .int 3])), (q103, .inl (cq104, 16, .inl f105))]) [5, 6] rfl
      have hDc := hD.sub (ws' := [(q102, .inr (1, [.ref q103, .int 0, .int 0, .int 3])), (q103, .inl (cq104, 16, .inl f105))]) [5, 6] (by decide) rfl
      have hKc := hK.sub (tys' := [(cq104, .byte)]) [3] rfl
      have hFc := va_free (wc := [(q102, .inr (1, [.ref q103, .int 0, .int 0, .int 3])), (q103, .inl (cq104, 16, .inl f105))]) hD hS hA [5, 6] rfl
      refine va_callr (va_runV (As := []) (rest := [.int rp, .ref h1]) ⟨hx, hb, hml, hown, hts⟩ (kx_J4_toString_0e30d_3 l dC dI ge5 gea gv5 gva gde gic gi0 q102 q103 cq104 H.size f105 f105_t) (cwV 0 hts gX5_type_J4_toString_0e30d rfl rfl rfl (by decide +kernel) ⟨Nat.le_of_ble_eq_true rfl, Nat.le_of_ble_eq_true rfl⟩) ⟨fun a U g mk q => by obtain ⟨q0, q1, qP, qK, qD, qG⟩ := q; exact ⟨q0, q1, qP, va_K.moved (u := U) (U := U.calling g mk a) (Vm.Alike.refl U.vm) qK, qD, gv.fb qG⟩, va_recv hKc hPc (ci := 1) (q0 := 0) rfl rfl, fun U hU hW => ⟨rfl, by rw [hU], by rw [hU]; exact hPc, va_K.moved hW.alike hKc, hDc.weaken (fun _ _ _ _ => trivial), gv.pass hW hU hS hFc hG⟩⟩ rfl rfl hl.1 rfl (lv_room (Nat.le_of_ble_eq_true rfl)) dX5_type_193 ⟨Nat.le_of_ble_eq_true rfl, Nat.le_of_ble_eq_true rfl⟩) hS (fun q _ h => hFc q h) hFc (fun u ra t H1 locs ht hvm hw hB hz1 hk1 hS => ?_)
      obtain ⟨q106, q107, cq108, f109, f109_t, hra, hP1, hK1, hD1⟩ := hB
      rw [hra]
      rw [ht] at hP1
      have hK1 := va_K.moved hvm.symm hK1
      obtain ⟨hP, hD⟩ := va_join (wr := [(h1, .inl (k0, 4, .inr (.inr (.inr (.inr (va_up (va_up (va_up (va_up (fun _ => none) 0 (some ge5)) 1 (some ge5)) 2 (some ge5)) 3 (some ge5))))))), (h2, .inl (k1, 5, .inl (upd (upd (upd (upd (upd (fun _ => 0) 0 l1) 1 l2) 2 l3) 3 l4) 4 l5))), (h0, .inr (9, [.int 0, .ref h1, .ref z0, .ref z1, .int 0, .int 0, .int 0])), (h3, .inr (0, [.ref h4, .int 0, .int 0, .int 0])), (h4, .inl (k2, 3, .inl f0))]) (w1 := [(q102, .inr (1, [.ref q103, .int 0, .int 0, .int 3])), (q103, .inl (cq104, 16, .inl f105)), (q106, .inr (0, [.ref q107, .int 0, .int 0, .int 0])), (q107, .inl (cq108, 3, .inl f109))]) hP hD [5, 6] [0, 1, 2, 3, 4] rfl rfl (by decide) (by decide) hk1 hFc hP1 hD1
      have hK := hK.app (hK1.sub (tys' := [(cq108, .byte)]) [1] rfl)
      generalize H1 = H at hP hS ⊢
      have hK : va_K (dC, dI) vwCl [(k0, .object "java/lang/String"), (k1, .int), (k2, .byte), (cq104, .byte), (cq108, .byte)] s := hK
      have hP : va_P (dC, dI) vwCl [(h1, .inl (k0, 4, .inr (.inr (.inr (.inr (va_up (va_up (va_up (va_up (fun _ => none) 0 (some ge5)) 1 (some ge5)) 2 (some ge5)) 3 (some ge5))))))), (h2, .inl (k1, 5, .inl (upd (upd (upd (upd (upd (fun _ => 0) 0 l1) 1 l2) 2 l3) 3 l4) 4 l5))), (h0, .inr (9, [.int 0, .ref h1, .ref z0, .ref z1, .int 0, .int 0, .int 0])), (h3, .inr (0, [.ref h4, .int 0, .int 0, .int 0])), (h4, .inl (k2, 3, .inl f0)), (q102, .inr (1, [.ref q103, .int 0, .int 0, .int 3])), (q103, .inl (cq104, 16, .inl f105)), (q106, .inr (0, [.ref q107, .int 0, .int 0, .int 0])), (q107, .inl (cq108, 3, .inl f109))] H := hP
      have hD : va_D A [(h1, .inl (k0, 4, .inr (.inr (.inr (.inr (va_up (va_up (va_up (va_up (fun _ => none) 0 (some ge5)) 1 (some ge5)) 2 (some ge5)) 3 (some ge5))))))), (h2, .inl (k1, 5, .inl (upd (upd (upd (upd (upd (fun _ => 0) 0 l1) 1 l2) 2 l3) 3 l4) 4 l5))), (h0, .inr (9, [.int 0, .ref h1, .ref z0, .ref z1, .int 0, .int 0, .int 0])), (h3, .inr (0, [.ref h4, .int 0, .int 0, .int 0])), (h4, .inl (k2, 3, .inl f0)), (q102, .inr (1, [.ref q103, .int 0, .int 0, .int 3])), (q103, .inl (cq104, 16, .inl f105)), (q106, .inr (0, [.ref q107, .int 0, .int 0, .int 0])), (q107, .inl (cq108, 3, .inl f109))] := hD
      refine W.widen (k := 17) (n := 110) (by omega) (by omega) ?_
      refine va_astq (D := (dC, dI)) hx hb hK hP hD hS 0 0 7 0 rfl rfl rfl rfl (kz_in4 rp_l rp_u) dX5_type_196 (fun H locs hP hD hS => ?_)
      have hP : va_P (dC, dI) vwCl [(h1, .inl (k0, 4, .inr (.inr (.inr (.inr (va_up (va_up (va_up (va_up (va_up (fun _ => none) 0 (some ge5)) 1 (some ge5)) 2 (some ge5)) 3 (some ge5)) rp.toNatClampNeg (some q106))))))), (h2, .inl (k1, 5, .inl (upd (upd (upd (upd (upd (fun _ => 0) 0 l1) 1 l2) 2 l3) 3 l4) 4 l5))), (h0, .inr (9, [.int 0, .ref h1, .ref z0, .ref z1, .int 0, .int 0, .int 0])), (h3, .inr (0, [.ref h4, .int 0, .int 0, .int 0])), (h4, .inl (k2, 3, .inl f0)), (q102, .inr (1, [.ref q103, .int 0, .int 0, .int 3])), (q103, .inl (cq104, 16, .inl f105)), (q106, .inr (0, [.ref q107, .int 0, .int 0, .int 0])), (q107, .inl (cq108, 3, .inl f109))] H := hP
      have hD : va_D A [(h1, .inl (k0, 4, .inr (.inr (.inr (.inr (va_up (va_up (va_up (va_up (va_up (fun _ => none) 0 (some ge5)) 1 (some ge5)) 2 (some ge5)) 3 (some ge5)) rp.toNatClampNeg (some q106))))))), (h2, .inl (k1, 5, .inl (upd (upd (upd (upd (upd (fun _ => 0) 0 l1) 1 l2) 2 l3) 3 l4) 4 l5))), (h0, .inr (9, [.int 0, .ref h1, .ref z0, .ref z1, .int 0, .int 0, .int 0])), (h3, .inr (0, [.ref h4, .int 0, .int 0, .int 0])), (h4, .inl (k2, 3, .inl f0)), (q102, .inr (1, [.ref q103, .int 0, .int 0, .int 3])), (q103, .inl (cq104, 16, .inl f105)), (q106, .inr (0, [.ref q107, .int 0, .int 0, .int 0])), (q107, .inl (cq108, 3, .inl f109))] := hD
      refine lv_aload_n hx hb dX5_type_197 rfl (lv_at hl 0 rfl) ?_
      refine va_get (D := (dC, dI)) (ci := 9) (v := .ref h1) (C := RX5) (T := TX5) (N := 7) hx hb hts (by decide +kernel) hown hK hP 2 rfl rfl 1 (by decide) (hts (.fieldLink RX5 11 "RewriteropeModel" "ropes" "[Ljava/lang/String;") (by decide +kernel)) (fun _ h9 => h9) rfl dX5_type_198 ?_
      refine lv_iload_n hx hb dX5_type_201 rfl (lv_at hl 1 rfl) ?_
      refine va_aldq (D := (dC, dI)) hx hb hK hP 0 0 rfl rfl (kz_in4 rp_l rp_u) dX5_type_202 ?_
      rw [show (va_up (va_up (va_up (va_up (va_up (fun _ => none) 0 (some ge5)) 1 (some ge5)) 2 (some ge5)) 3 (some ge5)) rp.toNatClampNeg (some q106)) rp.toNatClampNeg = some q106 from (by unfold va_up; exact if_pos rfl)]
      refine W.eq (g2 := F0 m 203 ls [.ref q106]) rfl ?_
      have hPc := hP.sub (ws' := [(q106, .inr (0, [.ref q107, .int 0, .int 0, .int 0])), (q107, .inl (cq108, 3, .inl f109))]) [7, 8] rfl
      have hDc := hD.sub (ws' := [(q106, .inr (0, [.ref q107, .int 0, .int 0, .int 0])), (q107, .inl (cq108, 3, .inl f109))]) [7, 8] (by decide) rfl
      have hKc := hK.sub (tys' := [(cq108, .byte)]) [4] rfl
      have hFc := va_free (wc := [(q106, .inr (0, [.ref q107, .int 0, .int 0, .int 0])), (q107, .inl (cq108, 3, .inl f109))]) hD hS hA [7, 8] rfl
      refine va_calli (va_runV (As := []) (rest := []) ⟨hx, hb, hml, hown, hts⟩ (kx_J0_length_8abf5_4 l dC dI ge5 gea gv5 gva gde gic gi0 q106 q107 cq108 H.size f109 f109_t) (cwV 0 hts gX5_type_J0_length_8abf5 rfl rfl rfl (by decide +kernel) ⟨Nat.le_of_ble_eq_true rfl, Nat.le_of_ble_eq_true rfl⟩) ⟨fun a U g mk q => by obtain ⟨q0, q1, qP, qK, qD, qG⟩ := q; exact ⟨q0, q1, qP, va_K.moved (u := U) (U := U.calling g mk a) (Vm.Alike.refl U.vm) qK, qD, gv.fb qG⟩, va_recv hKc hPc (ci := 0) (q0 := 0) rfl rfl, fun U hU hW => ⟨rfl, by rw [hU], by rw [hU]; exact hPc, va_K.moved hW.alike hKc, hDc.weaken (fun _ _ _ _ => trivial), gv.pass hW hU hS hFc hG⟩⟩ rfl rfl hl.1 rfl (lv_room (Nat.le_of_ble_eq_true rfl)) dX5_type_203 ⟨Nat.le_of_ble_eq_true rfl, Nat.le_of_ble_eq_true rfl⟩) hS (fun q _ h => hFc q h) hFc (fun r9 u t H1 locs ht hvm hw hB hz1 hk1 hS => ?_)
      obtain rfl := hw
      obtain ⟨hP1, hK1, hD1⟩ := hB
      rw [ht] at hP1
      have hK1 := va_K.moved hvm.symm hK1
      obtain ⟨hP, hD⟩ := va_join (wr := [(h1, .inl (k0, 4, .inr (.inr (.inr (.inr (va_up (va_up (va_up (va_up (va_up (fun _ => none) 0 (some ge5)) 1 (some ge5)) 2 (some ge5)) 3 (some ge5)) rp.toNatClampNeg (some q106))))))), (h2, .inl (k1, 5, .inl (upd (upd (upd (upd (upd (fun _ => 0) 0 l1) 1 l2) 2 l3) 3 l4) 4 l5))), (h0, .inr (9, [.int 0, .ref h1, .ref z0, .ref z1, .int 0, .int 0, .int 0])), (h3, .inr (0, [.ref h4, .int 0, .int 0, .int 0])), (h4, .inl (k2, 3, .inl f0)), (q102, .inr (1, [.ref q103, .int 0, .int 0, .int 3])), (q103, .inl (cq104, 16, .inl f105))]) (w1 := [(q106, .inr (0, [.ref q107, .int 0, .int 0, .int 0])), (q107, .inl (cq108, 3, .inl f109))]) hP hD [7, 8] [0, 1, 2, 3, 4, 5, 6] rfl rfl (by decide) (by decide) hk1 hFc hP1 hD1
      generalize H1 = H at hP hS ⊢
      have hP : va_P (dC, dI) vwCl [(h1, .inl (k0, 4, .inr (.inr (.inr (.inr (va_up (va_up (va_up (va_up (va_up (fun _ => none) 0 (some ge5)) 1 (some ge5)) 2 (some ge5)) 3 (some ge5)) rp.toNatClampNeg (some q106))))))), (h2, .inl (k1, 5, .inl (upd (upd (upd (upd (upd (fun _ => 0) 0 l1) 1 l2) 2 l3) 3 l4) 4 l5))), (h0, .inr (9, [.int 0, .ref h1, .ref z0, .ref z1, .int 0, .int 0, .int 0])), (h3, .inr (0, [.ref h4, .int 0, .int 0, .int 0])), (h4, .inl (k2, 3, .inl f0)), (q102, .inr (1, [.ref q103, .int 0, .int 0, .int 3])), (q103, .inl (cq104, 16, .inl f105)), (q106, .inr (0, [.ref q107, .int 0, .int 0, .int 0])), (q107, .inl (cq108, 3, .inl f109))] H := hP
      have hD : va_D A [(h1, .inl (k0, 4, .inr (.inr (.inr (.inr (va_up (va_up (va_up (va_up (va_up (fun _ => none) 0 (some ge5)) 1 (some ge5)) 2 (some ge5)) 3 (some ge5)) rp.toNatClampNeg (some q106))))))), (h2, .inl (k1, 5, .inl (upd (upd (upd (upd (upd (fun _ => 0) 0 l1) 1 l2) 2 l3) 3 l4) 4 l5))), (h0, .inr (9, [.int 0, .ref h1, .ref z0, .ref z1, .int 0, .int 0, .int 0])), (h3, .inr (0, [.ref h4, .int 0, .int 0, .int 0])), (h4, .inl (k2, 3, .inl f0)), (q102, .inr (1, [.ref q103, .int 0, .int 0, .int 3])), (q103, .inl (cq104, 16, .inl f105)), (q106, .inr (0, [.ref q107, .int 0, .int 0, .int 0])), (q107, .inl (cq108, 3, .inl f109))] := hD
      refine W.widen (k := 25) (n := 169) (Nat.le_of_ble_eq_true rfl) (Nat.le_of_ble_eq_true rfl) ?_
      have hK := hK.sub (tys' := [(k0, .object "java/lang/String")]) [0] rfl
      have hP := hP.sub (ws' := [(h0, .inr (9, [.int 0, .ref h1, .ref z0, .ref z1, .int 0, .int 0, .int 0]))]) [2] rfl
      have hD := hD.sub (ws' := [(h0, .inr (9, [.int 0, .ref h1, .ref z0, .ref z1, .int 0, .int 0, .int 0]))]) [2] (by decide) rfl
      exact W.iret (v := 3) hx hb hr (fun t ht hW => ⟨⟨3, (), rfl, rfl, by rw [ht]; exact hP, va_K.moved hW.alike hK, hD⟩, hS.F ht⟩) hS.2.2 dX5_type_206
    · have rp_l : (4 : Int) ≤ rp.toInt := by omega
      have rp_u : rp.toInt ≤ (2147483647 : Int) := by omega
      have hR9 : ((0 : Int32), (1 : Int32)) = (R, v) := (show ((0 : Int32), (1 : Int32)) = kz_ty rp 3 0 [] from ((kz_ty_R0 (by omega) [] 3 0).trans (by decide)).symm).trans hR
      obtain ⟨rfl, rfl⟩ := Prod.mk.inj hR9
      refine lv_iload hx hb dX5_type_47 (lv_at hl 7 rfl) ?_
      refine lv_iload hx hb dX5_type_49 (lv_at hl 6 rfl) ?_
      refine lv_icmp_ge (tgt := 124) hx hb dX5_type_51 (by decide) (fun _ => ?_) (fun c9 => absurd (by decide) c9)
      refine lv_aload_n hx hb dX5_type_124 rfl (lv_at hl 0 rfl) ?_
      refine lv_iload_n hx hb dX5_type_125 rfl (lv_at hl 1 rfl) ?_
      have hPc := hP.sub (ws' := []) [] rfl
      have hDc := hD.sub (ws' := []) [] (by decide) rfl
      have hKc := hK.sub (tys' := []) [] rfl
      have hFc := va_free (wc := []) hD hS hA [] rfl
      refine va_calli (va_runS (As := [.int rp]) (rest := [.ref h0]) ⟨hx, hb, hml, hown, hts⟩ (kx_X5_isNo_2 l dC dI H.size rp rp_l rp_u) (cwS 1 hts gX5_type_X5_isNo rfl rfl rfl (by decide +kernel) ⟨Nat.le_of_ble_eq_true rfl, Nat.le_of_ble_eq_true rfl⟩) ⟨fun a U g mk q => by obtain ⟨q0, q1, qP, qK, qD⟩ := q; exact ⟨q0, q1, qP, va_K.moved (u := U) (U := U.calling g mk a) (Vm.Alike.refl U.vm) qK, qD⟩, fun U hU hW => ⟨rfl, by rw [hU], by rw [hU]; exact hPc, va_K.moved hW.alike hKc, hDc.weaken (fun _ _ _ _ => trivial)⟩⟩ rfl rfl hl.1 rfl (lv_room (Nat.le_of_ble_eq_true rfl)) dX5_type_126 ⟨Nat.le_of_ble_eq_true rfl, Nat.le_of_ble_eq_true rfl⟩) hS (fun q _ h => hFc q h) hFc (fun r9 u t H1 locs ht hvm hw hB hz1 hk1 hS => ?_)
      obtain rfl := hw
      obtain ⟨hP1, hK1, hD1⟩ := hB
      rw [ht] at hP1
      have hK1 := va_K.moved hvm.symm hK1
      obtain ⟨hP, hD⟩ := va_join (wr := [(h0, .inr (9, [.int 0, .ref h1, .ref z0, .ref z1, .int 0, .int 0, .int 0])), (h1, .inl (k0, 4, .inr (.inr (.inr (.inr (va_up (va_up (va_up (va_up (fun _ => none) 0 (some ge5)) 1 (some ge5)) 2 (some ge5)) 3 (some ge5))))))), (h2, .inl (k1, 5, .inl (upd (upd (upd (upd (upd (fun _ => 0) 0 l1) 1 l2) 2 l3) 3 l4) 4 l5))), (h3, .inr (0, [.ref h4, .int 0, .int 0, .int 0])), (h4, .inl (k2, 3, .inl f0))]) (w1 := []) hP hD [] [0, 1, 2, 3, 4] rfl rfl (by decide) (by decide) hk1 hFc hP1 hD1
      generalize H1 = H at hP hS ⊢
      have hP : va_P (dC, dI) vwCl [(h0, .inr (9, [.int 0, .ref h1, .ref z0, .ref z1, .int 0, .int 0, .int 0])), (h1, .inl (k0, 4, .inr (.inr (.inr (.inr (va_up (va_up (va_up (va_up (fun _ => none) 0 (some ge5)) 1 (some ge5)) 2 (some ge5)) 3 (some ge5))))))), (h2, .inl (k1, 5, .inl (upd (upd (upd (upd (upd (fun _ => 0) 0 l1) 1 l2) 2 l3) 3 l4) 4 l5))), (h3, .inr (0, [.ref h4, .int 0, .int 0, .int 0])), (h4, .inl (k2, 3, .inl f0))] H := hP
      have hD : va_D A [(h0, .inr (9, [.int 0, .ref h1, .ref z0, .ref z1, .int 0, .int 0, .int 0])), (h1, .inl (k0, 4, .inr (.inr (.inr (.inr (va_up (va_up (va_up (va_up (fun _ => none) 0 (some ge5)) 1 (some ge5)) 2 (some ge5)) 3 (some ge5))))))), (h2, .inl (k1, 5, .inl (upd (upd (upd (upd (upd (fun _ => 0) 0 l1) 1 l2) 2 l3) 3 l4) 4 l5))), (h3, .inr (0, [.ref h4, .int 0, .int 0, .int 0])), (h4, .inl (k2, 3, .inl f0))] := hD
      refine lv_iload hx hb dX5_type_129 (lv_at hl 3 rfl) ?_
      refine lv_iload_n hx hb dX5_type_131 rfl (lv_at hl 1 rfl) ?_
      have hPc := hP.sub (ws' := []) [] rfl
      have hDc := hD.sub (ws' := []) [] (by decide) rfl
      have hKc := hK.sub (tys' := []) [] rfl
      have hFc := va_free (wc := []) hD hS hA [] rfl
      refine va_calli (va_runS (As := [.int rp]) (rest := [.int 0, .int 1, .ref h0]) ⟨hx, hb, hml, hown, hts⟩ (kx_X5_isNo_2 l dC dI H.size rp rp_l rp_u) (cwS 1 hts gX5_type_X5_isNo rfl rfl rfl (by decide +kernel) ⟨Nat.le_of_ble_eq_true rfl, Nat.le_of_ble_eq_true rfl⟩) ⟨fun a U g mk q => by obtain ⟨q0, q1, qP, qK, qD⟩ := q; exact ⟨q0, q1, qP, va_K.moved (u := U) (U := U.calling g mk a) (Vm.Alike.refl U.vm) qK, qD⟩, fun U hU hW => ⟨rfl, by rw [hU], by rw [hU]; exact hPc, va_K.moved hW.alike hKc, hDc.weaken (fun _ _ _ _ => trivial)⟩⟩ rfl rfl hl.1 rfl (lv_room (Nat.le_of_ble_eq_true rfl)) dX5_type_132 ⟨Nat.le_of_ble_eq_true rfl, Nat.le_of_ble_eq_true rfl⟩) hS (fun q _ h => hFc q h) hFc (fun r9 u t H1 locs ht hvm hw hB hz1 hk1 hS => ?_)
      obtain rfl := hw
      obtain ⟨hP1, hK1, hD1⟩ := hB
      rw [ht] at hP1
      have hK1 := va_K.moved hvm.symm hK1
      obtain ⟨hP, hD⟩ := va_join (wr := [(h0, .inr (9, [.int 0, .ref h1, .ref z0, .ref z1, .int 0, .int 0, .int 0])), (h1, .inl (k0, 4, .inr (.inr (.inr (.inr (va_up (va_up (va_up (va_up (fun _ => none) 0 (some ge5)) 1 (some ge5)) 2 (some ge5)) 3 (some ge5))))))), (h2, .inl (k1, 5, .inl (upd (upd (upd (upd (upd (fun _ => 0) 0 l1) 1 l2) 2 l3) 3 l4) 4 l5))), (h3, .inr (0, [.ref h4, .int 0, .int 0, .int 0])), (h4, .inl (k2, 3, .inl f0))]) (w1 := []) hP hD [] [0, 1, 2, 3, 4] rfl rfl (by decide) (by decide) hk1 hFc hP1 hD1
      generalize H1 = H at hP hS ⊢
      have hP : va_P (dC, dI) vwCl [(h0, .inr (9, [.int 0, .ref h1, .ref z0, .ref z1, .int 0, .int 0, .int 0])), (h1, .inl (k0, 4, .inr (.inr (.inr (.inr (va_up (va_up (va_up (va_up (fun _ => none) 0 (some ge5)) 1 (some ge5)) 2 (some ge5)) 3 (some ge5))))))), (h2, .inl (k1, 5, .inl (upd (upd (upd (upd (upd (fun _ => 0) 0 l1) 1 l2) 2 l3) 3 l4) 4 l5))), (h3, .inr (0, [.ref h4, .int 0, .int 0, .int 0])), (h4, .inl (k2, 3, .inl f0))] H := hP
      have hD : va_D A [(h0, .inr (9, [.int 0, .ref h1, .ref z0, .ref z1, .int 0, .int 0, .int 0])), (h1, .inl (k0, 4, .inr (.inr (.inr (.inr (va_up (va_up (va_up (va_up (fun _ => none) 0 (some ge5)) 1 (some ge5)) 2 (some ge5)) 3 (some ge5))))))), (h2, .inl (k1, 5, .inl (upd (upd (upd (upd (upd (fun _ => 0) 0 l1) 1 l2) 2 l3) 3 l4) 4 l5))), (h3, .inr (0, [.ref h4, .int 0, .int 0, .int 0])), (h4, .inl (k2, 3, .inl f0))] := hD
      refine lv_if_ne (tgt := 162) hx hb dX5_type_135 (by decide) (fun _ => ?_) (fun c9 => absurd c9 (by decide))
      refine lv_iconst (v := 0) hx hb dX5_type_162 (by decide) ?_
      have hPc := hP.sub (ws' := [(h0, .inr (9, [.int 0, .ref h1, .ref z0, .ref z1, .int 0, .int 0, .int 0]))]) [0] rfl
      have hDc := hD.sub (ws' := [(h0, .inr (9, [.int 0, .ref h1, .ref z0, .ref z1, .int 0, .int 0, .int 0]))]) [0] (by decide) rfl
      have hKc := hK.sub (tys' := []) [] rfl
      have hFc := va_free (wc := [(h0, .inr (9, [.int 0, .ref h1, .ref z0, .ref z1, .int 0, .int 0, .int 0]))]) hD hS hA [0] rfl
      refine va_calli (va_runV (As := [.int 1, .int 0, .int 0]) (rest := []) ⟨hx, hb, hml, hown, hts⟩ (kx_X5_fails_0 l dC dI h0 h1 z0 z1 H.size) (cwV 3 hts gX5_type_X5_fails rfl rfl rfl (by decide +kernel) ⟨Nat.le_of_ble_eq_true rfl, Nat.le_of_ble_eq_true rfl⟩) ⟨fun a U g mk q => by obtain ⟨q0, q1, qP, qK, qD⟩ := q; exact ⟨q0, q1, qP, va_K.moved (u := U) (U := U.calling g mk a) (Vm.Alike.refl U.vm) qK, qD⟩, va_recv hKc hPc (ci := 9) (q0 := 0) rfl rfl, fun U hU hW => ⟨rfl, by rw [hU], by rw [hU]; exact hPc, va_K.moved hW.alike hKc, hDc.weaken (fun _ _ _ _ => trivial)⟩⟩ rfl rfl hl.1 rfl (lv_room (Nat.le_of_ble_eq_true rfl)) dX5_type_163 ⟨Nat.le_of_ble_eq_true rfl, Nat.le_of_ble_eq_true rfl⟩) hS (fun q _ h => hFc q h) hFc (fun r9 u t H1 locs ht hvm hw hB hz1 hk1 hS => ?_)
      obtain rfl := hw
      obtain ⟨hP1, hK1, hD1⟩ := hB
      rw [ht] at hP1
      have hK1 := va_K.moved hvm.symm hK1
      obtain ⟨hP, hD⟩ := va_join (wr := [(h1, .inl (k0, 4, .inr (.inr (.inr (.inr (va_up (va_up (va_up (va_up (fun _ => none) 0 (some ge5)) 1 (some ge5)) 2 (some ge5)) 3 (some ge5))))))), (h2, .inl (k1, 5, .inl (upd (upd (upd (upd (upd (fun _ => 0) 0 l1) 1 l2) 2 l3) 3 l4) 4 l5))), (h3, .inr (0, [.ref h4, .int 0, .int 0, .int 0])), (h4, .inl (k2, 3, .inl f0))]) (w1 := [(h0, .inr (9, [.int 1, .ref h1, .ref z0, .ref z1, .int 0, .int 0, .int 0]))]) hP hD [0] [1, 2, 3, 4] rfl rfl (by decide) (by decide) hk1 hFc hP1 hD1
      generalize H1 = H at hP hS ⊢
      have hP : va_P (dC, dI) vwCl [(h1, .inl (k0, 4, .inr (.inr (.inr (.inr (va_up (va_up (va_up (va_up (fun _ => none) 0 (some ge5)) 1 (some ge5)) 2 (some ge5)) 3 (some ge5))))))), (h2, .inl (k1, 5, .inl (upd (upd (upd (upd (upd (fun _ => 0) 0 l1) 1 l2) 2 l3) 3 l4) 4 l5))), (h3, .inr (0, [.ref h4, .int 0, .int 0, .int 0])), (h4, .inl (k2, 3, .inl f0)), (h0, .inr (9, [.int 1, .ref h1, .ref z0, .ref z1, .int 0, .int 0, .int 0]))] H := hP
      have hD : va_D A [(h1, .inl (k0, 4, .inr (.inr (.inr (.inr (va_up (va_up (va_up (va_up (fun _ => none) 0 (some ge5)) 1 (some ge5)) 2 (some ge5)) 3 (some ge5))))))), (h2, .inl (k1, 5, .inl (upd (upd (upd (upd (upd (fun _ => 0) 0 l1) 1 l2) 2 l3) 3 l4) 4 l5))), (h3, .inr (0, [.ref h4, .int 0, .int 0, .int 0])), (h4, .inl (k2, 3, .inl f0)), (h0, .inr (9, [.int 1, .ref h1, .ref z0, .ref z1, .int 0, .int 0, .int 0]))] := hD
      refine lv_if_eq (tgt := 171) hx hb dX5_type_166 (by decide) (fun c9 => absurd c9 (by decide)) (fun _ => ?_)
      refine lv_iconst (v := 0) hx hb dX5_type_169 (by decide) ?_
      refine W.widen (k := 25) (n := 169) (Nat.le_of_ble_eq_true rfl) (Nat.le_of_ble_eq_true rfl) ?_
      have hK := hK.sub (tys' := [(k0, .object "java/lang/String")]) [0] rfl
      have hP := hP.sub (ws' := [(h0, .inr (9, [.int 1, .ref h1, .ref z0, .ref z1, .int 0, .int 0, .int 0]))]) [4] rfl
      have hD := hD.sub (ws' := [(h0, .inr (9, [.int 1, .ref h1, .ref z0, .ref z1, .int 0, .int 0, .int 0]))]) [4] (by decide) rfl
      exact W.iret (v := 0) hx hb hr (fun t ht hW => ⟨⟨0, (), rfl, rfl, by rw [ht]; exact hP, va_K.moved hW.alike hK, hD⟩, hS.F ht⟩) hS.2.2 dX5_type_170
set_option maxHeartbeats 4000000 in
set_option maxRecDepth 100000 in
theorem kx_J0_length_8abf5_5 (l : Launch) (dC : Nat → ClassId) (dI : Nat → Nat → Nat) (ge5 gea gv5 gva gde gic gi0 : Nat) (h0 : Nat) (h1 : Nat) (k0 : ClassId) (sz : Nat) (f0 : Nat → Int32) (f0_t : sb_Fit f0) : Met l yJ0_length_8abf5 wsJ0_length_8abf5 ({ frames := 1, cells := 0, slots := 0, locals := 20 }) (va_Pc [.ref h0] (fun U => U.heap.size = sz ∧ va_P (dC, dI) vwCl [(h0, .inr (0, [.ref h1, .int 0, .int 0, .int 0])), (h1, .inl (k0, 4, .inl f0))] U.heap ∧ va_K (dC, dI) vwCl [(k0, .byte)] U ∧ va_D (fun _ => True) [(h0, .inr (0, [.ref h1, .int 0, .int 0, .int 0])), (h1, .inl (k0, 4, .inl f0))] ∧ gv ge5 gea gv5 gva gde gic gi0 (va_A [(h0, .inr (0, [.ref h1, .int 0, .int 0, .int 0])), (h1, .inl (k0, 4, .inl f0))] sz) U U.heap)) (va_Qi (fun (r : Int32) (_ : Unit) => r = 4) (fun (_ : Unit) (t : State) => va_P (dC, dI) vwCl [(h0, .inr (0, [.ref h1, .int 0, .int 0, .int 0])), (h1, .inl (k0, 4, .inl f0))] t.heap ∧ va_K (dC, dI) vwCl [(k0, .byte)] t ∧ va_D (va_A [(h0, .inr (0, [.ref h1, .int 0, .int 0, .int 0])), (h1, .inl (k0, 4, .inl f0))] sz) [(h0, .inr (0, [.ref h1, .int 0, .int 0, .int 0])), (h1, .inl (k0, 4, .inl f0))]) (va_A [(h0, .inr (0, [.ref h1, .int 0, .int 0, .int 0])), (h1, .inl (k0, 4, .inl f0))] sz)) 0 0 (va_A [(h0, .inr (0, [.ref h1, .int 0, .int 0, .int 0])), (h1, .inl (k0, 4, .inl f0))] sz) := by
  refine Met.ofW (cc := cJ0_length_8abf5) (maxL := 1) (ret := (some .int)) (by decide) rfl ?_
  intro p e s m args below meth c s₁ B hml hv
  obtain ⟨rfl, hsz, hP, hK, hD0, hG⟩ := hv
  have hx := B.exec
  have hb := B.bytes
  have hr := B.returns
  have hts := atoms_spec (ws := wsJ0_length_8abf5) B.pre
  have hown : s.vm.findClass RJ0 = some m.cls := findClass_of_methodNamed B.named
  have hlocks := B.notSynchronized
  subst hsz
  have hD := hD0.self (sz := s.heap.size)
  generalize hAe : va_A [(h0, .inr (0, [.ref h1, .int 0, .int 0, .int 0])), (h1, .inl (k0, 4, .inl f0))] s.heap.size = A at hD hG ⊢
  obtain ⟨⟨g_AO_Text, g_AO_String, g_AO_Object, g_nm_RX1_20, g_nm_RX0_17, g_nm_RX3_31, g_nm_RX2_44, g_nm_RL_121, g_nf_RL_13, g_nf_RL_47, g_ca_IO, g_ca_IA, g_ca_IS, g_ca_IntObj, g_ca_StrObj, g_de_RT, g_de_EX, g_de_TH, g_nc_IA_IO, g_nc_IS_IO, g_nc_IS_IA⟩, ⟨g_s3, g_s5, g_sa, g_x278, g_x280, g_x282, g_x284, g_x286, g_x180, g_x238, g_x250⟩, ⟨g_o5, g_c5, g_v5, g_t5, g_oa, g_ca, g_va, g_ta, g_zc, g_zd, g_td, g_zf, g_zU, g_zN, g_zh, g_zk, g_tk, g_oi, g_vi⟩⟩ := id hG
  have hA : ∀ q : Nat, s.heap.size ≤ q → A q := fun q h => by rw [← hAe]; exact Or.inr h
  have hS : va_S A s.heap s.heap [] := va_S.rf
  have hP : va_P (dC, dI) vwCl [(h0, .inr (0, [.ref h1, .int 0, .int 0, .int 0])), (h1, .inl (k0, 4, .inl f0))] s.heap := hP
  have hl := lv_entry ([.ref h0]) (n := 1) (Nat.le_of_ble_eq_true rfl)
  rw [lg_entry_eq]
  generalize (lg_sl ([.ref h0]) ++ List.replicate (1 - (lg_sl ([.ref h0])).length) Slot.unset).toArray = ls at hl ⊢
  have hl : lv_has ls 1 [(0, .ref h0)] := hl
  refine lv_aload_n hx hb dJ0_length_8abf5_0 rfl (lv_at hl 0 rfl) ?_
  refine va_get (D := (dC, dI)) (ci := 0) (v := .ref h1) (C := RJ0) (T := TJ0) (N := 4) hx hb hts (by decide +kernel) hown hK hP 0 rfl rfl 0 (by decide) (hts (.fieldLink RJ0 9 "java/lang/String" "value" "[B") (by decide +kernel)) (fun _ h9 => h9) rfl dJ0_length_8abf5_1 ?_
  refine va_alen (D := (dC, dI)) (v := 4) hx hb hK hP 1 0 rfl rfl (show Int32.ofNat 4 = 4 from by decide) dJ0_length_8abf5_4 ?_
  refine lv_aload_n hx hb dJ0_length_8abf5_5 rfl (lv_at hl 0 rfl) ?_
  have hPc := hP.sub (ws' := [(h0, .inr (0, [.ref h1, .int 0, .int 0, .int 0]))]) [0] rfl
  have hDc := hD.sub (ws' := [(h0, .inr (0, [.ref h1, .int 0, .int 0, .int 0]))]) [0] (by decide) rfl
  have hKc := hK.sub (tys' := []) [] rfl
  have hFc := va_free (wc := [(h0, .inr (0, [.ref h1, .int 0, .int 0, .int 0]))]) hD hS hA [0] rfl
  refine va_calli (va_runV (As := []) (rest := [.int 4]) ⟨hx, hb, hml, hown, hts⟩ (kx_J0_coder_7d493_1 l dC dI ge5 gea gv5 gva gde gic gi0 h0 h1 s.heap.size) (cwV 0 hts gJ0_length_8abf5_J0_coder_7d493 rfl rfl rfl (by decide +kernel) ⟨Nat.le_of_ble_eq_true rfl, Nat.le_of_ble_eq_true rfl⟩) ⟨fun a U g mk q => by obtain ⟨q0, q1, qP, qK, qD, qG⟩ := q; exact ⟨q0, q1, qP, va_K.moved (u := U) (U := U.calling g mk a) (Vm.Alike.refl U.vm) qK, qD, gv.fb qG⟩, va_recv hKc hPc (ci := 0) (q0 := 0) rfl rfl, fun U hU hW => ⟨rfl, by rw [hU], by rw [hU]; exact hPc, va_K.moved hW.alike hKc, hDc.weaken (fun _ _ _ _ => trivial), gv.pass hW hU hS hFc hG⟩⟩ rfl rfl hl.1 rfl (lv_room (Nat.le_of_ble_eq_true rfl)) dJ0_length_8abf5_6 ⟨Nat.le_of_ble_eq_true rfl, Nat.le_of_ble_eq_true rfl⟩) hS (fun q _ h => hFc q h) hFc (fun r9 u t H1 locs ht hvm hw hB hz1 hk1 hS => ?_)
  obtain rfl := hw
  obtain ⟨hP1, hK1, hD1⟩ := hB
  rw [ht] at hP1
  have hK1 := va_K.moved hvm.symm hK1
  obtain ⟨hP, hD⟩ := va_join (wr := [(h1, .inl (k0, 4, .inl f0))]) (w1 := [(h0, .inr (0, [.ref h1, .int 0, .int 0, .int 0]))]) hP hD [0] [1] rfl rfl (by decide) (by decide) hk1 hFc hP1 hD1
  generalize H1 = H at hP hS ⊢
  have hP : va_P (dC, dI) vwCl [(h1, .inl (k0, 4, .inl f0)), (h0, .inr (0, [.ref h1, .int 0, .int 0, .int 0]))] H := hP
  have hD : va_D A [(h1, .inl (k0, 4, .inl f0)), (h0, .inr (0, [.ref h1, .int 0, .int 0, .int 0]))] := hD
  refine lv_ishr hx hb dJ0_length_8abf5_9 ?_
  refine lv_topi (fun y1 ey1 => ?_)
  obtain rfl : y1 = 4 := ey1.trans (by decide)
  have hP := hP.sub (ws' := [(h0, .inr (0, [.ref h1, .int 0, .int 0, .int 0])), (h1, .inl (k0, 4, .inl f0))]) [1, 0] rfl
  have hD := hD.sub (ws' := [(h0, .inr (0, [.ref h1, .int 0, .int 0, .int 0])), (h1, .inl (k0, 4, .inl f0))]) [1, 0] (by decide) rfl
  exact W.iret (v := 4) hx hb hr (fun t ht hW => ⟨⟨4, (), rfl, rfl, by rw [ht]; exact hP, va_K.moved hW.alike hK, hD⟩, hS.F ht⟩) hS.2.2 dJ0_length_8abf5_10
set_option maxHeartbeats 4000000 in
set_option maxRecDepth 100000 in
theorem kx_J5_ensureCapacityInternal_d00df_4 (l : Launch) (dC : Nat → ClassId) (dI : Nat → Nat → Nat) (h0 : Nat) (h1 : Nat) (k0 : ClassId) (sz : Nat) : Met l yJ5_ensureCapacityInternal_d00df wsJ5_ensureCapacityInternal_d00df ({ frames := 0, cells := 0, slots := 0, locals := 0 }) (va_Pc [.ref h0, .int 4] (fun U => U.heap.size = sz ∧ va_P (dC, dI) vwCl [(h0, .inr (1, [.ref h1, .int 0, .int 0, .int 0])), (h1, .inl (k0, 16, .inl (fun _ => 0)))] U.heap ∧ va_K (dC, dI) vwCl [(k0, .byte)] U ∧ va_D (fun _ => True) [(h0, .inr (1, [.ref h1, .int 0, .int 0, .int 0])), (h1, .inl (k0, 16, .inl (fun _ => 0)))])) (va_Qv (fun _ : Unit => True) (fun (_ : Unit) (t : State) => va_P (dC, dI) vwCl [(h0, .inr (1, [.ref h1, .int 0, .int 0, .int 0])), (h1, .inl (k0, 16, .inl (fun _ => 0)))] t.heap ∧ va_K (dC, dI) vwCl [(k0, .byte)] t ∧ va_D (va_A [(h0, .inr (1, [.ref h1, .int 0, .int 0, .int 0])), (h1, .inl (k0, 16, .inl (fun _ => 0)))] sz) [(h0, .inr (1, [.ref h1, .int 0, .int 0, .int 0])), (h1, .inl (k0, 16, .inl (fun _ => 0)))]) (va_A [(h0, .inr (1, [.ref h1, .int 0, .int 0, .int 0])), (h1, .inl (k0, 16, .inl (fun _ => 0)))] sz)) 0 0 (va_A [(h0, .inr (1, [.ref h1, .int 0, .int 0, .int 0])), (h1, .inl (k0, 16, .inl (fun _ => 0)))] sz) := by
  refine Met.ofW (cc := cJ5_ensureCapacityInternal_d00df) (maxL := 3) (ret := none) (by decide) rfl ?_
  intro p e s m args below meth c s₁ B hml hv
  obtain ⟨rfl, hsz, hP, hK, hD0⟩ := hv
  have hx := B.exec
  have hb := B.bytes
  have hr := B.returns
  have hts := atoms_spec (ws := wsJ5_ensureCapacityInternal_d00df) B.pre
  have hown : s.vm.findClass RJ5 = some m.cls := findClass_of_methodNamed B.named
  have hlocks := B.notSynchronized
  subst hsz
  have hD := hD0.self (sz := s.heap.size)
  generalize hAe : va_A [(h0, .inr (1, [.ref h1, .int 0, .int 0, .int 0])), (h1, .inl (k0, 16, .inl (fun _ => 0)))] s.heap.size = A at hD ⊢
  have hA : ∀ q : Nat, s.heap.size ≤ q → A q := fun q h => by rw [← hAe]; exact Or.inr h
  have hS : va_S A s.heap s.heap [] := va_S.rf
  have hP : va_P (dC, dI) vwCl [(h0, .inr (1, [.ref h1, .int 0, .int 0, .int 0])), (h1, .inl (k0, 16, .inl (fun _ => 0)))] s.heap := hP
  have hl := lv_entry ([.ref h0, .int 4]) (n := 3) (Nat.le_of_ble_eq_true rfl)
  rw [lg_entry_eq]
  generalize (lg_sl ([.ref h0, .int 4]) ++ List.replicate (3 - (lg_sl ([.ref h0, .int 4])).length) Slot.unset).toArray = ls at hl ⊢
  have hl : lv_has ls 3 [(0, .ref h0), (1, .int 4)] := hl
  refine lv_aload_n hx hb dJ5_ensureCapacityInternal_d00df_0 rfl (lv_at hl 0 rfl) ?_
  refine va_get (D := (dC, dI)) (ci := 1) (v := .ref h1) (C := RJ4) (T := TJ4) (N := 4) hx hb hts (by decide +kernel) hown hK hP 0 rfl rfl 0 (by decide) (hts (.fieldLink RJ5 15 "java/lang/AbstractStringBuilder" "value" "[B") (by decide +kernel)) (fun _ h9 => h9) rfl dJ5_ensureCapacityInternal_d00df_1 ?_
  refine va_alen (D := (dC, dI)) (v := 16) hx hb hK hP 1 0 rfl rfl (show Int32.ofNat 16 = 16 from by decide) dJ5_ensureCapacityInternal_d00df_4 ?_
  refine lv_aload_n hx hb dJ5_ensureCapacityInternal_d00df_5 rfl (lv_at hl 0 rfl) ?_
  refine va_get (D := (dC, dI)) (ci := 1) (v := .int 0) (C := RJ4) (T := TJ4) (N := 4) hx hb hts (by decide +kernel) hown hK hP 0 rfl rfl 1 (by decide) (hts (.fieldLink RJ5 22 "java/lang/AbstractStringBuilder" "coder" "B") (by decide +kernel)) (fun _ h9 => h9) rfl dJ5_ensureCapacityInternal_d00df_6 ?_
  refine lv_ishr hx hb dJ5_ensureCapacityInternal_d00df_9 ?_
  refine lv_topi (fun y1 ey1 => ?_)
  obtain rfl : y1 = 16 := ey1.trans (by decide)
  refine lv_istore_n (lv' := [(2, .int 16), (0, .ref h0), (1, .int 4)]) hx hb dJ5_ensureCapacityInternal_d00df_10 rfl hl (by decide) rfl (fun ls hl => ?_)
  refine lv_iload_n hx hb dJ5_ensureCapacityInternal_d00df_11 rfl (lv_at hl 2 rfl) ?_
  refine lv_iload_n hx hb dJ5_ensureCapacityInternal_d00df_12 rfl (lv_at hl 0 rfl) ?_
  refine lv_isub hx hb dJ5_ensureCapacityInternal_d00df_13 ?_
  refine lv_topi (fun y2 ey2 => ?_)
  obtain rfl : y2 = (-12) := ey2.trans (by decide)
  refine lv_if_le (tgt := 38) hx hb dJ5_ensureCapacityInternal_d00df_14 (by decide) (fun _ => ?_) (fun c9 => absurd (by decide) c9)
  exact W.vret hx hb hr (fun t ht hW => ⟨⟨(), rfl, trivial, by rw [ht]; exact hP, va_K.moved hW.alike hK, hD⟩, hS.F ht⟩) hS.2.2 dJ5_ensureCapacityInternal_d00df_38
set_option maxHeartbeats 4000000 in
set_option maxRecDepth 100000 in
theorem kx_J0_getBytes_840e7_4 (l : Launch) (dC : Nat → ClassId) (dI : Nat → Nat → Nat) (ge5 gea gv5 gva gde gic gi0 : Nat) (h0 : Nat) (h1 : Nat) (h2 : Nat) (k0 : ClassId) (k1 : ClassId) (sz : Nat) (f0 : Nat → Int32) (f0_t : sb_Fit f0) : Met l yJ0_getBytes_840e7 wsJ0_getBytes_840e7 ({ frames := 1, cells := 0, slots := 0, locals := 60 }) (va_Pc [.ref h2, .ref h1, .int 0, .int 0] (fun U => U.heap.size = sz ∧ va_P (dC, dI) vwCl [(h0, .inl (k0, 4, .inl f0)), (h1, .inl (k1, 16, .inl (fun _ => 0))), (h2, .inr (0, [.ref h0, .int 0, .int 0, .int 0]))] U.heap ∧ va_K (dC, dI) vwCl [(k0, .byte), (k1, .byte)] U ∧ va_D (fun _ => True) [(h0, .inl (k0, 4, .inl f0)), (h1, .inl (k1, 16, .inl (fun _ => 0))), (h2, .inr (0, [.ref h0, .int 0, .int 0, .int 0]))] ∧ gv ge5 gea gv5 gva gde gic gi0 (va_A [(h0, .inl (k0, 4, .inl f0)), (h1, .inl (k1, 16, .inl (fun _ => 0))), (h2, .inr (0, [.ref h0, .int 0, .int 0, .int 0]))] sz) U U.heap)) (va_Qv (fun _ : Unit => True) (fun (_ : Unit) (t : State) => ∃ f2 : Nat → Int32, sb_Fit f2 ∧ va_P (dC, dI) vwCl [(h0, .inl (k0, 4, .inl f0)), (h1, .inl (k1, 16, .inl f2)), (h2, .inr (0, [.ref h0, .int 0, .int 0, .int 0]))] t.heap ∧ va_K (dC, dI) vwCl [(k0, .byte), (k1, .byte)] t ∧ va_D (va_A [(h0, .inl (k0, 4, .inl f0)), (h1, .inl (k1, 16, .inl (fun _ => 0))), (h2, .inr (0, [.ref h0, .int 0, .int 0, .int 0]))] sz) [(h0, .inl (k0, 4, .inl f0)), (h1, .inl (k1, 16, .inl f2)), (h2, .inr (0, [.ref h0, .int 0, .int 0, .int 0]))]) (va_A [(h0, .inl (k0, 4, .inl f0)), (h1, .inl (k1, 16, .inl (fun _ => 0))), (h2, .inr (0, [.ref h0, .int 0, .int 0, .int 0]))] sz)) 0 0 (va_A [(h0, .inl (k0, 4, .inl f0)), (h1, .inl (k1, 16, .inl (fun _ => 0))), (h2, .inr (0, [.ref h0, .int 0, .int 0, .int 0]))] sz) := by
  refine Met.ofW (cc := cJ0_getBytes_840e7) (maxL := 4) (ret := none) (by decide) rfl ?_
  intro p e s m args below meth c s₁ B hml hv
  obtain ⟨rfl, hsz, hP, hK, hD0, hG⟩ := hv
  have hx := B.exec
  have hb := B.bytes
  have hr := B.returns
  have hts := atoms_spec (ws := wsJ0_getBytes_840e7) B.pre
  have hown : s.vm.findClass RJ0 = some m.cls := findClass_of_methodNamed B.named
  have hlocks := B.notSynchronized
  subst hsz
  have hD := hD0.self (sz := s.heap.size)
  generalize hAe : va_A [(h0, .inl (k0, 4, .inl f0)), (h1, .inl (k1, 16, .inl (fun _ => 0))), (h2, .inr (0, [.ref h0, .int 0, .int 0, .int 0]))] s.heap.size = A at hD hG ⊢
  obtain ⟨⟨g_AO_Text, g_AO_String, g_AO_Object, g_nm_RX1_20, g_nm_RX0_17, g_nm_RX3_31, g_nm_RX2_44, g_nm_RL_121, g_nf_RL_13, g_nf_RL_47, g_ca_IO, g_ca_IA, g_ca_IS, g_ca_IntObj, g_ca_StrObj, g_de_RT, g_de_EX, g_de_TH, g_nc_IA_IO, g_nc_IS_IO, g_nc_IS_IA⟩, ⟨g_s3, g_s5, g_sa, g_x278, g_x280, g_x282, g_x284, g_x286, g_x180, g_x238, g_x250⟩, ⟨g_o5, g_c5, g_v5, g_t5, g_oa, g_ca, g_va, g_ta, g_zc, g_zd, g_td, g_zf, g_zU, g_zN, g_zh, g_zk, g_tk, g_oi, g_vi⟩⟩ := id hG
  have hA : ∀ q : Nat, s.heap.size ≤ q → A q := fun q h => by rw [← hAe]; exact Or.inr h
  have hS : va_S A s.heap s.heap [] := va_S.rf
  have hP : va_P (dC, dI) vwCl [(h0, .inl (k0, 4, .inl f0)), (h1, .inl (k1, 16, .inl (fun _ => 0))), (h2, .inr (0, [.ref h0, .int 0, .int 0, .int 0]))] s.heap := hP
  have hl := lv_entry ([.ref h2, .ref h1, .int 0, .int 0]) (n := 4) (Nat.le_of_ble_eq_true rfl)
  rw [lg_entry_eq]
  generalize (lg_sl ([.ref h2, .ref h1, .int 0, .int 0]) ++ List.replicate (4 - (lg_sl ([.ref h2, .ref h1, .int 0, .int 0])).length) Slot.unset).toArray = ls at hl ⊢
  have hl : lv_has ls 4 [(0, .ref h2), (1, .ref h1), (2, .int 0), (3, .int 0)] := hl
  refine lv_aload_n hx hb dJ0_getBytes_840e7_0 rfl (lv_at hl 0 rfl) ?_
  have hPc := hP.sub (ws' := [(h2, .inr (0, [.ref h0, .int 0, .int 0, .int 0]))]) [2] rfl
  have hDc := hD.sub (ws' := [(h2, .inr (0, [.ref h0, .int 0, .int 0, .int 0]))]) [2] (by decide) rfl
  have hKc := hK.sub (tys' := []) [] rfl
  have hFc := va_free (wc := [(h2, .inr (0, [.ref h0, .int 0, .int 0, .int 0]))]) hD hS hA [2] rfl
  refine va_calli (va_runV (As := []) (rest := []) ⟨hx, hb, hml, hown, hts⟩ (kx_J0_coder_7d493_1 l dC dI ge5 gea gv5 gva gde gic gi0 h2 h0 s.heap.size) (cwV 0 hts gJ0_getBytes_840e7_J0_coder_7d493 rfl rfl rfl (by decide +kernel) ⟨Nat.le_of_ble_eq_true rfl, Nat.le_of_ble_eq_true rfl⟩) ⟨fun a U g mk q => by obtain ⟨q0, q1, qP, qK, qD, qG⟩ := q; exact ⟨q0, q1, qP, va_K.moved (u := U) (U := U.calling g mk a) (Vm.Alike.refl U.vm) qK, qD, gv.fb qG⟩, va_recv hKc hPc (ci := 0) (q0 := 0) rfl rfl, fun U hU hW => ⟨rfl, by rw [hU], by rw [hU]; exact hPc, va_K.moved hW.alike hKc, hDc.weaken (fun _ _ _ _ => trivial), gv.pass hW hU hS hFc hG⟩⟩ rfl rfl hl.1 rfl (lv_room (Nat.le_of_ble_eq_true rfl)) dJ0_getBytes_840e7_1 ⟨Nat.le_of_ble_eq_true rfl, Nat.le_of_ble_eq_true rfl⟩) hS (fun q _ h => hFc q h) hFc (fun r9 u t H1 locs ht hvm hw hB hz1 hk1 hS => ?_)
  obtain rfl := hw
  obtain ⟨hP1, hK1, hD1⟩ := hB
  rw [ht] at hP1
  have hK1 := va_K.moved hvm.symm hK1
  obtain ⟨hP, hD⟩ := va_join (wr := [(h0, .inl (k0, 4, .inl f0)), (h1, .inl (k1, 16, .inl (fun _ => 0)))]) (w1 := [(h2, .inr (0, [.ref h0, .int 0, .int 0, .int 0]))]) hP hD [2] [0, 1] rfl rfl (by decide) (by decide) hk1 hFc hP1 hD1
  generalize H1 = H at hP hS ⊢
  have hP : va_P (dC, dI) vwCl [(h0, .inl (k0, 4, .inl f0)), (h1, .inl (k1, 16, .inl (fun _ => 0))), (h2, .inr (0, [.ref h0, .int 0, .int 0, .int 0]))] H := hP
  have hD : va_D A [(h0, .inl (k0, 4, .inl f0)), (h1, .inl (k1, 16, .inl (fun _ => 0))), (h2, .inr (0, [.ref h0, .int 0, .int 0, .int 0]))] := hD
  refine lv_iload_n hx hb dJ0_getBytes_840e7_4 rfl (lv_at hl 3 rfl) ?_
  refine lv_icmp_ne (tgt := 28) hx hb dJ0_getBytes_840e7_5 (by decide) (fun c9 => absurd (by decide) c9) (fun _ => ?_)
  refine lv_aload_n hx hb dJ0_getBytes_840e7_8 rfl (lv_at hl 0 rfl) ?_
  refine va_get (D := (dC, dI)) (ci := 0) (v := .ref h0) (C := RJ0) (T := TJ0) (N := 4) hx hb hts (by decide +kernel) hown hK hP 2 rfl rfl 0 (by decide) (hts (.fieldLink RJ0 9 "java/lang/String" "value" "[B") (by decide +kernel)) (fun _ h9 => h9) rfl dJ0_getBytes_840e7_9 ?_
  refine lv_iconst (v := 0) hx hb dJ0_getBytes_840e7_12 (by decide) ?_
  refine lv_aload_n hx hb dJ0_getBytes_840e7_13 rfl (lv_at hl 1 rfl) ?_
  refine lv_iload_n hx hb dJ0_getBytes_840e7_14 rfl (lv_at hl 2 rfl) ?_
  refine lv_iload_n hx hb dJ0_getBytes_840e7_15 rfl (lv_at hl 3 rfl) ?_
  refine lv_ishl hx hb dJ0_getBytes_840e7_16 ?_
  refine lv_topi (fun y1 ey1 => ?_)
  obtain rfl : y1 = 0 := ey1.trans (by decide)
  refine lv_aload_n hx hb dJ0_getBytes_840e7_17 rfl (lv_at hl 0 rfl) ?_
  refine va_get (D := (dC, dI)) (ci := 0) (v := .ref h0) (C := RJ0) (T := TJ0) (N := 4) hx hb hts (by decide +kernel) hown hK hP 2 rfl rfl 0 (by decide) (hts (.fieldLink RJ0 9 "java/lang/String" "value" "[B") (by decide +kernel)) (fun _ h9 => h9) rfl dJ0_getBytes_840e7_18 ?_
  refine va_alen (D := (dC, dI)) (v := 4) hx hb hK hP 0 0 rfl rfl (show Int32.ofNat 4 = 4 from by decide) dJ0_getBytes_840e7_21 ?_
  refine va_copyi (D := (dC, dI)) (sp := 0) (dp := 0) (n := 4) hx hb (by rw [hml]; exact hl.1.symm) hown (hts (.methodLink RJ0 212 arraycopyName) (by decide +kernel)) (hts (.native arraycopyName) (by decide +kernel)) (hts (.static arraycopyName) (by decide +kernel)) (hts (.initialized "java/lang/System") (by decide +kernel)) hK hP hD hS 0 1 0 1 rfl rfl rfl rfl rfl (by decide) (by decide) (by decide) (by decide) (by decide) (fun i hi => f0_t _) (Nat.le_of_ble_eq_true rfl) (Nat.le_of_ble_eq_true rfl) dJ0_getBytes_840e7_22 (fun H locs hP hD hS => ?_)
  have hP : va_P (dC, dI) vwCl [(h0, .inl (k0, 4, .inl f0)), (h1, .inl (k1, 16, .inl (va_cpy f0 (fun _ => 0) (0 : Int32).toNatClampNeg (0 : Int32).toNatClampNeg (4 : Int32).toNatClampNeg))), (h2, .inr (0, [.ref h0, .int 0, .int 0, .int 0]))] H := hP
  have hD : va_D A [(h0, .inl (k0, 4, .inl f0)), (h1, .inl (k1, 16, .inl (va_cpy f0 (fun _ => 0) (0 : Int32).toNatClampNeg (0 : Int32).toNatClampNeg (4 : Int32).toNatClampNeg))), (h2, .inr (0, [.ref h0, .int 0, .int 0, .int 0]))] := hD
  obtain ⟨f2, hf2⟩ : ∃ f : Nat → Int32, f = va_cpy f0 (fun _ => 0) (0 : Int32).toNatClampNeg (0 : Int32).toNatClampNeg (4 : Int32).toNatClampNeg := ⟨_, rfl⟩
  have f2_t : sb_Fit f2 := by rw [hf2]; exact sb_fitC f0_t sb_fit0
  rw [← hf2] at hP hD
  refine lv_goto (tgt := 43) hx hb dJ0_getBytes_840e7_25 (by decide) ?_
  exact W.vret hx hb hr (fun t ht hW => ⟨⟨(), rfl, trivial, f2, f2_t, by rw [ht]; exact hP, va_K.moved hW.alike hK, hD⟩, hS.F ht⟩) hS.2.2 dJ0_getBytes_840e7_43
set_option maxHeartbeats 4000000 in
set_option maxRecDepth 100000 in
theorem kx_J5_putStringAt_47b60_4 (l : Launch) (dC : Nat → ClassId) (dI : Nat → Nat → Nat) (ge5 gea gv5 gva gde gic gi0 : Nat) (h0 : Nat) (h1 : Nat) (h2 : Nat) (h3 : Nat) (k0 : ClassId) (k1 : ClassId) (sz : Nat) (f0 : Nat → Int32) (f0_t : sb_Fit f0) : Met l yJ5_putStringAt_47b60 wsJ5_putStringAt_47b60 ({ frames := 2, cells := 0, slots := 0, locals := 83 }) (va_Pc [.ref h2, .int 0, .ref h0] (fun U => U.heap.size = sz ∧ va_P (dC, dI) vwCl [(h0, .inr (0, [.ref h1, .int 0, .int 0, .int 0])), (h1, .inl (k0, 4, .inl f0)), (h2, .inr (1, [.ref h3, .int 0, .int 0, .int 0])), (h3, .inl (k1, 16, .inl (fun _ => 0)))] U.heap ∧ va_K (dC, dI) vwCl [(k0, .byte), (k1, .byte)] U ∧ va_D (fun _ => True) [(h0, .inr (0, [.ref h1, .int 0, .int 0, .int 0])), (h1, .inl (k0, 4, .inl f0)), (h2, .inr (1, [.ref h3, .int 0, .int 0, .int 0])), (h3, .inl (k1, 16, .inl (fun _ => 0)))] ∧ gv ge5 gea gv5 gva gde gic gi0 (va_A [(h0, .inr (0, [.ref h1, .int 0, .int 0, .int 0])), (h1, .inl (k0, 4, .inl f0)), (h2, .inr (1, [.ref h3, .int 0, .int 0, .int 0])), (h3, .inl (k1, 16, .inl (fun _ => 0)))] sz) U U.heap)) (va_Qv (fun _ : Unit => True) (fun (_ : Unit) (t : State) => ∃ f1 : Nat → Int32, sb_Fit f1 ∧ va_P (dC, dI) vwCl [(h0, .inr (0, [.ref h1, .int 0, .int 0, .int 0])), (h1, .inl (k0, 4, .inl f0)), (h2, .inr (1, [.ref h3, .int 0, .int 0, .int 0])), (h3, .inl (k1, 16, .inl f1))] t.heap ∧ va_K (dC, dI) vwCl [(k0, .byte), (k1, .byte)] t ∧ va_D (va_A [(h0, .inr (0, [.ref h1, .int 0, .int 0, .int 0])), (h1, .inl (k0, 4, .inl f0)), (h2, .inr (1, [.ref h3, .int 0, .int 0, .int 0])), (h3, .inl (k1, 16, .inl (fun _ => 0)))] sz) [(h0, .inr (0, [.ref h1, .int 0, .int 0, .int 0])), (h1, .inl (k0, 4, .inl f0)), (h2, .inr (1, [.ref h3, .int 0, .int 0, .int 0])), (h3, .inl (k1, 16, .inl f1))]) (va_A [(h0, .inr (0, [.ref h1, .int 0, .int 0, .int 0])), (h1, .inl (k0, 4, .inl f0)), (h2, .inr (1, [.ref h3, .int 0, .int 0, .int 0])), (h3, .inl (k1, 16, .inl (fun _ => 0)))] sz)) 0 0 (va_A [(h0, .inr (0, [.ref h1, .int 0, .int 0, .int 0])), (h1, .inl (k0, 4, .inl f0)), (h2, .inr (1, [.ref h3, .int 0, .int 0, .int 0])), (h3, .inl (k1, 16, .inl (fun _ => 0)))] sz) := by
  refine Met.ofW (cc := cJ5_putStringAt_47b60) (maxL := 3) (ret := none) (by decide) rfl ?_
  intro p e s m args below meth c s₁ B hml hv
  obtain ⟨rfl, hsz, hP, hK, hD0, hG⟩ := hv
  have hx := B.exec
  have hb := B.bytes
  have hr := B.returns
  have hts := atoms_spec (ws := wsJ5_putStringAt_47b60) B.pre
  have hown : s.vm.findClass RJ5 = some m.cls := findClass_of_methodNamed B.named
  have hlocks := B.notSynchronized
  subst hsz
  have hD := hD0.self (sz := s.heap.size)
  generalize hAe : va_A [(h0, .inr (0, [.ref h1, .int 0, .int 0, .int 0])), (h1, .inl (k0, 4, .inl f0)), (h2, .inr (1, [.ref h3, .int 0, .int 0, .int 0])), (h3, .inl (k1, 16, .inl (fun _ => 0)))] s.heap.size = A at hD hG ⊢
  obtain ⟨⟨g_AO_Text, g_AO_String, g_AO_Object, g_nm_RX1_20, g_nm_RX0_17, g_nm_RX3_31, g_nm_RX2_44, g_nm_RL_121, g_nf_RL_13, g_nf_RL_47, g_ca_IO, g_ca_IA, g_ca_IS, g_ca_IntObj, g_ca_StrObj, g_de_RT, g_de_EX, g_de_TH, g_nc_IA_IO, g_nc_IS_IO, g_nc_IS_IA⟩, ⟨g_s3, g_s5, g_sa, g_x278, g_x280, g_x282, g_x284, g_x286, g_x180, g_x238, g_x250⟩, ⟨g_o5, g_c5, g_v5, g_t5, g_oa, g_ca, g_va, g_ta, g_zc, g_zd, g_td, g_zf, g_zU, g_zN, g_zh, g_zk, g_tk, g_oi, g_vi⟩⟩ := id hG
  have hA : ∀ q : Nat, s.heap.size ≤ q → A q := fun q h => by rw [← hAe]; exact Or.inr h
  have hS : va_S A s.heap s.heap [] := va_S.rf
  have hP : va_P (dC, dI) vwCl [(h0, .inr (0, [.ref h1, .int 0, .int 0, .int 0])), (h1, .inl (k0, 4, .inl f0)), (h2, .inr (1, [.ref h3, .int 0, .int 0, .int 0])), (h3, .inl (k1, 16, .inl (fun _ => 0)))] s.heap := hP
  have hl := lv_entry ([.ref h2, .int 0, .ref h0]) (n := 3) (Nat.le_of_ble_eq_true rfl)
  rw [lg_entry_eq]
  generalize (lg_sl ([.ref h2, .int 0, .ref h0]) ++ List.replicate (3 - (lg_sl ([.ref h2, .int 0, .ref h0])).length) Slot.unset).toArray = ls at hl ⊢
  have hl : lv_has ls 3 [(0, .ref h2), (1, .int 0), (2, .ref h0)] := hl
  refine lv_aload_n hx hb dJ5_putStringAt_47b60_0 rfl (lv_at hl 0 rfl) ?_
  refine lv_aload_n hx hb dJ5_putStringAt_47b60_1 rfl (lv_at hl 2 rfl) ?_
  have hPc := hP.sub (ws' := [(h0, .inr (0, [.ref h1, .int 0, .int 0, .int 0])), (h2, .inr (1, [.ref h3, .int 0, .int 0, .int 0]))]) [0, 2] rfl
  have hDc := hD.sub (ws' := [(h0, .inr (0, [.ref h1, .int 0, .int 0, .int 0])), (h2, .inr (1, [.ref h3, .int 0, .int 0, .int 0]))]) [0, 2] (by decide) rfl
  have hKc := hK.sub (tys' := []) [] rfl
  have hFc := va_free (wc := [(h0, .inr (0, [.ref h1, .int 0, .int 0, .int 0])), (h2, .inr (1, [.ref h3, .int 0, .int 0, .int 0]))]) hD hS hA [0, 2] rfl
  refine va_callv (va_runU (As := [.ref h0]) (rest := []) ⟨hx, hb, hml, hown, hts⟩ (kx_J5_inflateIfNeededFor_a7421_1 l dC dI ge5 gea gv5 gva gde gic gi0 h0 h2 h1 h3 s.heap.size) (va_cwU 1 hts gJ5_putStringAt_47b60_J5_inflateIfNeededFor_a7421_u397J4 rfl rfl rfl rfl (by decide +kernel) ⟨Nat.le_of_ble_eq_true rfl, Nat.le_of_ble_eq_true rfl⟩) ⟨fun a U g mk q => by obtain ⟨q0, q1, qP, qK, qD, qG⟩ := q; exact ⟨q0, q1, qP, va_K.moved (u := U) (U := U.calling g mk a) (Vm.Alike.refl U.vm) qK, qD, gv.fb qG⟩, va_recv hKc hPc (ci := 1) (q0 := 1) rfl rfl, fun U hU hW => ⟨rfl, by rw [hU], by rw [hU]; exact hPc, va_K.moved hW.alike hKc, hDc.weaken (fun _ _ _ _ => trivial), gv.pass hW hU hS hFc hG⟩⟩ rfl rfl hl.1 rfl (lv_room (Nat.le_of_ble_eq_true rfl)) dJ5_putStringAt_47b60_2 ⟨Nat.le_of_ble_eq_true rfl, Nat.le_of_ble_eq_true rfl⟩) hS (fun q _ h => hFc q h) hFc (fun u t H1 locs ht hvm hw hB hz1 hk1 hS => ?_)
  obtain ⟨hP1, hK1, hD1⟩ := hB
  rw [ht] at hP1
  have hK1 := va_K.moved hvm.symm hK1
  obtain ⟨hP, hD⟩ := va_join (wr := [(h1, .inl (k0, 4, .inl f0)), (h3, .inl (k1, 16, .inl (fun _ => 0)))]) (w1 := [(h0, .inr (0, [.ref h1, .int 0, .int 0, .int 0])), (h2, .inr (1, [.ref h3, .int 0, .int 0, .int 0]))]) hP hD [0, 2] [1, 3] rfl rfl (by decide) (by decide) hk1 hFc hP1 hD1
  generalize H1 = H at hP hS ⊢
  have hP : va_P (dC, dI) vwCl [(h1, .inl (k0, 4, .inl f0)), (h3, .inl (k1, 16, .inl (fun _ => 0))), (h0, .inr (0, [.ref h1, .int 0, .int 0, .int 0])), (h2, .inr (1, [.ref h3, .int 0, .int 0, .int 0]))] H := hP
  have hD : va_D A [(h1, .inl (k0, 4, .inl f0)), (h3, .inl (k1, 16, .inl (fun _ => 0))), (h0, .inr (0, [.ref h1, .int 0, .int 0, .int 0])), (h2, .inr (1, [.ref h3, .int 0, .int 0, .int 0]))] := hD
  refine lv_aload_n hx hb dJ5_putStringAt_47b60_5 rfl (lv_at hl 2 rfl) ?_
  refine lv_aload_n hx hb dJ5_putStringAt_47b60_6 rfl (lv_at hl 0 rfl) ?_
  refine va_get (D := (dC, dI)) (ci := 1) (v := .ref h3) (C := RJ4) (T := TJ4) (N := 4) hx hb hts (by decide +kernel) hown hK hP 3 rfl rfl 0 (by decide) (hts (.fieldLink RJ5 15 "java/lang/AbstractStringBuilder" "value" "[B") (by decide +kernel)) (fun _ h9 => h9) rfl dJ5_putStringAt_47b60_7 ?_
  refine lv_iload_n hx hb dJ5_putStringAt_47b60_10 rfl (lv_at hl 1 rfl) ?_
  refine lv_aload_n hx hb dJ5_putStringAt_47b60_11 rfl (lv_at hl 0 rfl) ?_
  refine va_get (D := (dC, dI)) (ci := 1) (v := .int 0) (C := RJ4) (T := TJ4) (N := 4) hx hb hts (by decide +kernel) hown hK hP 3 rfl rfl 1 (by decide) (hts (.fieldLink RJ5 22 "java/lang/AbstractStringBuilder" "coder" "B") (by decide +kernel)) (fun _ h9 => h9) rfl dJ5_putStringAt_47b60_12 ?_
  have hPc := hP.sub (ws' := [(h1, .inl (k0, 4, .inl f0)), (h3, .inl (k1, 16, .inl (fun _ => 0))), (h0, .inr (0, [.ref h1, .int 0, .int 0, .int 0]))]) [0, 1, 2] rfl
  have hDc := hD.sub (ws' := [(h1, .inl (k0, 4, .inl f0)), (h3, .inl (k1, 16, .inl (fun _ => 0))), (h0, .inr (0, [.ref h1, .int 0, .int 0, .int 0]))]) [0, 1, 2] (by decide) rfl
  have hKc := hK.sub (tys' := [(k0, .byte), (k1, .byte)]) [0, 1] rfl
  have hFc := va_free (wc := [(h1, .inl (k0, 4, .inl f0)), (h3, .inl (k1, 16, .inl (fun _ => 0))), (h0, .inr (0, [.ref h1, .int 0, .int 0, .int 0]))]) hD hS hA [0, 1, 2] rfl
  refine va_callv (va_runV (As := [.ref h3, .int 0, .int 0]) (rest := []) ⟨hx, hb, hml, hown, hts⟩ (kx_J0_getBytes_840e7_4 l dC dI ge5 gea gv5 gva gde gic gi0 h1 h3 h0 k0 k1 H.size f0 f0_t) (cwV 3 hts gJ5_putStringAt_47b60_J0_getBytes_840e7 rfl rfl rfl (by decide +kernel) ⟨Nat.le_of_ble_eq_true rfl, Nat.le_of_ble_eq_true rfl⟩) ⟨fun a U g mk q => by obtain ⟨q0, q1, qP, qK, qD, qG⟩ := q; exact ⟨q0, q1, qP, va_K.moved (u := U) (U := U.calling g mk a) (Vm.Alike.refl U.vm) qK, qD, gv.fb qG⟩, va_recv hKc hPc (ci := 0) (q0 := 2) rfl rfl, fun U hU hW => ⟨rfl, by rw [hU], by rw [hU]; exact hPc, va_K.moved hW.alike hKc, hDc.weaken (fun _ _ _ _ => trivial), gv.pass hW hU hS hFc hG⟩⟩ rfl rfl hl.1 rfl (lv_room (Nat.le_of_ble_eq_true rfl)) dJ5_putStringAt_47b60_15 ⟨Nat.le_of_ble_eq_true rfl, Nat.le_of_ble_eq_true rfl⟩) hS (fun q _ h => hFc q h) hFc (fun u t H1 locs ht hvm hw hB hz1 hk1 hS => ?_)
  obtain ⟨f1, f1_t, hP1, hK1, hD1⟩ := hB
  rw [ht] at hP1
  have hK1 := va_K.moved hvm.symm hK1
  obtain ⟨hP, hD⟩ := va_join (wr := [(h2, .inr (1, [.ref h3, .int 0, .int 0, .int 0]))]) (w1 := [(h1, .inl (k0, 4, .inl f0)), (h3, .inl (k1, 16, .inl f1)), (h0, .inr (0, [.ref h1, .int 0, .int 0, .int 0]))]) hP hD [0, 1, 2] [3] rfl rfl (by decide) (by decide) hk1 hFc hP1 hD1
  generalize H1 = H at hP hS ⊢
  have hP : va_P (dC, dI) vwCl [(h2, .inr (1, [.ref h3, .int 0, .int 0, .int 0])), (h1, .inl (k0, 4, .inl f0)), (h3, .inl (k1, 16, .inl f1)), (h0, .inr (0, [.ref h1, .int 0, .int 0, .int 0]))] H := hP
  have hD : va_D A [(h2, .inr (1, [.ref h3, .int 0, .int 0, .int 0])), (h1, .inl (k0, 4, .inl f0)), (h3, .inl (k1, 16, .inl f1)), (h0, .inr (0, [.ref h1, .int 0, .int 0, .int 0]))] := hD
  have hP := hP.sub (ws' := [(h0, .inr (0, [.ref h1, .int 0, .int 0, .int 0])), (h1, .inl (k0, 4, .inl f0)), (h2, .inr (1, [.ref h3, .int 0, .int 0, .int 0])), (h3, .inl (k1, 16, .inl f1))]) [3, 1, 0, 2] rfl
  have hD := hD.sub (ws' := [(h0, .inr (0, [.ref h1, .int 0, .int 0, .int 0])), (h1, .inl (k0, 4, .inl f0)), (h2, .inr (1, [.ref h3, .int 0, .int 0, .int 0])), (h3, .inl (k1, 16, .inl f1))]) [3, 1, 0, 2] (by decide) rfl
  exact W.vret hx hb hr (fun t ht hW => ⟨⟨(), rfl, trivial, f1, f1_t, by rw [ht]; exact hP, va_K.moved hW.alike hK, hD⟩, hS.F ht⟩) hS.2.2 dJ5_putStringAt_47b60_18
set_option maxHeartbeats 4000000 in
set_option maxRecDepth 100000 in
theorem kx_J5_append_cf1ce_4 (l : Launch) (dC : Nat → ClassId) (dI : Nat → Nat → Nat) (ge5 gea gv5 gva gde gic gi0 : Nat) (h0 : Nat) (h1 : Nat) (h2 : Nat) (h3 : Nat) (k0 : ClassId) (k1 : ClassId) (sz : Nat) (f0 : Nat → Int32) (f0_t : sb_Fit f0) : Met l yJ5_append_cf1ce wsJ5_append_cf1ce ({ frames := 3, cells := 0, slots := 0, locals := 105 }) (va_Pc [.ref h2, .ref h0] (fun U => U.heap.size = sz ∧ va_P (dC, dI) vwCl [(h0, .inr (0, [.ref h1, .int 0, .int 0, .int 0])), (h1, .inl (k0, 4, .inl f0)), (h2, .inr (1, [.ref h3, .int 0, .int 0, .int 0])), (h3, .inl (k1, 16, .inl (fun _ => 0)))] U.heap ∧ va_K (dC, dI) vwCl [(k0, .byte), (k1, .byte)] U ∧ va_D (fun _ => True) [(h0, .inr (0, [.ref h1, .int 0, .int 0, .int 0])), (h1, .inl (k0, 4, .inl f0)), (h2, .inr (1, [.ref h3, .int 0, .int 0, .int 0])), (h3, .inl (k1, 16, .inl (fun _ => 0)))] ∧ gv ge5 gea gv5 gva gde gic gi0 (va_A [(h0, .inr (0, [.ref h1, .int 0, .int 0, .int 0])), (h1, .inl (k0, 4, .inl f0)), (h2, .inr (1, [.ref h3, .int 0, .int 0, .int 0])), (h3, .inl (k1, 16, .inl (fun _ => 0)))] sz) U U.heap)) (va_Qr (fun _ : Unit => True) (fun (_ : Unit) (ra : Nat) (t : State) => ∃ f2 : Nat → Int32, sb_Fit f2 ∧ ra = h2 ∧ va_P (dC, dI) vwCl [(h0, .inr (0, [.ref h1, .int 0, .int 0, .int 0])), (h1, .inl (k0, 4, .inl f0)), (h2, .inr (1, [.ref h3, .int 0, .int 0, .int 4])), (h3, .inl (k1, 16, .inl f2))] t.heap ∧ va_K (dC, dI) vwCl [(k0, .byte), (k1, .byte)] t ∧ va_D (va_A [(h0, .inr (0, [.ref h1, .int 0, .int 0, .int 0])), (h1, .inl (k0, 4, .inl f0)), (h2, .inr (1, [.ref h3, .int 0, .int 0, .int 0])), (h3, .inl (k1, 16, .inl (fun _ => 0)))] sz) [(h0, .inr (0, [.ref h1, .int 0, .int 0, .int 0])), (h1, .inl (k0, 4, .inl f0)), (h2, .inr (1, [.ref h3, .int 0, .int 0, .int 4])), (h3, .inl (k1, 16, .inl f2))]) (va_A [(h0, .inr (0, [.ref h1, .int 0, .int 0, .int 0])), (h1, .inl (k0, 4, .inl f0)), (h2, .inr (1, [.ref h3, .int 0, .int 0, .int 0])), (h3, .inl (k1, 16, .inl (fun _ => 0)))] sz)) 0 0 (va_A [(h0, .inr (0, [.ref h1, .int 0, .int 0, .int 0])), (h1, .inl (k0, 4, .inl f0)), (h2, .inr (1, [.ref h3, .int 0, .int 0, .int 0])), (h3, .inl (k1, 16, .inl (fun _ => 0)))] sz) := by
  refine Met.ofW (cc := cJ5_append_cf1ce) (maxL := 3) (ret := (some (.object "java/lang/AbstractStringBuilder"))) (by decide) rfl ?_
  intro p e s m args below meth c s₁ B hml hv
  obtain ⟨rfl, hsz, hP, hK, hD0, hG⟩ := hv
  have hx := B.exec
  have hb := B.bytes
  have hr := B.returns
  have hts := atoms_spec (ws := wsJ5_append_cf1ce) B.pre
  have hown : s.vm.findClass RJ5 = some m.cls := findClass_of_methodNamed B.named
  have hlocks := B.notSynchronized
  subst hsz
  have hD := hD0.self (sz := s.heap.size)
  generalize hAe : va_A [(h0, .inr (0, [.ref h1, .int 0, .int 0, .int 0])), (h1, .inl (k0, 4, .inl f0)), (h2, .inr (1, [.ref h3, .int 0, .int 0, .int 0])), (h3, .inl (k1, 16, .inl (fun _ => 0)))] s.heap.size = A at hD hG ⊢
  obtain ⟨⟨g_AO_Text, g_AO_String, g_AO_Object, g_nm_RX1_20, g_nm_RX0_17, g_nm_RX3_31, g_nm_RX2_44, g_nm_RL_121, g_nf_RL_13, g_nf_RL_47, g_ca_IO, g_ca_IA, g_ca_IS, g_ca_IntObj, g_ca_StrObj, g_de_RT, g_de_EX, g_de_TH, g_nc_IA_IO, g_nc_IS_IO, g_nc_IS_IA⟩, ⟨g_s3, g_s5, g_sa, g_x278, g_x280, g_x282, g_x284, g_x286, g_x180, g_x238, g_x250⟩, ⟨g_o5, g_c5, g_v5, g_t5, g_oa, g_ca, g_va, g_ta, g_zc, g_zd, g_td, g_zf, g_zU, g_zN, g_zh, g_zk, g_tk, g_oi, g_vi⟩⟩ := id hG
  have hA : ∀ q : Nat, s.heap.size ≤ q → A q := fun q h => by rw [← hAe]; exact Or.inr h
  have hS : va_S A s.heap s.heap [] := va_S.rf
  have hP : va_P (dC, dI) vwCl [(h0, .inr (0, [.ref h1, .int 0, .int 0, .int 0])), (h1, .inl (k0, 4, .inl f0)), (h2, .inr (1, [.ref h3, .int 0, .int 0, .int 0])), (h3, .inl (k1, 16, .inl (fun _ => 0)))] s.heap := hP
  have hl := lv_entry ([.ref h2, .ref h0]) (n := 3) (Nat.le_of_ble_eq_true rfl)
  rw [lg_entry_eq]
  generalize (lg_sl ([.ref h2, .ref h0]) ++ List.replicate (3 - (lg_sl ([.ref h2, .ref h0])).length) Slot.unset).toArray = ls at hl ⊢
  have hl : lv_has ls 3 [(0, .ref h2), (1, .ref h0)] := hl
  refine lv_aload_n hx hb dJ5_append_cf1ce_0 rfl (lv_at hl 1 rfl) ?_
  refine lv_ifnonnull (tgt := 9) hx hb dJ5_append_cf1ce_1 (by decide) ?_
  refine lv_aload_n hx hb dJ5_append_cf1ce_9 rfl (lv_at hl 1 rfl) ?_
  have hPc := hP.sub (ws' := [(h0, .inr (0, [.ref h1, .int 0, .int 0, .int 0])), (h1, .inl (k0, 4, .inl f0))]) [0, 1] rfl
  have hDc := hD.sub (ws' := [(h0, .inr (0, [.ref h1, .int 0, .int 0, .int 0])), (h1, .inl (k0, 4, .inl f0))]) [0, 1] (by decide) rfl
  have hKc := hK.sub (tys' := [(k0, .byte)]) [0] rfl
  have hFc := va_free (wc := [(h0, .inr (0, [.ref h1, .int 0, .int 0, .int 0])), (h1, .inl (k0, 4, .inl f0))]) hD hS hA [0, 1] rfl
  refine va_calli (va_runV (As := []) (rest := []) ⟨hx, hb, hml, hown, hts⟩ (kx_J0_length_8abf5_5 l dC dI ge5 gea gv5 gva gde gic gi0 h0 h1 k0 s.heap.size f0 f0_t) (cwV 0 hts gJ5_append_cf1ce_J0_length_8abf5 rfl rfl rfl (by decide +kernel) ⟨Nat.le_of_ble_eq_true rfl, Nat.le_of_ble_eq_true rfl⟩) ⟨fun a U g mk q => by obtain ⟨q0, q1, qP, qK, qD, qG⟩ := q; exact ⟨q0, q1, qP, va_K.moved (u := U) (U := U.calling g mk a) (Vm.Alike.refl U.vm) qK, qD, gv.fb qG⟩, va_recv hKc hPc (ci := 0) (q0 := 0) rfl rfl, fun U hU hW => ⟨rfl, by rw [hU], by rw [hU]; exact hPc, va_K.moved hW.alike hKc, hDc.weaken (fun _ _ _ _ => trivial), gv.pass hW hU hS hFc hG⟩⟩ rfl rfl hl.1 rfl (lv_room (Nat.le_of_ble_eq_true rfl)) dJ5_append_cf1ce_10 ⟨Nat.le_of_ble_eq_true rfl, Nat.le_of_ble_eq_true rfl⟩) hS (fun q _ h => hFc q h) hFc (fun r9 u t H1 locs ht hvm hw hB hz1 hk1 hS => ?_)
  obtain rfl := hw
  obtain ⟨hP1, hK1, hD1⟩ := hB
  rw [ht] at hP1
  have hK1 := va_K.moved hvm.symm hK1
  obtain ⟨hP, hD⟩ := va_join (wr := [(h2, .inr (1, [.ref h3, .int 0, .int 0, .int 0])), (h3, .inl (k1, 16, .inl (fun _ => 0)))]) (w1 := [(h0, .inr (0, [.ref h1, .int 0, .int 0, .int 0])), (h1, .inl (k0, 4, .inl f0))]) hP hD [0, 1] [2, 3] rfl rfl (by decide) (by decide) hk1 hFc hP1 hD1
  generalize H1 = H at hP hS ⊢
  have hP : va_P (dC, dI) vwCl [(h2, .inr (1, [.ref h3, .int 0, .int 0, .int 0])), (h3, .inl (k1, 16, .inl (fun _ => 0))), (h0, .inr (0, [.ref h1, .int 0, .int 0, .int 0])), (h1, .inl (k0, 4, .inl f0))] H := hP
  have hD : va_D A [(h2, .inr (1, [.ref h3, .int 0, .int 0, .int 0])), (h3, .inl (k1, 16, .inl (fun _ => 0))), (h0, .inr (0, [.ref h1, .int 0, .int 0, .int 0])), (h1, .inl (k0, 4, .inl f0))] := hD
  refine lv_istore_n (lv' := [(2, .int 4), (0, .ref h2), (1, .ref h0)]) hx hb dJ5_append_cf1ce_13 rfl hl (by decide) rfl (fun ls hl => ?_)
  refine lv_aload_n hx hb dJ5_append_cf1ce_14 rfl (lv_at hl 1 rfl) ?_
  refine lv_aload_n hx hb dJ5_append_cf1ce_15 rfl (lv_at hl 1 rfl) ?_
  refine va_get (D := (dC, dI)) (ci := 1) (v := .int 0) (C := RJ4) (T := TJ4) (N := 4) hx hb hts (by decide +kernel) hown hK hP 0 rfl rfl 3 (by decide) (hts (.fieldLink RJ5 79 "java/lang/AbstractStringBuilder" "count" "I") (by decide +kernel)) (fun _ h9 => h9) rfl dJ5_append_cf1ce_16 ?_
  refine lv_iload_n hx hb dJ5_append_cf1ce_19 rfl (lv_at hl 0 rfl) ?_
  refine lv_iadd hx hb dJ5_append_cf1ce_20 ?_
  refine lv_topi (fun y1 ey1 => ?_)
  obtain rfl : y1 = 4 := ey1.trans (by decide)
  have hPc := hP.sub (ws' := [(h2, .inr (1, [.ref h3, .int 0, .int 0, .int 0])), (h3, .inl (k1, 16, .inl (fun _ => 0)))]) [0, 1] rfl
  have hDc := hD.sub (ws' := [(h2, .inr (1, [.ref h3, .int 0, .int 0, .int 0])), (h3, .inl (k1, 16, .inl (fun _ => 0)))]) [0, 1] (by decide) rfl
  have hKc := hK.sub (tys' := [(k1, .byte)]) [1] rfl
  have hFc := va_free (wc := [(h2, .inr (1, [.ref h3, .int 0, .int 0, .int 0])), (h3, .inl (k1, 16, .inl (fun _ => 0)))]) hD hS hA [0, 1] rfl
  refine va_callv (va_runU (As := [.int 4]) (rest := []) ⟨hx, hb, hml, hown, hts⟩ (kx_J5_ensureCapacityInternal_d00df_4 l dC dI h2 h3 k1 H.size) (va_cwU 1 hts gJ5_append_cf1ce_J5_ensureCapacityInternal_d00df_u100J4 rfl rfl rfl rfl (by decide +kernel) ⟨Nat.le_of_ble_eq_true rfl, Nat.le_of_ble_eq_true rfl⟩) ⟨fun a U g mk q => by obtain ⟨q0, q1, qP, qK, qD⟩ := q; exact ⟨q0, q1, qP, va_K.moved (u := U) (U := U.calling g mk a) (Vm.Alike.refl U.vm) qK, qD⟩, va_recv hKc hPc (ci := 1) (q0 := 0) rfl rfl, fun U hU hW => ⟨rfl, by rw [hU], by rw [hU]; exact hPc, va_K.moved hW.alike hKc, hDc.weaken (fun _ _ _ _ => trivial)⟩⟩ rfl rfl hl.1 rfl (lv_room (Nat.le_of_ble_eq_true rfl)) dJ5_append_cf1ce_21 ⟨Nat.le_of_ble_eq_true rfl, Nat.le_of_ble_eq_true rfl⟩) hS (fun q _ h => hFc q h) hFc (fun u t H1 locs ht hvm hw hB hz1 hk1 hS => ?_)
  obtain ⟨hP1, hK1, hD1⟩ := hB
  rw [ht] at hP1
  have hK1 := va_K.moved hvm.symm hK1
  obtain ⟨hP, hD⟩ := va_join (wr := [(h0, .inr (0, [.ref h1, .int 0, .int 0, .int 0])), (h1, .inl (k0, 4, .inl f0))]) (w1 := [(h2, .inr (1, [.ref h3, .int 0, .int 0, .int 0])), (h3, .inl (k1, 16, .inl (fun _ => 0)))]) hP hD [0, 1] [2, 3] rfl rfl (by decide) (by decide) hk1 hFc hP1 hD1
  generalize H1 = H at hP hS ⊢
  have hP : va_P (dC, dI) vwCl [(h0, .inr (0, [.ref h1, .int 0, .int 0, .int 0])), (h1, .inl (k0, 4, .inl f0)), (h2, .inr (1, [.ref h3, .int 0, .int 0, .int 0])), (h3, .inl (k1, 16, .inl (fun _ => 0)))] H := hP
  have hD : va_D A [(h0, .inr (0, [.ref h1, .int 0, .int 0, .int 0])), (h1, .inl (k0, 4, .inl f0)), (h2, .inr (1, [.ref h3, .int 0, .int 0, .int 0])), (h3, .inl (k1, 16, .inl (fun _ => 0)))] := hD
  refine lv_aload_n hx hb dJ5_append_cf1ce_24 rfl (lv_at hl 1 rfl) ?_
  refine lv_aload_n hx hb dJ5_append_cf1ce_25 rfl (lv_at hl 1 rfl) ?_
  refine va_get (D := (dC, dI)) (ci := 1) (v := .int 0) (C := RJ4) (T := TJ4) (N := 4) hx hb hts (by decide +kernel) hown hK hP 2 rfl rfl 3 (by decide) (hts (.fieldLink RJ5 79 "java/lang/AbstractStringBuilder" "count" "I") (by decide +kernel)) (fun _ h9 => h9) rfl dJ5_append_cf1ce_26 ?_
  refine lv_aload_n hx hb dJ5_append_cf1ce_29 rfl (lv_at hl 2 rfl) ?_
  have hPc := hP.sub (ws' := [(h0, .inr (0, [.ref h1, .int 0, .int 0, .int 0])), (h1, .inl (k0, 4, .inl f0)), (h2, .inr (1, [.ref h3, .int 0, .int 0, .int 0])), (h3, .inl (k1, 16, .inl (fun _ => 0)))]) [0, 1, 2, 3] rfl
  have hDc := hD.sub (ws' := [(h0, .inr (0, [.ref h1, .int 0, .int 0, .int 0])), (h1, .inl (k0, 4, .inl f0)), (h2, .inr (1, [.ref h3, .int 0, .int 0, .int 0])), (h3, .inl (k1, 16, .inl (fun _ => 0)))]) [0, 1, 2, 3] (by decide) rfl
  have hKc := hK.sub (tys' := [(k0, .byte), (k1, .byte)]) [0, 1] rfl
  have hFc := va_free (wc := [(h0, .inr (0, [.ref h1, .int 0, .int 0, .int 0])), (h1, .inl (k0, 4, .inl f0)), (h2, .inr (1, [.ref h3, .int 0, .int 0, .int 0])), (h3, .inl (k1, 16, .inl (fun _ => 0)))]) hD hS hA [0, 1, 2, 3] rfl
  refine va_callv (va_runU (As := [.int 0, .ref h0]) (rest := []) ⟨hx, hb, hml, hown, hts⟩ (kx_J5_putStringAt_47b60_4 l dC dI ge5 gea gv5 gva gde gic gi0 h0 h1 h2 h3 k0 k1 H.size f0 f0_t) (va_cwU 2 hts gJ5_append_cf1ce_J5_putStringAt_47b60_u208J4 rfl rfl rfl rfl (by decide +kernel) ⟨Nat.le_of_ble_eq_true rfl, Nat.le_of_ble_eq_true rfl⟩) ⟨fun a U g mk q => by obtain ⟨q0, q1, qP, qK, qD, qG⟩ := q; exact ⟨q0, q1, qP, va_K.moved (u := U) (U := U.calling g mk a) (Vm.Alike.refl U.vm) qK, qD, gv.fb qG⟩, va_recv hKc hPc (ci := 1) (q0 := 2) rfl rfl, fun U hU hW => ⟨rfl, by rw [hU], by rw [hU]; exact hPc, va_K.moved hW.alike hKc, hDc.weaken (fun _ _ _ _ => trivial), gv.pass hW hU hS hFc hG⟩⟩ rfl rfl hl.1 rfl (lv_room (Nat.le_of_ble_eq_true rfl)) dJ5_append_cf1ce_30 ⟨Nat.le_of_ble_eq_true rfl, Nat.le_of_ble_eq_true rfl⟩) hS (fun q _ h => hFc q h) hFc (fun u t H1 locs ht hvm hw hB hz1 hk1 hS => ?_)
  obtain ⟨f2, f2_t, hP1, hK1, hD1⟩ := hB
  rw [ht] at hP1
  have hK1 := va_K.moved hvm.symm hK1
  obtain ⟨hP, hD⟩ := va_join (wr := []) (w1 := [(h0, .inr (0, [.ref h1, .int 0, .int 0, .int 0])), (h1, .inl (k0, 4, .inl f0)), (h2, .inr (1, [.ref h3, .int 0, .int 0, .int 0])), (h3, .inl (k1, 16, .inl f2))]) hP hD [0, 1, 2, 3] [] rfl rfl (by decide) (by decide) hk1 hFc hP1 hD1
  generalize H1 = H at hP hS ⊢
  have hP : va_P (dC, dI) vwCl [(h0, .inr (0, [.ref h1, .int 0, .int 0, .int 0])), (h1, .inl (k0, 4, .inl f0)), (h2, .inr (1, [.ref h3, .int 0, .int 0, .int 0])), (h3, .inl (k1, 16, .inl f2))] H := hP
  have hD : va_D A [(h0, .inr (0, [.ref h1, .int 0, .int 0, .int 0])), (h1, .inl (k0, 4, .inl f0)), (h2, .inr (1, [.ref h3, .int 0, .int 0, .int 0])), (h3, .inl (k1, 16, .inl f2))] := hD
  refine lv_aload_n hx hb dJ5_append_cf1ce_33 rfl (lv_at hl 1 rfl) ?_
  refine lv_dup hx hb dJ5_append_cf1ce_34 rfl ?_
  refine va_get (D := (dC, dI)) (ci := 1) (v := .int 0) (C := RJ4) (T := TJ4) (N := 4) hx hb hts (by decide +kernel) hown hK hP 2 rfl rfl 3 (by decide) (hts (.fieldLink RJ5 79 "java/lang/AbstractStringBuilder" "count" "I") (by decide +kernel)) (fun _ h9 => h9) rfl dJ5_append_cf1ce_35 ?_
  refine lv_iload_n hx hb dJ5_append_cf1ce_38 rfl (lv_at hl 0 rfl) ?_
  refine lv_iadd hx hb dJ5_append_cf1ce_39 ?_
  refine lv_topi (fun y3 ey3 => ?_)
  obtain rfl : y3 = 4 := ey3.trans (by decide)
  refine va_put (D := (dC, dI)) (ci := 1) (v := .int 4) (ty := .int) (C := RJ4) (T := TJ4) (N := 4) hx hb hts (by decide +kernel) tyJ4 tyJ4_ok nmJ4 hown hK hP hD hS 2 rfl rfl 3 (by decide) (hts (.fieldLink RJ5 79 "java/lang/AbstractStringBuilder" "count" "I") (by decide +kernel)) (fun _ h9 => h9) rfl (by decide +kernel) rfl rfl (Nat.le_of_ble_eq_true rfl) dJ5_append_cf1ce_40 (fun H locs hP hD hS => ?_)
  have hP : va_P (dC, dI) vwCl [(h0, .inr (0, [.ref h1, .int 0, .int 0, .int 0])), (h1, .inl (k0, 4, .inl f0)), (h2, .inr (1, [.ref h3, .int 0, .int 0, .int 4])), (h3, .inl (k1, 16, .inl f2))] H := hP
  have hD : va_D A [(h0, .inr (0, [.ref h1, .int 0, .int 0, .int 0])), (h1, .inl (k0, 4, .inl f0)), (h2, .inr (1, [.ref h3, .int 0, .int 0, .int 4])), (h3, .inl (k1, 16, .inl f2))] := hD
  refine lv_aload_n hx hb dJ5_append_cf1ce_43 rfl (lv_at hl 1 rfl) ?_
  exact W.aret (v := .ref h2) hx hb hr (Or.inl ⟨_, rfl⟩) (Or.inr ⟨_, rfl⟩) (fun t ht hW => ⟨⟨(), h2, rfl, trivial, f2, f2_t, rfl, by rw [ht]; exact hP, va_K.moved hW.alike hK, hD⟩, hS.F ht⟩) hS.2.2 dJ5_append_cf1ce_44
set_option maxHeartbeats 4000000 in
set_option maxRecDepth 100000 in
theorem kx_J4_append_15ec4_4 (l : Launch) (dC : Nat → ClassId) (dI : Nat → Nat → Nat) (ge5 gea gv5 gva gde gic gi0 : Nat) (h0 : Nat) (h1 : Nat) (h2 : Nat) (h3 : Nat) (k0 : ClassId) (k1 : ClassId) (sz : Nat) (f0 : Nat → Int32) (f0_t : sb_Fit f0) : Met l yJ4_append_15ec4 wsJ4_append_15ec4 ({ frames := 4, cells := 0, slots := 0, locals := 127 }) (va_Pc [.ref h2, .ref h0] (fun U => U.heap.size = sz ∧ va_P (dC, dI) vwCl [(h0, .inr (0, [.ref h1, .int 0, .int 0, .int 0])), (h1, .inl (k0, 4, .inl f0)), (h2, .inr (1, [.ref h3, .int 0, .int 0, .int 0])), (h3, .inl (k1, 16, .inl (fun _ => 0)))] U.heap ∧ va_K (dC, dI) vwCl [(k0, .byte), (k1, .byte)] U ∧ va_D (fun _ => True) [(h0, .inr (0, [.ref h1, .int 0, .int 0, .int 0])), (h1, .inl (k0, 4, .inl f0)), (h2, .inr (1, [.ref h3, .int 0, .int 0, .int 0])), (h3, .inl (k1, 16, .inl (fun _ => 0)))] ∧ gv ge5 gea gv5 gva gde gic gi0 (va_A [(h0, .inr (0, [.ref h1, .int 0, .int 0, .int 0])), (h1, .inl (k0, 4, .inl f0)), (h2, .inr (1, [.ref h3, .int 0, .int 0, .int 0])), (h3, .inl (k1, 16, .inl (fun _ => 0)))] sz) U U.heap)) (va_Qr (fun _ : Unit => True) (fun (_ : Unit) (ra : Nat) (t : State) => ∃ f1 : Nat → Int32, sb_Fit f1 ∧ ra = h2 ∧ va_P (dC, dI) vwCl [(h0, .inr (0, [.ref h1, .int 0, .int 0, .int 0])), (h1, .inl (k0, 4, .inl f0)), (h2, .inr (1, [.ref h3, .int 0, .int 0, .int 4])), (h3, .inl (k1, 16, .inl f1))] t.heap ∧ va_K (dC, dI) vwCl [(k0, .byte), (k1, .byte)] t ∧ va_D (va_A [(h0, .inr (0, [.ref h1, .int 0, .int 0, .int 0])), (h1, .inl (k0, 4, .inl f0)), (h2, .inr (1, [.ref h3, .int 0, .int 0, .int 0])), (h3, .inl (k1, 16, .inl (fun _ => 0)))] sz) [(h0, .inr (0, [.ref h1, .int 0, .int 0, .int 0])), (h1, .inl (k0, 4, .inl f0)), (h2, .inr (1, [.ref h3, .int 0, .int 0, .int 4])), (h3, .inl (k1, 16, .inl f1))]) (va_A [(h0, .inr (0, [.ref h1, .int 0, .int 0, .int 0])), (h1, .inl (k0, 4, .inl f0)), (h2, .inr (1, [.ref h3, .int 0, .int 0, .int 0])), (h3, .inl (k1, 16, .inl (fun _ => 0)))] sz)) 0 0 (va_A [(h0, .inr (0, [.ref h1, .int 0, .int 0, .int 0])), (h1, .inl (k0, 4, .inl f0)), (h2, .inr (1, [.ref h3, .int 0, .int 0, .int 0])), (h3, .inl (k1, 16, .inl (fun _ => 0)))] sz) := by
  refine Met.ofW (cc := cJ4_append_15ec4) (maxL := 2) (ret := (some (.object "java/lang/StringBuilder"))) (by decide) rfl ?_
  intro p e s m args below meth c s₁ B hml hv
  obtain ⟨rfl, hsz, hP, hK, hD0, hG⟩ := hv
  have hx := B.exec
  have hb := B.bytes
  have hr := B.returns
  have hts := atoms_spec (ws := wsJ4_append_15ec4) B.pre
  have hown : s.vm.findClass RJ4 = some m.cls := findClass_of_methodNamed B.named
  have hlocks := B.notSynchronized
  subst hsz
  have hD := hD0.self (sz := s.heap.size)
  generalize hAe : va_A [(h0, .inr (0, [.ref h1, .int 0, .int 0, .int 0])), (h1, .inl (k0, 4, .inl f0)), (h2, .inr (1, [.ref h3, .int 0, .int 0, .int 0])), (h3, .inl (k1, 16, .inl (fun _ => 0)))] s.heap.size = A at hD hG ⊢
  obtain ⟨⟨g_AO_Text, g_AO_String, g_AO_Object, g_nm_RX1_20, g_nm_RX0_17, g_nm_RX3_31, g_nm_RX2_44, g_nm_RL_121, g_nf_RL_13, g_nf_RL_47, g_ca_IO, g_ca_IA, g_ca_IS, g_ca_IntObj, g_ca_StrObj, g_de_RT, g_de_EX, g_de_TH, g_nc_IA_IO, g_nc_IS_IO, g_nc_IS_IA⟩, ⟨g_s3, g_s5, g_sa, g_x278, g_x280, g_x282, g_x284, g_x286, g_x180, g_x238, g_x250⟩, ⟨g_o5, g_c5, g_v5, g_t5, g_oa, g_ca, g_va, g_ta, g_zc, g_zd, g_td, g_zf, g_zU, g_zN, g_zh, g_zk, g_tk, g_oi, g_vi⟩⟩ := id hG
  have hA : ∀ q : Nat, s.heap.size ≤ q → A q := fun q h => by rw [← hAe]; exact Or.inr h
  have hS : va_S A s.heap s.heap [] := va_S.rf
  have hP : va_P (dC, dI) vwCl [(h0, .inr (0, [.ref h1, .int 0, .int 0, .int 0])), (h1, .inl (k0, 4, .inl f0)), (h2, .inr (1, [.ref h3, .int 0, .int 0, .int 0])), (h3, .inl (k1, 16, .inl (fun _ => 0)))] s.heap := hP
  have hl := lv_entry ([.ref h2, .ref h0]) (n := 2) (Nat.le_of_ble_eq_true rfl)
  rw [lg_entry_eq]
  generalize (lg_sl ([.ref h2, .ref h0]) ++ List.replicate (2 - (lg_sl ([.ref h2, .ref h0])).length) Slot.unset).toArray = ls at hl ⊢
  have hl : lv_has ls 2 [(0, .ref h2), (1, .ref h0)] := hl
  refine lv_aload_n hx hb dJ4_append_15ec4_0 rfl (lv_at hl 0 rfl) ?_
  refine lv_aload_n hx hb dJ4_append_15ec4_1 rfl (lv_at hl 1 rfl) ?_
  have hPc := hP.sub (ws' := [(h0, .inr (0, [.ref h1, .int 0, .int 0, .int 0])), (h1, .inl (k0, 4, .inl f0)), (h2, .inr (1, [.ref h3, .int 0, .int 0, .int 0])), (h3, .inl (k1, 16, .inl (fun _ => 0)))]) [0, 1, 2, 3] rfl
  have hDc := hD.sub (ws' := [(h0, .inr (0, [.ref h1, .int 0, .int 0, .int 0])), (h1, .inl (k0, 4, .inl f0)), (h2, .inr (1, [.ref h3, .int 0, .int 0, .int 0])), (h3, .inl (k1, 16, .inl (fun _ => 0)))]) [0, 1, 2, 3] (by decide) rfl
  have hKc := hK.sub (tys' := [(k0, .byte), (k1, .byte)]) [0, 1] rfl
  have hFc := va_free (wc := [(h0, .inr (0, [.ref h1, .int 0, .int 0, .int 0])), (h1, .inl (k0, 4, .inl f0)), (h2, .inr (1, [.ref h3, .int 0, .int 0, .int 0])), (h3, .inl (k1, 16, .inl (fun _ => 0)))]) hD hS hA [0, 1, 2, 3] rfl
  refine va_callr (va_runSU (hK.1 1 _ rfl).2 (As := [.ref h0]) (rest := []) ⟨hx, hb, hml, hown, hts⟩ (kx_J5_append_cf1ce_4 l dC dI ge5 gea gv5 gva gde gic gi0 h0 h1 h2 h3 k0 k1 s.heap.size f0 f0_t) (va_cwSU 1 hts gJ4_append_15ec4_J5_append_cf1ce_s29 rfl rfl rfl (by decide +kernel) ⟨Nat.le_of_ble_eq_true rfl, Nat.le_of_ble_eq_true rfl⟩) ⟨fun a U g mk q => by obtain ⟨q0, q1, qP, qK, qD, qG⟩ := q; exact ⟨q0, q1, qP, va_K.moved (u := U) (U := U.calling g mk a) (Vm.Alike.refl U.vm) qK, qD, gv.fb qG⟩, va_recv hKc hPc (ci := 1) (q0 := 2) rfl rfl, fun U hU hW => ⟨rfl, by rw [hU], by rw [hU]; exact hPc, va_K.moved hW.alike hKc, hDc.weaken (fun _ _ _ _ => trivial), gv.pass hW hU hS hFc hG⟩⟩ rfl rfl hl.1 rfl (lv_room (Nat.le_of_ble_eq_true rfl)) dJ4_append_15ec4_2 ⟨Nat.le_of_ble_eq_true rfl, Nat.le_of_ble_eq_true rfl⟩) hS (fun q _ h => hFc q h) hFc (fun u ra t H1 locs ht hvm hw hB hz1 hk1 hS => ?_)
  obtain ⟨f1, f1_t, hra, hP1, hK1, hD1⟩ := hB
  rw [hra]
  rw [ht] at hP1
  have hK1 := va_K.moved hvm.symm hK1
  obtain ⟨hP, hD⟩ := va_join (wr := []) (w1 := [(h0, .inr (0, [.ref h1, .int 0, .int 0, .int 0])), (h1, .inl (k0, 4, .inl f0)), (h2, .inr (1, [.ref h3, .int 0, .int 0, .int 4])), (h3, .inl (k1, 16, .inl f1))]) hP hD [0, 1, 2, 3] [] rfl rfl (by decide) (by decide) hk1 hFc hP1 hD1
  generalize H1 = H at hP hS ⊢
  have hP : va_P (dC, dI) vwCl [(h0, .inr (0, [.ref h1, .int 0, .int 0, .int 0])), (h1, .inl (k0, 4, .inl f0)), (h2, .inr (1, [.ref h3, .int 0, .int 0, .int 4])), (h3, .inl (k1, 16, .inl f1))] H := hP
  have hD : va_D A [(h0, .inr (0, [.ref h1, .int 0, .int 0, .int 0])), (h1, .inl (k0, 4, .inl f0)), (h2, .inr (1, [.ref h3, .int 0, .int 0, .int 4])), (h3, .inl (k1, 16, .inl f1))] := hD
  refine lv_pop hx hb dJ4_append_15ec4_5 rfl ?_
  refine lv_aload_n hx hb dJ4_append_15ec4_6 rfl (lv_at hl 0 rfl) ?_
  exact W.aret (v := .ref h2) hx hb hr (Or.inl ⟨_, rfl⟩) (Or.inr ⟨_, rfl⟩) (fun t ht hW => ⟨⟨(), h2, rfl, trivial, f1, f1_t, rfl, by rw [ht]; exact hP, va_K.moved hW.alike hK, hD⟩, hS.F ht⟩) hS.2.2 dJ4_append_15ec4_7
set_option maxHeartbeats 4000000 in
set_option maxRecDepth 100000 in
theorem kx_J5_getValue_6d5f1_4 (l : Launch) (dC : Nat → ClassId) (dI : Nat → Nat → Nat) (h0 : Nat) (z0 : Nat) (sz : Nat) : Met l yJ5_getValue_6d5f1 wsJ5_getValue_6d5f1 ({ frames := 0, cells := 0, slots := 0, locals := 0 }) (va_Pc [.ref h0] (fun U => U.heap.size = sz ∧ va_P (dC, dI) vwCl [(h0, .inr (1, [.ref z0, .int 0, .int 0, .int 4]))] U.heap ∧ va_K (dC, dI) vwCl [] U ∧ va_D (fun _ => True) [(h0, .inr (1, [.ref z0, .int 0, .int 0, .int 4]))])) (va_Qr (fun _ : Unit => True) (fun (_ : Unit) (ra : Nat) (t : State) => ra = z0 ∧ va_P (dC, dI) vwCl [(h0, .inr (1, [.ref z0, .int 0, .int 0, .int 4]))] t.heap ∧ va_K (dC, dI) vwCl [] t ∧ va_D (va_A [(h0, .inr (1, [.ref z0, .int 0, .int 0, .int 4]))] sz) [(h0, .inr (1, [.ref z0, .int 0, .int 0, .int 4]))]) (va_A [(h0, .inr (1, [.ref z0, .int 0, .int 0, .int 4]))] sz)) 0 0 (va_A [(h0, .inr (1, [.ref z0, .int 0, .int 0, .int 4]))] sz) := by
  refine Met.ofW (cc := cJ5_getValue_6d5f1) (maxL := 1) (ret := (some (.array .byte))) (by decide) rfl ?_
  intro p e s m args below meth c s₁ B hml hv
  obtain ⟨rfl, hsz, hP, hK, hD0⟩ := hv
  have hx := B.exec
  have hb := B.bytes
  have hr := B.returns
  have hts := atoms_spec (ws := wsJ5_getValue_6d5f1) B.pre
  have hown : s.vm.findClass RJ5 = some m.cls := findClass_of_methodNamed B.named
  have hlocks := B.notSynchronized
  subst hsz
  have hD := hD0.self (sz := s.heap.size)
  generalize hAe : va_A [(h0, .inr (1, [.ref z0, .int 0, .int 0, .int 4]))] s.heap.size = A at hD ⊢
  have hA : ∀ q : Nat, s.heap.size ≤ q → A q := fun q h => by rw [← hAe]; exact Or.inr h
  have hS : va_S A s.heap s.heap [] := va_S.rf
  have hP : va_P (dC, dI) vwCl [(h0, .inr (1, [.ref z0, .int 0, .int 0, .int 4]))] s.heap := hP
  have hl := lv_entry ([.ref h0]) (n := 1) (Nat.le_of_ble_eq_true rfl)
  rw [lg_entry_eq]
  generalize (lg_sl ([.ref h0]) ++ List.replicate (1 - (lg_sl ([.ref h0])).length) Slot.unset).toArray = ls at hl ⊢
  have hl : lv_has ls 1 [(0, .ref h0)] := hl
  refine lv_aload_n hx hb dJ5_getValue_6d5f1_0 rfl (lv_at hl 0 rfl) ?_
  refine va_get (D := (dC, dI)) (ci := 1) (v := .ref z0) (C := RJ4) (T := TJ4) (N := 4) hx hb hts (by decide +kernel) hown hK hP 0 rfl rfl 0 (by decide) (hts (.fieldLink RJ5 15 "java/lang/AbstractStringBuilder" "value" "[B") (by decide +kernel)) (fun _ h9 => h9) rfl dJ5_getValue_6d5f1_1 ?_
  exact W.aret (v := .ref z0) hx hb hr (Or.inr ⟨_, rfl⟩) (Or.inr ⟨_, rfl⟩) (fun t ht hW => ⟨⟨(), z0, rfl, trivial, rfl, by rw [ht]; exact hP, va_K.moved hW.alike hK, hD⟩, hS.F ht⟩) hS.2.2 dJ5_getValue_6d5f1_4
set_option maxHeartbeats 4000000 in
set_option maxRecDepth 100000 in
theorem kx_J5_length_8abf5_4 (l : Launch) (dC : Nat → ClassId) (dI : Nat → Nat → Nat) (h0 : Nat) (z0 : Nat) (sz : Nat) : Met l yJ5_length_8abf5 wsJ5_length_8abf5 ({ frames := 0, cells := 0, slots := 0, locals := 0 }) (va_Pc [.ref h0] (fun U => U.heap.size = sz ∧ va_P (dC, dI) vwCl [(h0, .inr (1, [.ref z0, .int 0, .int 0, .int 4]))] U.heap ∧ va_K (dC, dI) vwCl [] U ∧ va_D (fun _ => True) [(h0, .inr (1, [.ref z0, .int 0, .int 0, .int 4]))])) (va_Qi (fun (r : Int32) (_ : Unit) => r = 4) (fun (_ : Unit) (t : State) => va_P (dC, dI) vwCl [(h0, .inr (1, [.ref z0, .int 0, .int 0, .int 4]))] t.heap ∧ va_K (dC, dI) vwCl [] t ∧ va_D (va_A [(h0, .inr (1, [.ref z0, .int 0, .int 0, .int 4]))] sz) [(h0, .inr (1, [.ref z0, .int 0, .int 0, .int 4]))]) (va_A [(h0, .inr (1, [.ref z0, .int 0, .int 0, .int 4]))] sz)) 0 0 (va_A [(h0, .inr (1, [.ref z0, .int 0, .int 0, .int 4]))] sz) := by
  refine Met.ofW (cc := cJ5_length_8abf5) (maxL := 1) (ret := (some .int)) (by decide) rfl ?_
  intro p e s m args below meth c s₁ B hml hv
  obtain ⟨rfl, hsz, hP, hK, hD0⟩ := hv
  have hx := B.exec
  have hb := B.bytes
  have hr := B.returns
  have hts := atoms_spec (ws := wsJ5_length_8abf5) B.pre
  have hown : s.vm.findClass RJ5 = some m.cls := findClass_of_methodNamed B.named
  have hlocks := B.notSynchronized
  subst hsz
  have hD := hD0.self (sz := s.heap.size)
  generalize hAe : va_A [(h0, .inr (1, [.ref z0, .int 0, .int 0, .int 4]))] s.heap.size = A at hD ⊢
  have hA : ∀ q : Nat, s.heap.size ≤ q → A q := fun q h => by rw [← hAe]; exact Or.inr h
  have hS : va_S A s.heap s.heap [] := va_S.rf
  have hP : va_P (dC, dI) vwCl [(h0, .inr (1, [.ref z0, .int 0, .int 0, .int 4]))] s.heap := hP
  have hl := lv_entry ([.ref h0]) (n := 1) (Nat.le_of_ble_eq_true rfl)
  rw [lg_entry_eq]
  generalize (lg_sl ([.ref h0]) ++ List.replicate (1 - (lg_sl ([.ref h0])).length) Slot.unset).toArray = ls at hl ⊢
  have hl : lv_has ls 1 [(0, .ref h0)] := hl
  refine lv_aload_n hx hb dJ5_length_8abf5_0 rfl (lv_at hl 0 rfl) ?_
  refine va_get (D := (dC, dI)) (ci := 1) (v := .int 4) (C := RJ4) (T := TJ4) (N := 4) hx hb hts (by decide +kernel) hown hK hP 0 rfl rfl 3 (by decide) (hts (.fieldLink RJ5 79 "java/lang/AbstractStringBuilder" "count" "I") (by decide +kernel)) (fun _ h9 => h9) rfl dJ5_length_8abf5_1 ?_
  exact W.iret (v := 4) hx hb hr (fun t ht hW => ⟨⟨4, (), rfl, rfl, by rw [ht]; exact hP, va_K.moved hW.alike hK, hD⟩, hS.F ht⟩) hS.2.2 dJ5_length_8abf5_4
set_option maxHeartbeats 4000000 in
set_option maxRecDepth 100000 in
theorem kx_J4_length_8abf5_4 (l : Launch) (dC : Nat → ClassId) (dI : Nat → Nat → Nat) (h0 : Nat) (z0 : Nat) (sz : Nat) : Met l yJ4_length_8abf5 wsJ4_length_8abf5 ({ frames := 1, cells := 0, slots := 0, locals := 20 }) (va_Pc [.ref h0] (fun U => U.heap.size = sz ∧ va_P (dC, dI) vwCl [(h0, .inr (1, [.ref z0, .int 0, .int 0, .int 4]))] U.heap ∧ va_K (dC, dI) vwCl [] U ∧ va_D (fun _ => True) [(h0, .inr (1, [.ref z0, .int 0, .int 0, .int 4]))])) (va_Qi (fun (r : Int32) (_ : Unit) => r = 4) (fun (_ : Unit) (t : State) => va_P (dC, dI) vwCl [(h0, .inr (1, [.ref z0, .int 0, .int 0, .int 4]))] t.heap ∧ va_K (dC, dI) vwCl [] t ∧ va_D (va_A [(h0, .inr (1, [.ref z0, .int 0, .int 0, .int 4]))] sz) [(h0, .inr (1, [.ref z0, .int 0, .int 0, .int 4]))]) (va_A [(h0, .inr (1, [.ref z0, .int 0, .int 0, .int 4]))] sz)) 0 0 (va_A [(h0, .inr (1, [.ref z0, .int 0, .int 0, .int 4]))] sz) := by
  refine Met.ofW (cc := cJ4_length_8abf5) (maxL := 1) (ret := (some .int)) (by decide) rfl ?_
  intro p e s m args below meth c s₁ B hml hv
  obtain ⟨rfl, hsz, hP, hK, hD0⟩ := hv
  have hx := B.exec
  have hb := B.bytes
  have hr := B.returns
  have hts := atoms_spec (ws := wsJ4_length_8abf5) B.pre
  have hown : s.vm.findClass RJ4 = some m.cls := findClass_of_methodNamed B.named
  have hlocks := B.notSynchronized
  subst hsz
  have hD := hD0.self (sz := s.heap.size)
  generalize hAe : va_A [(h0, .inr (1, [.ref z0, .int 0, .int 0, .int 4]))] s.heap.size = A at hD ⊢
  have hA : ∀ q : Nat, s.heap.size ≤ q → A q := fun q h => by rw [← hAe]; exact Or.inr h
  have hS : va_S A s.heap s.heap [] := va_S.rf
  have hP : va_P (dC, dI) vwCl [(h0, .inr (1, [.ref z0, .int 0, .int 0, .int 4]))] s.heap := hP
  have hl := lv_entry ([.ref h0]) (n := 1) (Nat.le_of_ble_eq_true rfl)
  rw [lg_entry_eq]
  generalize (lg_sl ([.ref h0]) ++ List.replicate (1 - (lg_sl ([.ref h0])).length) Slot.unset).toArray = ls at hl ⊢
  have hl : lv_has ls 1 [(0, .ref h0)] := hl
  refine lv_aload_n hx hb dJ4_length_8abf5_0 rfl (lv_at hl 0 rfl) ?_
  have hPc := hP.sub (ws' := [(h0, .inr (1, [.ref z0, .int 0, .int 0, .int 4]))]) [0] rfl
  have hDc := hD.sub (ws' := [(h0, .inr (1, [.ref z0, .int 0, .int 0, .int 4]))]) [0] (by decide) rfl
  have hKc := hK.sub (tys' := []) [] rfl
  have hFc := va_free (wc := [(h0, .inr (1, [.ref z0, .int 0, .int 0, .int 4]))]) hD hS hA [0] rfl
  refine va_calli (va_runSU (hK.1 1 _ rfl).2 (As := []) (rest := []) ⟨hx, hb, hml, hown, hts⟩ (kx_J5_length_8abf5_4 l dC dI h0 z0 s.heap.size) (va_cwSU 0 hts gJ4_length_8abf5_J5_length_8abf5_s343 rfl rfl rfl (by decide +kernel) ⟨Nat.le_of_ble_eq_true rfl, Nat.le_of_ble_eq_true rfl⟩) ⟨fun a U g mk q => by obtain ⟨q0, q1, qP, qK, qD⟩ := q; exact ⟨q0, q1, qP, va_K.moved (u := U) (U := U.calling g mk a) (Vm.Alike.refl U.vm) qK, qD⟩, va_recv hKc hPc (ci := 1) (q0 := 0) rfl rfl, fun U hU hW => ⟨rfl, by rw [hU], by rw [hU]; exact hPc, va_K.moved hW.alike hKc, hDc.weaken (fun _ _ _ _ => trivial)⟩⟩ rfl rfl hl.1 rfl (lv_room (Nat.le_of_ble_eq_true rfl)) dJ4_length_8abf5_1 ⟨Nat.le_of_ble_eq_true rfl, Nat.le_of_ble_eq_true rfl⟩) hS (fun q _ h => hFc q h) hFc (fun r9 u t H1 locs ht hvm hw hB hz1 hk1 hS => ?_)
  obtain rfl := hw
  obtain ⟨hP1, hK1, hD1⟩ := hB
  rw [ht] at hP1
  have hK1 := va_K.moved hvm.symm hK1
  obtain ⟨hP, hD⟩ := va_join (wr := []) (w1 := [(h0, .inr (1, [.ref z0, .int 0, .int 0, .int 4]))]) hP hD [0] [] rfl rfl (by decide) (by decide) hk1 hFc hP1 hD1
  generalize H1 = H at hP hS ⊢
  have hP : va_P (dC, dI) vwCl [(h0, .inr (1, [.ref z0, .int 0, .int 0, .int 4]))] H := hP
  have hD : va_D A [(h0, .inr (1, [.ref z0, .int 0, .int 0, .int 4]))] := hD
  exact W.iret (v := 4) hx hb hr (fun t ht hW => ⟨⟨4, (), rfl, rfl, by rw [ht]; exact hP, va_K.moved hW.alike hK, hD⟩, hS.F ht⟩) hS.2.2 dJ4_length_8abf5_4
set_option maxHeartbeats 4000000 in
set_option maxRecDepth 100000 in
theorem kx_J5_isLatin1_aae02_4 (l : Launch) (dC : Nat → ClassId) (dI : Nat → Nat → Nat) (ge5 gea gv5 gva gde gic gi0 : Nat) (h0 : Nat) (z0 : Nat) (sz : Nat) : Met l yJ5_isLatin1_aae02 wsJ5_isLatin1_aae02 ({ frames := 0, cells := 0, slots := 0, locals := 0 }) (va_Pc [.ref h0] (fun U => U.heap.size = sz ∧ va_P (dC, dI) vwCl [(h0, .inr (1, [.ref z0, .int 0, .int 0, .int 4]))] U.heap ∧ va_K (dC, dI) vwCl [] U ∧ va_D (fun _ => True) [(h0, .inr (1, [.ref z0, .int 0, .int 0, .int 4]))] ∧ gv ge5 gea gv5 gva gde gic gi0 (va_A [(h0, .inr (1, [.ref z0, .int 0, .int 0, .int 4]))] sz) U U.heap)) (va_Qi (fun (r : Int32) (_ : Unit) => r = 1) (fun (_ : Unit) (t : State) => va_P (dC, dI) vwCl [(h0, .inr (1, [.ref z0, .int 0, .int 0, .int 4]))] t.heap ∧ va_K (dC, dI) vwCl [] t ∧ va_D (va_A [(h0, .inr (1, [.ref z0, .int 0, .int 0, .int 4]))] sz) [(h0, .inr (1, [.ref z0, .int 0, .int 0, .int 4]))]) (va_A [(h0, .inr (1, [.ref z0, .int 0, .int 0, .int 4]))] sz)) 0 0 (va_A [(h0, .inr (1, [.ref z0, .int 0, .int 0, .int 4]))] sz) := by
  refine Met.ofW (cc := cJ5_isLatin1_aae02) (maxL := 1) (ret := (some .boolean)) (by decide) rfl ?_
  intro p e s m args below meth c s₁ B hml hv
  obtain ⟨rfl, hsz, hP, hK, hD0, hG⟩ := hv
  have hx := B.exec
  have hb := B.bytes
  have hr := B.returns
  have hts := atoms_spec (ws := wsJ5_isLatin1_aae02) B.pre
  have hown : s.vm.findClass RJ5 = some m.cls := findClass_of_methodNamed B.named
  have hlocks := B.notSynchronized
  subst hsz
  have hD := hD0.self (sz := s.heap.size)
  generalize hAe : va_A [(h0, .inr (1, [.ref z0, .int 0, .int 0, .int 4]))] s.heap.size = A at hD hG ⊢
  obtain ⟨⟨g_AO_Text, g_AO_String, g_AO_Object, g_nm_RX1_20, g_nm_RX0_17, g_nm_RX3_31, g_nm_RX2_44, g_nm_RL_121, g_nf_RL_13, g_nf_RL_47, g_ca_IO, g_ca_IA, g_ca_IS, g_ca_IntObj, g_ca_StrObj, g_de_RT, g_de_EX, g_de_TH, g_nc_IA_IO, g_nc_IS_IO, g_nc_IS_IA⟩, ⟨g_s3, g_s5, g_sa, g_x278, g_x280, g_x282, g_x284, g_x286, g_x180, g_x238, g_x250⟩, ⟨g_o5, g_c5, g_v5, g_t5, g_oa, g_ca, g_va, g_ta, g_zc, g_zd, g_td, g_zf, g_zU, g_zN, g_zh, g_zk, g_tk, g_oi, g_vi⟩⟩ := id hG
  have hA : ∀ q : Nat, s.heap.size ≤ q → A q := fun q h => by rw [← hAe]; exact Or.inr h
  have hS : va_S A s.heap s.heap [] := va_S.rf
  have hP : va_P (dC, dI) vwCl [(h0, .inr (1, [.ref z0, .int 0, .int 0, .int 4]))] s.heap := hP
  have hl := lv_entry ([.ref h0]) (n := 1) (Nat.le_of_ble_eq_true rfl)
  rw [lg_entry_eq]
  generalize (lg_sl ([.ref h0]) ++ List.replicate (1 - (lg_sl ([.ref h0])).length) Slot.unset).toArray = ls at hl ⊢
  have hl : lv_has ls 1 [(0, .ref h0)] := hl
  refine va_gets (v := .int 1) hx hb g_zc hS hown (hts (.fieldLink RJ5 18 "java/lang/String" "COMPACT_STRINGS" "Z") (by decide +kernel)) (fun _ h9 => h9) dJ5_isLatin1_aae02_0 ?_
  refine lv_if_eq (tgt := 17) hx hb dJ5_isLatin1_aae02_3 (by decide) (fun c9 => absurd c9 (by decide)) (fun _ => ?_)
  refine lv_aload_n hx hb dJ5_isLatin1_aae02_6 rfl (lv_at hl 0 rfl) ?_
  refine va_get (D := (dC, dI)) (ci := 1) (v := .int 0) (C := RJ4) (T := TJ4) (N := 4) hx hb hts (by decide +kernel) hown hK hP 0 rfl rfl 1 (by decide) (hts (.fieldLink RJ5 22 "java/lang/AbstractStringBuilder" "coder" "B") (by decide +kernel)) (fun _ h9 => h9) rfl dJ5_isLatin1_aae02_7 ?_
  refine lv_if_ne (tgt := 17) hx hb dJ5_isLatin1_aae02_10 (by decide) (fun c9 => absurd (by decide) c9) (fun _ => ?_)
  refine lv_iconst (v := 1) hx hb dJ5_isLatin1_aae02_13 (by decide) ?_
  refine lv_goto (tgt := 18) hx hb dJ5_isLatin1_aae02_14 (by decide) ?_
  exact W.zret (v := 1) hx hb hr (by decide) (fun t ht hW => ⟨⟨1, (), rfl, rfl, by rw [ht]; exact hP, va_K.moved hW.alike hK, hD⟩, hS.F ht⟩) hS.2.2 dJ5_isLatin1_aae02_18
set_option maxHeartbeats 4000000 in
set_option maxRecDepth 100000 in
theorem kx_J7_checkLength_df160_4 (l : Launch) (dC : Nat → ClassId) (dI : Nat → Nat → Nat) (sz : Nat) : Met l yJ7_checkLength_df160 wsJ7_checkLength_df160 ({ frames := 0, cells := 0, slots := 0, locals := 0 }) (va_Pc [.int 0, .int 4] (fun U => U.heap.size = sz ∧ va_P (dC, dI) vwCl [] U.heap ∧ va_K (dC, dI) vwCl [] U ∧ va_D (fun _ => True) [])) (va_Qv (fun _ : Unit => True) (fun (_ : Unit) (t : State) => va_P (dC, dI) vwCl [] t.heap ∧ va_K (dC, dI) vwCl [] t ∧ va_D (va_A [] sz) []) (va_A [] sz)) 0 0 (va_A [] sz) := by
  refine Met.ofW (cc := cJ7_checkLength_df160) (maxL := 2) (ret := none) (by decide) rfl ?_
  intro p e s m args below meth c s₁ B hml hv
  obtain ⟨rfl, hsz, hP, hK, hD0⟩ := hv
  have hx := B.exec
  have hb := B.bytes
  have hr := B.returns
  have hts := atoms_spec (ws := wsJ7_checkLength_df160) B.pre
  have hown : s.vm.findClass RJ7 = some m.cls := findClass_of_methodNamed B.named
  have hlocks := B.notSynchronized
  subst hsz
  have hD := hD0.self (sz := s.heap.size)
  generalize hAe : va_A [] s.heap.size = A at hD ⊢
  have hA : ∀ q : Nat, s.heap.size ≤ q → A q := fun q h => by rw [← hAe]; exact Or.inr h
  have hS : va_S A s.heap s.heap [] := va_S.rf
  have hP : va_P (dC, dI) vwCl [] s.heap := hP
  have hl := lv_entry ([.int 0, .int 4]) (n := 2) (Nat.le_of_ble_eq_true rfl)
  rw [lg_entry_eq]
  generalize (lg_sl ([.int 0, .int 4]) ++ List.replicate (2 - (lg_sl ([.int 0, .int 4])).length) Slot.unset).toArray = ls at hl ⊢
  have hl : lv_has ls 2 [(0, .int 0), (1, .int 4)] := hl
  refine lv_iload_n hx hb dJ7_checkLength_df160_0 rfl (lv_at hl 1 rfl) ?_
  refine lv_iload_n hx hb dJ7_checkLength_df160_1 rfl (lv_at hl 0 rfl) ?_
  refine lv_icmp_ge (tgt := 37) hx hb dJ7_checkLength_df160_2 (by decide) (fun _ => ?_) (fun c9 => absurd (by decide) c9)
  exact W.vret hx hb hr (fun t ht hW => ⟨⟨(), rfl, trivial, by rw [ht]; exact hP, va_K.moved hW.alike hK, hD⟩, hS.F ht⟩) hS.2.2 dJ7_checkLength_df160_37
set_option maxHeartbeats 4000000 in
set_option maxRecDepth 100000 in
theorem kx_J7_copyOfRangeByte_39247_4 (l : Launch) (dC : Nat → ClassId) (dI : Nat → Nat → Nat) (h0 : Nat) (k0 : ClassId) (sz : Nat) (f0 : Nat → Int32) (f0_t : sb_Fit f0) : Met l yJ7_copyOfRangeByte_39247 wsJ7_copyOfRangeByte_39247 ({ frames := 1, cells := 1, slots := 4, locals := 60 }) (va_Pc [.ref h0, .int 0, .int 4] (fun U => U.heap.size = sz ∧ va_P (dC, dI) vwCl [(h0, .inl (k0, 16, .inl f0))] U.heap ∧ va_K (dC, dI) vwCl [(k0, .byte)] U ∧ va_D (fun _ => True) [(h0, .inl (k0, 16, .inl f0))])) (va_Qr (fun _ : Unit => True) (fun (_ : Unit) (ra : Nat) (t : State) => ∃ q2 : Nat, ∃ cq2 : ClassId, ∃ f5 : Nat → Int32, sb_Fit f5 ∧ ra = q2 ∧ va_P (dC, dI) vwCl [(h0, .inl (k0, 16, .inl f0)), (q2, .inl (cq2, 4, .inl f5))] t.heap ∧ va_K (dC, dI) vwCl [(k0, .byte), (cq2, .byte)] t ∧ va_D (va_A [(h0, .inl (k0, 16, .inl f0))] sz) [(h0, .inl (k0, 16, .inl f0)), (q2, .inl (cq2, 4, .inl f5))]) (va_A [(h0, .inl (k0, 16, .inl f0))] sz)) 1 4 (va_A [(h0, .inl (k0, 16, .inl f0))] sz) := by
  refine Met.ofW (cc := cJ7_copyOfRangeByte_39247) (maxL := 5) (ret := (some (.array .byte))) (by decide) rfl ?_
  intro p e s m args below meth c s₁ B hml hv
  obtain ⟨rfl, hsz, hP, hK, hD0⟩ := hv
  have hx := B.exec
  have hb := B.bytes
  have hr := B.returns
  have hts := atoms_spec (ws := wsJ7_copyOfRangeByte_39247) B.pre
  have hown : s.vm.findClass RJ7 = some m.cls := findClass_of_methodNamed B.named
  have hlocks := B.notSynchronized
  subst hsz
  have hD := hD0.self (sz := s.heap.size)
  generalize hAe : va_A [(h0, .inl (k0, 16, .inl f0))] s.heap.size = A at hD ⊢
  have hA : ∀ q : Nat, s.heap.size ≤ q → A q := fun q h => by rw [← hAe]; exact Or.inr h
  have hS : va_S A s.heap s.heap [] := va_S.rf
  have hP : va_P (dC, dI) vwCl [(h0, .inl (k0, 16, .inl f0))] s.heap := hP
  have hl := lv_entry ([.ref h0, .int 0, .int 4]) (n := 5) (Nat.le_of_ble_eq_true rfl)
  rw [lg_entry_eq]
  generalize (lg_sl ([.ref h0, .int 0, .int 4]) ++ List.replicate (5 - (lg_sl ([.ref h0, .int 0, .int 4])).length) Slot.unset).toArray = ls at hl ⊢
  have hl : lv_has ls 5 [(0, .ref h0), (1, .int 0), (2, .int 4)] := hl
  refine lv_iload_n hx hb dJ7_copyOfRangeByte_39247_0 rfl (lv_at hl 1 rfl) ?_
  refine lv_iload_n hx hb dJ7_copyOfRangeByte_39247_1 rfl (lv_at hl 2 rfl) ?_
  have hPc := hP.sub (ws' := []) [] rfl
  have hDc := hD.sub (ws' := []) [] (by decide) rfl
  have hKc := hK.sub (tys' := []) [] rfl
  have hFc := va_free (wc := []) hD hS hA [] rfl
  refine va_callv (va_runS (As := [.int 0, .int 4]) (rest := []) ⟨hx, hb, hml, hown, hts⟩ (kx_J7_checkLength_df160_4 l dC dI s.heap.size) (cwS 2 hts gJ7_copyOfRangeByte_39247_J7_checkLength_df160 rfl rfl rfl (by decide +kernel) ⟨Nat.le_of_ble_eq_true rfl, Nat.le_of_ble_eq_true rfl⟩) ⟨fun a U g mk q => by obtain ⟨q0, q1, qP, qK, qD⟩ := q; exact ⟨q0, q1, qP, va_K.moved (u := U) (U := U.calling g mk a) (Vm.Alike.refl U.vm) qK, qD⟩, fun U hU hW => ⟨rfl, by rw [hU], by rw [hU]; exact hPc, va_K.moved hW.alike hKc, hDc.weaken (fun _ _ _ _ => trivial)⟩⟩ rfl rfl hl.1 rfl (lv_room (Nat.le_of_ble_eq_true rfl)) dJ7_copyOfRangeByte_39247_2 ⟨Nat.le_of_ble_eq_true rfl, Nat.le_of_ble_eq_true rfl⟩) hS (fun q _ h => hFc q h) hFc (fun u t H1 locs ht hvm hw hB hz1 hk1 hS => ?_)
  obtain ⟨hP1, hK1, hD1⟩ := hB
  rw [ht] at hP1
  have hK1 := va_K.moved hvm.symm hK1
  obtain ⟨hP, hD⟩ := va_join (wr := [(h0, .inl (k0, 16, .inl f0))]) (w1 := []) hP hD [] [0] rfl rfl (by decide) (by decide) hk1 hFc hP1 hD1
  generalize H1 = H at hP hS ⊢
  have hP : va_P (dC, dI) vwCl [(h0, .inl (k0, 16, .inl f0))] H := hP
  have hD : va_D A [(h0, .inl (k0, 16, .inl f0))] := hD
  refine lv_iload_n hx hb dJ7_copyOfRangeByte_39247_5 rfl (lv_at hl 2 rfl) ?_
  refine lv_iload_n hx hb dJ7_copyOfRangeByte_39247_6 rfl (lv_at hl 1 rfl) ?_
  refine lv_isub hx hb dJ7_copyOfRangeByte_39247_7 ?_
  refine lv_topi (fun y1 ey1 => ?_)
  obtain rfl : y1 = 4 := ey1.trans (by decide)
  refine lv_istore_n (lv' := [(3, .int 4), (0, .ref h0), (1, .int 0), (2, .int 4)]) hx hb dJ7_copyOfRangeByte_39247_8 rfl hl (by decide) rfl (fun ls hl => ?_)
  refine lv_iload_n hx hb dJ7_copyOfRangeByte_39247_9 rfl (lv_at hl 0 rfl) ?_
  refine va_newa (D := (dC, dI)) (atype := .byte) (ty := .byte) (a0 := (4, .inl (fun _ => 0))) (n := 4) (N' := 4) hx hb (hts (.arrayClass .byte) (by decide +kernel)) rfl hK hP hD hS hA (fun _ => rfl) (by decide) (by decide) (Nat.le_of_ble_eq_true rfl) (Nat.le_of_ble_eq_true rfl) (Nat.le_of_ble_eq_true rfl) dJ7_copyOfRangeByte_39247_10 (fun q2 cq2 H hK hP hD hS => ?_)
  have hK : va_K (dC, dI) vwCl [(k0, .byte), (cq2, .byte)] s := hK
  have hP : va_P (dC, dI) vwCl [(h0, .inl (k0, 16, .inl f0)), (q2, .inl (cq2, 4, .inl (fun _ => 0)))] H := hP
  have hD : va_D A [(h0, .inl (k0, 16, .inl f0)), (q2, .inl (cq2, 4, .inl (fun _ => 0)))] := hD
  refine W.widen (k := 1) (n := 4) (by omega) (by omega) ?_
  refine lv_astore (lv' := [(4, .ref q2), (3, .int 4), (0, .ref h0), (1, .int 0), (2, .int 4)]) hx hb dJ7_copyOfRangeByte_39247_12 hl (by decide) rfl (fun ls hl => ?_)
  refine lv_aload_n hx hb dJ7_copyOfRangeByte_39247_14 rfl (lv_at hl 2 rfl) ?_
  refine lv_iload_n hx hb dJ7_copyOfRangeByte_39247_15 rfl (lv_at hl 3 rfl) ?_
  refine lv_aload hx hb dJ7_copyOfRangeByte_39247_16 (lv_at hl 0 rfl) ?_
  refine lv_iconst (v := 0) hx hb dJ7_copyOfRangeByte_39247_18 (by decide) ?_
  refine lv_aload_n hx hb dJ7_copyOfRangeByte_39247_19 rfl (lv_at hl 2 rfl) ?_
  refine va_alen (D := (dC, dI)) (v := 16) hx hb hK hP 0 0 rfl rfl (show Int32.ofNat 16 = 16 from by decide) dJ7_copyOfRangeByte_39247_20 ?_
  refine lv_iload_n hx hb dJ7_copyOfRangeByte_39247_21 rfl (lv_at hl 3 rfl) ?_
  refine lv_isub hx hb dJ7_copyOfRangeByte_39247_22 ?_
  refine lv_topi (fun y3 ey3 => ?_)
  obtain rfl : y3 = 16 := ey3.trans (by decide)
  refine lv_iload_n hx hb dJ7_copyOfRangeByte_39247_23 rfl (lv_at hl 1 rfl) ?_
  refine va_mmin (x := 16) (y := 4) hx hb (by rw [hml]; exact hl.1.symm) hown (hts (.methodLink RJ7 304 Lib.Math.min.name) (by decide +kernel)) (hts (.static Lib.Math.min.name) (by decide +kernel)) (hts (.initialized "java/lang/Math") (by decide +kernel)) (hts (.code Lib.Math.min.name Lib.Math.min.code 2 (some .int)) (by decide +kernel)) (Nat.le_of_ble_eq_true rfl) (Nat.le_of_ble_eq_true rfl) (Nat.le_of_ble_eq_true rfl) (Nat.le_of_ble_eq_true rfl) dJ7_copyOfRangeByte_39247_24 ?_
  refine lv_topi (fun y4 ey4 => ?_)
  obtain rfl : y4 = 4 := ey4.trans (by decide)
  refine va_copyi (D := (dC, dI)) (sp := 0) (dp := 0) (n := 4) hx hb (by rw [hml]; exact hl.1.symm) hown (hts (.methodLink RJ7 150 arraycopyName) (by decide +kernel)) (hts (.native arraycopyName) (by decide +kernel)) (hts (.static arraycopyName) (by decide +kernel)) (hts (.initialized "java/lang/System") (by decide +kernel)) hK hP hD hS 0 1 0 1 rfl rfl rfl rfl rfl (by decide) (by decide) (by decide) (by decide) (by decide) (fun i hi => f0_t _) (Nat.le_of_ble_eq_true rfl) (Nat.le_of_ble_eq_true rfl) dJ7_copyOfRangeByte_39247_27 (fun H locs hP hD hS => ?_)
  have hP : va_P (dC, dI) vwCl [(h0, .inl (k0, 16, .inl f0)), (q2, .inl (cq2, 4, .inl (va_cpy f0 (fun _ => 0) (0 : Int32).toNatClampNeg (0 : Int32).toNatClampNeg (4 : Int32).toNatClampNeg)))] H := hP
  have hD : va_D A [(h0, .inl (k0, 16, .inl f0)), (q2, .inl (cq2, 4, .inl (va_cpy f0 (fun _ => 0) (0 : Int32).toNatClampNeg (0 : Int32).toNatClampNeg (4 : Int32).toNatClampNeg)))] := hD
  obtain ⟨f5, hf5⟩ : ∃ f : Nat → Int32, f = va_cpy f0 (fun _ => 0) (0 : Int32).toNatClampNeg (0 : Int32).toNatClampNeg (4 : Int32).toNatClampNeg := ⟨_, rfl⟩
  have f5_t : sb_Fit f5 := by rw [hf5]; exact sb_fitC f0_t sb_fit0
  rw [← hf5] at hP hD
  refine lv_aload hx hb dJ7_copyOfRangeByte_39247_30 (lv_at hl 0 rfl) ?_
  exact W.aret (v := .ref q2) hx hb hr (Or.inr ⟨_, rfl⟩) (Or.inr ⟨_, rfl⟩) (fun t ht hW => ⟨⟨(), q2, rfl, trivial, q2, cq2, f5, f5_t, rfl, by rw [ht]; exact hP, va_K.moved hW.alike hK, hD⟩, hS.F ht⟩) hS.2.2 dJ7_copyOfRangeByte_39247_32
set_option maxHeartbeats 4000000 in
set_option maxRecDepth 100000 in
theorem kx_J7_copyOfRange_39247_4 (l : Launch) (dC : Nat → ClassId) (dI : Nat → Nat → Nat) (h0 : Nat) (k0 : ClassId) (sz : Nat) (f0 : Nat → Int32) (f0_t : sb_Fit f0) : Met l yJ7_copyOfRange_39247 wsJ7_copyOfRange_39247 ({ frames := 2, cells := 1, slots := 4, locals := 84 }) (va_Pc [.ref h0, .int 0, .int 4] (fun U => U.heap.size = sz ∧ va_P (dC, dI) vwCl [(h0, .inl (k0, 16, .inl f0))] U.heap ∧ va_K (dC, dI) vwCl [(k0, .byte)] U ∧ va_D (fun _ => True) [(h0, .inl (k0, 16, .inl f0))])) (va_Qr (fun _ : Unit => True) (fun (_ : Unit) (ra : Nat) (t : State) => ∃ q1 : Nat, ∃ cq2 : ClassId, ∃ f3 : Nat → Int32, sb_Fit f3 ∧ ra = q1 ∧ va_P (dC, dI) vwCl [(h0, .inl (k0, 16, .inl f0)), (q1, .inl (cq2, 4, .inl f3))] t.heap ∧ va_K (dC, dI) vwCl [(k0, .byte), (cq2, .byte)] t ∧ va_D (va_A [(h0, .inl (k0, 16, .inl f0))] sz) [(h0, .inl (k0, 16, .inl f0)), (q1, .inl (cq2, 4, .inl f3))]) (va_A [(h0, .inl (k0, 16, .inl f0))] sz)) 1 4 (va_A [(h0, .inl (k0, 16, .inl f0))] sz) := by
  refine Met.ofW (cc := cJ7_copyOfRange_39247) (maxL := 3) (ret := (some (.array .byte))) (by decide) rfl ?_
  intro p e s m args below meth c s₁ B hml hv
  obtain ⟨rfl, hsz, hP, hK, hD0⟩ := hv
  have hx := B.exec
  have hb := B.bytes
  have hr := B.returns
  have hts := atoms_spec (ws := wsJ7_copyOfRange_39247) B.pre
  have hown : s.vm.findClass RJ7 = some m.cls := findClass_of_methodNamed B.named
  have hlocks := B.notSynchronized
  subst hsz
  have hD := hD0.self (sz := s.heap.size)
  generalize hAe : va_A [(h0, .inl (k0, 16, .inl f0))] s.heap.size = A at hD ⊢
  have hA : ∀ q : Nat, s.heap.size ≤ q → A q := fun q h => by rw [← hAe]; exact Or.inr h
  have hS : va_S A s.heap s.heap [] := va_S.rf
  have hP : va_P (dC, dI) vwCl [(h0, .inl (k0, 16, .inl f0))] s.heap := hP
  have hl := lv_entry ([.ref h0, .int 0, .int 4]) (n := 3) (Nat.le_of_ble_eq_true rfl)
  rw [lg_entry_eq]
  generalize (lg_sl ([.ref h0, .int 0, .int 4]) ++ List.replicate (3 - (lg_sl ([.ref h0, .int 0, .int 4])).length) Slot.unset).toArray = ls at hl ⊢
  have hl : lv_has ls 3 [(0, .ref h0), (1, .int 0), (2, .int 4)] := hl
  refine lv_iload_n hx hb dJ7_copyOfRange_39247_0 rfl (lv_at hl 1 rfl) ?_
  refine lv_if_ne (tgt := 10) hx hb dJ7_copyOfRange_39247_1 (by decide) (fun c9 => absurd (by decide) c9) (fun _ => ?_)
  refine lv_iload_n hx hb dJ7_copyOfRange_39247_4 rfl (lv_at hl 2 rfl) ?_
  refine lv_aload_n hx hb dJ7_copyOfRange_39247_5 rfl (lv_at hl 0 rfl) ?_
  refine va_alen (D := (dC, dI)) (v := 16) hx hb hK hP 0 0 rfl rfl (show Int32.ofNat 16 = 16 from by decide) dJ7_copyOfRange_39247_6 ?_
  refine lv_icmp_eq (tgt := 17) hx hb dJ7_copyOfRange_39247_7 (by decide) (fun c9 => absurd c9 (by decide)) (fun _ => ?_)
  refine lv_aload_n hx hb dJ7_copyOfRange_39247_10 rfl (lv_at hl 0 rfl) ?_
  refine lv_iload_n hx hb dJ7_copyOfRange_39247_11 rfl (lv_at hl 1 rfl) ?_
  refine lv_iload_n hx hb dJ7_copyOfRange_39247_12 rfl (lv_at hl 2 rfl) ?_
  have hPc := hP.sub (ws' := [(h0, .inl (k0, 16, .inl f0))]) [0] rfl
  have hDc := hD.sub (ws' := [(h0, .inl (k0, 16, .inl f0))]) [0] (by decide) rfl
  have hKc := hK.sub (tys' := [(k0, .byte)]) [0] rfl
  have hFc := va_free (wc := [(h0, .inl (k0, 16, .inl f0))]) hD hS hA [0] rfl
  refine va_callr (va_runS (As := [.ref h0, .int 0, .int 4]) (rest := []) ⟨hx, hb, hml, hown, hts⟩ (kx_J7_copyOfRangeByte_39247_4 l dC dI h0 k0 s.heap.size f0 f0_t) (cwS 3 hts gJ7_copyOfRange_39247_J7_copyOfRangeByte_39247 rfl rfl rfl (by decide +kernel) ⟨Nat.le_of_ble_eq_true rfl, Nat.le_of_ble_eq_true rfl⟩) ⟨fun a U g mk q => by obtain ⟨q0, q1, qP, qK, qD⟩ := q; exact ⟨q0, q1, qP, va_K.moved (u := U) (U := U.calling g mk a) (Vm.Alike.refl U.vm) qK, qD⟩, fun U hU hW => ⟨rfl, by rw [hU], by rw [hU]; exact hPc, va_K.moved hW.alike hKc, hDc.weaken (fun _ _ _ _ => trivial)⟩⟩ rfl rfl hl.1 rfl (lv_room (Nat.le_of_ble_eq_true rfl)) dJ7_copyOfRange_39247_13 ⟨Nat.le_of_ble_eq_true rfl, Nat.le_of_ble_eq_true rfl⟩) hS (fun q _ h => hFc q h) hFc (fun u ra t H1 locs ht hvm hw hB hz1 hk1 hS => ?_)
  obtain ⟨q1, cq2, f3, f3_t, hra, hP1, hK1, hD1⟩ := hB
  rw [hra]
  rw [ht] at hP1
  have hK1 := va_K.moved hvm.symm hK1
  obtain ⟨hP, hD⟩ := va_join (wr := []) (w1 := [(h0, .inl (k0, 16, .inl f0)), (q1, .inl (cq2, 4, .inl f3))]) hP hD [0] [] rfl rfl (by decide) (by decide) hk1 hFc hP1 hD1
  have hK := hK.app (hK1.sub (tys' := [(cq2, .byte)]) [1] rfl)
  generalize H1 = H at hP hS ⊢
  have hK : va_K (dC, dI) vwCl [(k0, .byte), (cq2, .byte)] s := hK
  have hP : va_P (dC, dI) vwCl [(h0, .inl (k0, 16, .inl f0)), (q1, .inl (cq2, 4, .inl f3))] H := hP
  have hD : va_D A [(h0, .inl (k0, 16, .inl f0)), (q1, .inl (cq2, 4, .inl f3))] := hD
  refine W.widen (k := 1) (n := 4) (by omega) (by omega) ?_
  exact W.aret (v := .ref q1) hx hb hr (Or.inr ⟨_, rfl⟩) (Or.inr ⟨_, rfl⟩) (fun t ht hW => ⟨⟨(), q1, rfl, trivial, q1, cq2, f3, f3_t, rfl, by rw [ht]; exact hP, va_K.moved hW.alike hK, hD⟩, hS.F ht⟩) hS.2.2 dJ7_copyOfRange_39247_16
set_option maxHeartbeats 4000000 in
set_option maxRecDepth 100000 in
theorem kx_J0_init_db425_4 (l : Launch) (dC : Nat → ClassId) (dI : Nat → Nat → Nat) (ge5 gea gv5 gva gde gic gi0 : Nat) (h0 : Nat) (h1 : Nat) (h2 : Nat) (k0 : ClassId) (sz : Nat) (f0 : Nat → Int32) (f0_t : sb_Fit f0) : Met l yJ0_init_db425 wsJ0_init_db425 ({ frames := 3, cells := 1, slots := 4, locals := 106 }) (va_Pc [.ref h2, .ref h0, .null] (fun U => U.heap.size = sz ∧ va_P (dC, dI) vwCl [(h0, .inr (1, [.ref h1, .int 0, .int 0, .int 4])), (h1, .inl (k0, 16, .inl f0)), (h2, .inr (0, [.null, .int 0, .int 0, .int 0]))] U.heap ∧ va_K (dC, dI) vwCl [(k0, .byte)] U ∧ va_D (fun _ => True) [(h0, .inr (1, [.ref h1, .int 0, .int 0, .int 4])), (h1, .inl (k0, 16, .inl f0)), (h2, .inr (0, [.null, .int 0, .int 0, .int 0]))] ∧ gv ge5 gea gv5 gva gde gic gi0 (va_A [(h0, .inr (1, [.ref h1, .int 0, .int 0, .int 4])), (h1, .inl (k0, 16, .inl f0)), (h2, .inr (0, [.null, .int 0, .int 0, .int 0]))] sz) U U.heap)) (va_Qv (fun _ : Unit => True) (fun (_ : Unit) (t : State) => ∃ q1 : Nat, ∃ cq2 : ClassId, ∃ f3 : Nat → Int32, sb_Fit f3 ∧ va_P (dC, dI) vwCl [(h0, .inr (1, [.ref h1, .int 0, .int 0, .int 4])), (h1, .inl (k0, 16, .inl f0)), (h2, .inr (0, [.ref q1, .int 0, .int 0, .int 0])), (q1, .inl (cq2, 4, .inl f3))] t.heap ∧ va_K (dC, dI) vwCl [(k0, .byte), (cq2, .byte)] t ∧ va_D (va_A [(h0, .inr (1, [.ref h1, .int 0, .int 0, .int 4])), (h1, .inl (k0, 16, .inl f0)), (h2, .inr (0, [.null, .int 0, .int 0, .int 0]))] sz) [(h0, .inr (1, [.ref h1, .int 0, .int 0, .int 4])), (h1, .inl (k0, 16, .inl f0)), (h2, .inr (0, [.ref q1, .int 0, .int 0, .int 0])), (q1, .inl (cq2, 4, .inl f3))]) (va_A [(h0, .inr (1, [.ref h1, .int 0, .int 0, .int 4])), (h1, .inl (k0, 16, .inl f0)), (h2, .inr (0, [.null, .int 0, .int 0, .int 0]))] sz)) 1 4 (va_A [(h0, .inr (1, [.ref h1, .int 0, .int 0, .int 4])), (h1, .inl (k0, 16, .inl f0)), (h2, .inr (0, [.null, .int 0, .int 0, .int 0]))] sz) := by
  refine Met.ofW (cc := cJ0_init_db425) (maxL := 5) (ret := none) (by decide) rfl ?_
  intro p e s m args below meth c s₁ B hml hv
  obtain ⟨rfl, hsz, hP, hK, hD0, hG⟩ := hv
  have hx := B.exec
  have hb := B.bytes
  have hr := B.returns
  have hts := atoms_spec (ws := wsJ0_init_db425) B.pre
  have hown : s.vm.findClass RJ0 = some m.cls := findClass_of_methodNamed B.named
  have hlocks := B.notSynchronized
  have hin : meth.name = "<init>" := (name_of_methodNamed B.named B.method).1
  subst hsz
  have hD := hD0.self (sz := s.heap.size)
  generalize hAe : va_A [(h0, .inr (1, [.ref h1, .int 0, .int 0, .int 4])), (h1, .inl (k0, 16, .inl f0)), (h2, .inr (0, [.null, .int 0, .int 0, .int 0]))] s.heap.size = A at hD hG ⊢
  obtain ⟨⟨g_AO_Text, g_AO_String, g_AO_Object, g_nm_RX1_20, g_nm_RX0_17, g_nm_RX3_31, g_nm_RX2_44, g_nm_RL_121, g_nf_RL_13, g_nf_RL_47, g_ca_IO, g_ca_IA, g_ca_IS, g_ca_IntObj, g_ca_StrObj, g_de_RT, g_de_EX, g_de_TH, g_nc_IA_IO, g_nc_IS_IO, g_nc_IS_IA⟩, ⟨g_s3, g_s5, g_sa, g_x278, g_x280, g_x282, g_x284, g_x286, g_x180, g_x238, g_x250⟩, ⟨g_o5, g_c5, g_v5, g_t5, g_oa, g_ca, g_va, g_ta, g_zc, g_zd, g_td, g_zf, g_zU, g_zN, g_zh, g_zk, g_tk, g_oi, g_vi⟩⟩ := id hG
  have hA : ∀ q : Nat, s.heap.size ≤ q → A q := fun q h => by rw [← hAe]; exact Or.inr h
  have hS : va_S A s.heap s.heap [] := va_S.rf
  have hP : va_P (dC, dI) vwCl [(h0, .inr (1, [.ref h1, .int 0, .int 0, .int 4])), (h1, .inl (k0, 16, .inl f0)), (h2, .inr (0, [.null, .int 0, .int 0, .int 0]))] s.heap := hP
  have hl := lv_entry ([.ref h2, .ref h0, .null]) (n := 5) (Nat.le_of_ble_eq_true rfl)
  rw [lg_entry_eq]
  generalize (lg_sl ([.ref h2, .ref h0, .null]) ++ List.replicate (5 - (lg_sl ([.ref h2, .ref h0, .null])).length) Slot.unset).toArray = ls at hl ⊢
  have hl : lv_has ls 5 [(0, .ref h2), (1, .ref h0), (2, .null)] := hl
  refine lv_aload_n hx hb dJ0_init_db425_0 rfl (lv_at hl 0 rfl) ?_
  refine W.objInit hx hb hown (hts (.methodLink RJ0 1 objectInit) (by decide +kernel)) (hts (.instanceMethod objectInit) (by decide +kernel)) (hts (.code objectInit ⟨#[0xb1]⟩ 1 none) (by decide +kernel)) rfl (by rw [hml]; exact hl.1) rfl dJ0_init_db425_1 (Nat.le_of_ble_eq_true rfl) (Nat.le_of_ble_eq_true rfl) ?_
  refine W.eq (g2 := F0 m 4 ls []) rfl ?_
  refine lv_aload_n hx hb dJ0_init_db425_4 rfl (lv_at hl 1 rfl) ?_
  have hPc := hP.sub (ws' := [(h0, .inr (1, [.ref h1, .int 0, .int 0, .int 4]))]) [0] rfl
  have hDc := hD.sub (ws' := [(h0, .inr (1, [.ref h1, .int 0, .int 0, .int 4]))]) [0] (by decide) rfl
  have hKc := hK.sub (tys' := []) [] rfl
  have hFc := va_free (wc := [(h0, .inr (1, [.ref h1, .int 0, .int 0, .int 4]))]) hD hS hA [0] rfl
  refine va_callr (va_runU (As := []) (rest := []) ⟨hx, hb, hml, hown, hts⟩ (kx_J5_getValue_6d5f1_4 l dC dI h0 h1 s.heap.size) (va_cwU 0 hts gJ0_init_db425_J5_getValue_6d5f1_u552J4 rfl rfl rfl rfl (by decide +kernel) ⟨Nat.le_of_ble_eq_true rfl, Nat.le_of_ble_eq_true rfl⟩) ⟨fun a U g mk q => by obtain ⟨q0, q1, qP, qK, qD⟩ := q; exact ⟨q0, q1, qP, va_K.moved (u := U) (U := U.calling g mk a) (Vm.Alike.refl U.vm) qK, qD⟩, va_recv hKc hPc (ci := 1) (q0 := 0) rfl rfl, fun U hU hW => ⟨rfl, by rw [hU], by rw [hU]; exact hPc, va_K.moved hW.alike hKc, hDc.weaken (fun _ _ _ _ => trivial)⟩⟩ rfl rfl hl.1 rfl (lv_room (Nat.le_of_ble_eq_true rfl)) dJ0_init_db425_5 ⟨Nat.le_of_ble_eq_true rfl, Nat.le_of_ble_eq_true rfl⟩) hS (fun q _ h => hFc q h) hFc (fun u ra t H1 locs ht hvm hw hB hz1 hk1 hS => ?_)
  obtain ⟨hra, hP1, hK1, hD1⟩ := hB
  rw [hra]
  rw [ht] at hP1
  have hK1 := va_K.moved hvm.symm hK1
  obtain ⟨hP, hD⟩ := va_join (wr := [(h1, .inl (k0, 16, .inl f0)), (h2, .inr (0, [.null, .int 0, .int 0, .int 0]))]) (w1 := [(h0, .inr (1, [.ref h1, .int 0, .int 0, .int 4]))]) hP hD [0] [1, 2] rfl rfl (by decide) (by decide) hk1 hFc hP1 hD1
  generalize H1 = H at hP hS ⊢
  have hP : va_P (dC, dI) vwCl [(h1, .inl (k0, 16, .inl f0)), (h2, .inr (0, [.null, .int 0, .int 0, .int 0])), (h0, .inr (1, [.ref h1, .int 0, .int 0, .int 4]))] H := hP
  have hD : va_D A [(h1, .inl (k0, 16, .inl f0)), (h2, .inr (0, [.null, .int 0, .int 0, .int 0])), (h0, .inr (1, [.ref h1, .int 0, .int 0, .int 4]))] := hD
  refine lv_astore_n (lv' := [(3, .ref h1), (0, .ref h2), (1, .ref h0), (2, .null)]) hx hb dJ0_init_db425_8 rfl hl (by decide) rfl (fun ls hl => ?_)
  refine lv_aload_n hx hb dJ0_init_db425_9 rfl (lv_at hl 2 rfl) ?_
  have hPc := hP.sub (ws' := [(h0, .inr (1, [.ref h1, .int 0, .int 0, .int 4]))]) [2] rfl
  have hDc := hD.sub (ws' := [(h0, .inr (1, [.ref h1, .int 0, .int 0, .int 4]))]) [2] (by decide) rfl
  have hKc := hK.sub (tys' := []) [] rfl
  have hFc := va_free (wc := [(h0, .inr (1, [.ref h1, .int 0, .int 0, .int 4]))]) hD hS hA [2] rfl
  refine va_calli (va_runU (As := []) (rest := []) ⟨hx, hb, hml, hown, hts⟩ (kx_J4_length_8abf5_4 l dC dI h0 h1 H.size) (va_cwO 0 hts gJ0_init_db425_J4_length_8abf5_u549J4 rfl rfl rfl (b0 := cJ5_length_8abf5) (m0 := 1) (r0 := (some .int)) (by decide +kernel) (by decide +kernel) ⟨Nat.le_of_ble_eq_true rfl, Nat.le_of_ble_eq_true rfl⟩) ⟨fun a U g mk q => by obtain ⟨q0, q1, qP, qK, qD⟩ := q; exact ⟨q0, q1, qP, va_K.moved (u := U) (U := U.calling g mk a) (Vm.Alike.refl U.vm) qK, qD⟩, va_recv hKc hPc (ci := 1) (q0 := 0) rfl rfl, fun U hU hW => ⟨rfl, by rw [hU], by rw [hU]; exact hPc, va_K.moved hW.alike hKc, hDc.weaken (fun _ _ _ _ => trivial)⟩⟩ rfl rfl hl.1 rfl (lv_room (Nat.le_of_ble_eq_true rfl)) dJ0_init_db425_10 ⟨Nat.le_of_ble_eq_true rfl, Nat.le_of_ble_eq_true rfl⟩) hS (fun q _ h => hFc q h) hFc (fun r9 u t H1 locs ht hvm hw hB hz1 hk1 hS => ?_)
  obtain rfl := hw
  obtain ⟨hP1, hK1, hD1⟩ := hB
  rw [ht] at hP1
  have hK1 := va_K.moved hvm.symm hK1
  obtain ⟨hP, hD⟩ := va_join (wr := [(h1, .inl (k0, 16, .inl f0)), (h2, .inr (0, [.null, .int 0, .int 0, .int 0]))]) (w1 := [(h0, .inr (1, [.ref h1, .int 0, .int 0, .int 4]))]) hP hD [2] [0, 1] rfl rfl (by decide) (by decide) hk1 hFc hP1 hD1
  generalize H1 = H at hP hS ⊢
  have hP : va_P (dC, dI) vwCl [(h1, .inl (k0, 16, .inl f0)), (h2, .inr (0, [.null, .int 0, .int 0, .int 0])), (h0, .inr (1, [.ref h1, .int 0, .int 0, .int 4]))] H := hP
  have hD : va_D A [(h1, .inl (k0, 16, .inl f0)), (h2, .inr (0, [.null, .int 0, .int 0, .int 0])), (h0, .inr (1, [.ref h1, .int 0, .int 0, .int 4]))] := hD
  refine lv_istore (lv' := [(4, .int 4), (3, .ref h1), (0, .ref h2), (1, .ref h0), (2, .null)]) hx hb dJ0_init_db425_13 hl (by decide) rfl (fun ls hl => ?_)
  refine lv_aload_n hx hb dJ0_init_db425_15 rfl (lv_at hl 3 rfl) ?_
  have hPc := hP.sub (ws' := [(h0, .inr (1, [.ref h1, .int 0, .int 0, .int 4]))]) [2] rfl
  have hDc := hD.sub (ws' := [(h0, .inr (1, [.ref h1, .int 0, .int 0, .int 4]))]) [2] (by decide) rfl
  have hKc := hK.sub (tys' := []) [] rfl
  have hFc := va_free (wc := [(h0, .inr (1, [.ref h1, .int 0, .int 0, .int 4]))]) hD hS hA [2] rfl
  refine va_calli (va_runU (As := []) (rest := []) ⟨hx, hb, hml, hown, hts⟩ (kx_J5_isLatin1_aae02_4 l dC dI ge5 gea gv5 gva gde gic gi0 h0 h1 H.size) (va_cwU 0 hts gJ0_init_db425_J5_isLatin1_aae02_u1047J4 rfl rfl rfl rfl (by decide +kernel) ⟨Nat.le_of_ble_eq_true rfl, Nat.le_of_ble_eq_true rfl⟩) ⟨fun a U g mk q => by obtain ⟨q0, q1, qP, qK, qD, qG⟩ := q; exact ⟨q0, q1, qP, va_K.moved (u := U) (U := U.calling g mk a) (Vm.Alike.refl U.vm) qK, qD, gv.fb qG⟩, va_recv hKc hPc (ci := 1) (q0 := 0) rfl rfl, fun U hU hW => ⟨rfl, by rw [hU], by rw [hU]; exact hPc, va_K.moved hW.alike hKc, hDc.weaken (fun _ _ _ _ => trivial), gv.pass hW hU hS hFc hG⟩⟩ rfl rfl hl.1 rfl (lv_room (Nat.le_of_ble_eq_true rfl)) dJ0_init_db425_16 ⟨Nat.le_of_ble_eq_true rfl, Nat.le_of_ble_eq_true rfl⟩) hS (fun q _ h => hFc q h) hFc (fun r9 u t H1 locs ht hvm hw hB hz1 hk1 hS => ?_)
  obtain rfl := hw
  obtain ⟨hP1, hK1, hD1⟩ := hB
  rw [ht] at hP1
  have hK1 := va_K.moved hvm.symm hK1
  obtain ⟨hP, hD⟩ := va_join (wr := [(h1, .inl (k0, 16, .inl f0)), (h2, .inr (0, [.null, .int 0, .int 0, .int 0]))]) (w1 := [(h0, .inr (1, [.ref h1, .int 0, .int 0, .int 4]))]) hP hD [2] [0, 1] rfl rfl (by decide) (by decide) hk1 hFc hP1 hD1
  generalize H1 = H at hP hS ⊢
  have hP : va_P (dC, dI) vwCl [(h1, .inl (k0, 16, .inl f0)), (h2, .inr (0, [.null, .int 0, .int 0, .int 0])), (h0, .inr (1, [.ref h1, .int 0, .int 0, .int 4]))] H := hP
  have hD : va_D A [(h1, .inl (k0, 16, .inl f0)), (h2, .inr (0, [.null, .int 0, .int 0, .int 0])), (h0, .inr (1, [.ref h1, .int 0, .int 0, .int 4]))] := hD
  refine lv_if_eq (tgt := 41) hx hb dJ0_init_db425_19 (by decide) (fun c9 => absurd c9 (by decide)) (fun _ => ?_)
  refine lv_aload_n hx hb dJ0_init_db425_22 rfl (lv_at hl 2 rfl) ?_
  refine lv_iconst (v := 0) hx hb dJ0_init_db425_23 (by decide) ?_
  refine va_putF (D := (dC, dI)) (ci := 0) (v := .int 0) (ty := .byte) (C := RJ0) (T := TJ0) (N := 4) hx hb hts (by decide +kernel) tyJ0 tyJ0_ok nmJ0 hown hK hP hD hS 1 rfl rfl 1 (by decide) (hts (.fieldLink RJ0 15 "java/lang/String" "coder" "B") (by decide +kernel)) (fun _ h9 => h9) rfl hin rfl (by decide +kernel) rfl rfl (Nat.le_of_ble_eq_true rfl) dJ0_init_db425_24 (fun H locs hP hD hS => ?_)
  have hP : va_P (dC, dI) vwCl [(h1, .inl (k0, 16, .inl f0)), (h2, .inr (0, [.null, .int 0, .int 0, .int 0])), (h0, .inr (1, [.ref h1, .int 0, .int 0, .int 4]))] H := hP
  have hD : va_D A [(h1, .inl (k0, 16, .inl f0)), (h2, .inr (0, [.null, .int 0, .int 0, .int 0])), (h0, .inr (1, [.ref h1, .int 0, .int 0, .int 4]))] := hD
  refine lv_aload_n hx hb dJ0_init_db425_27 rfl (lv_at hl 2 rfl) ?_
  refine lv_aload_n hx hb dJ0_init_db425_28 rfl (lv_at hl 1 rfl) ?_
  refine lv_iconst (v := 0) hx hb dJ0_init_db425_29 (by decide) ?_
  refine lv_iload hx hb dJ0_init_db425_30 (lv_at hl 0 rfl) ?_
  have hPc := hP.sub (ws' := [(h1, .inl (k0, 16, .inl f0))]) [0] rfl
  have hDc := hD.sub (ws' := [(h1, .inl (k0, 16, .inl f0))]) [0] (by decide) rfl
  have hKc := hK.sub (tys' := [(k0, .byte)]) [0] rfl
  have hFc := va_free (wc := [(h1, .inl (k0, 16, .inl f0))]) hD hS hA [0] rfl
  refine va_callr (va_runS (As := [.ref h1, .int 0, .int 4]) (rest := [.ref h2]) ⟨hx, hb, hml, hown, hts⟩ (kx_J7_copyOfRange_39247_4 l dC dI h1 k0 H.size f0 f0_t) (va_cwS 3 hts gJ0_init_db425_J7_copyOfRange_39247 rfl rfl rfl (by decide +kernel) ⟨Nat.le_of_ble_eq_true rfl, Nat.le_of_ble_eq_true rfl⟩) ⟨fun a U g mk q => by obtain ⟨q0, q1, qP, qK, qD⟩ := q; exact ⟨q0, q1, qP, va_K.moved (u := U) (U := U.calling g mk a) (Vm.Alike.refl U.vm) qK, qD⟩, fun U hU hW => ⟨rfl, by rw [hU], by rw [hU]; exact hPc, va_K.moved hW.alike hKc, hDc.weaken (fun _ _ _ _ => trivial)⟩⟩ rfl rfl hl.1 rfl (lv_room (Nat.le_of_ble_eq_true rfl)) dJ0_init_db425_32 ⟨Nat.le_of_ble_eq_true rfl, Nat.le_of_ble_eq_true rfl⟩) hS (fun q _ h => hFc q h) hFc (fun u ra t H1 locs ht hvm hw hB hz1 hk1 hS => ?_)
  obtain ⟨q1, cq2, f3, f3_t, hra, hP1, hK1, hD1⟩ := hB
  rw [hra]
  rw [ht] at hP1
  have hK1 := va_K.moved hvm.symm hK1
  obtain ⟨hP, hD⟩ := va_join (wr := [(h2, .inr (0, [.null, .int 0, .int 0, .int 0])), (h0, .inr (1, [.ref h1, .int 0, .int 0, .int 4]))]) (w1 := [(h1, .inl (k0, 16, .inl f0)), (q1, .inl (cq2, 4, .inl f3))]) hP hD [0] [1, 2] rfl rfl (by decide) (by decide) hk1 hFc hP1 hD1
  have hK := hK.app (hK1.sub (tys' := [(cq2, .byte)]) [1] rfl)
  generalize H1 = H at hP hS ⊢
  have hK : va_K (dC, dI) vwCl [(k0, .byte), (cq2, .byte)] s := hK
  have hP : va_P (dC, dI) vwCl [(h2, .inr (0, [.null, .int 0, .int 0, .int 0])), (h0, .inr (1, [.ref h1, .int 0, .int 0, .int 4])), (h1, .inl (k0, 16, .inl f0)), (q1, .inl (cq2, 4, .inl f3))] H := hP
  have hD : va_D A [(h2, .inr (0, [.null, .int 0, .int 0, .int 0])), (h0, .inr (1, [.ref h1, .int 0, .int 0, .int 4])), (h1, .inl (k0, 16, .inl f0)), (q1, .inl (cq2, 4, .inl f3))] := hD
  refine W.widen (k := 1) (n := 4) (by omega) (by omega) ?_
  refine va_putF (D := (dC, dI)) (ci := 0) (v := .ref q1) (ty := .array .byte) (C := RJ0) (T := TJ0) (N := 4) hx hb hts (by decide +kernel) tyJ0 tyJ0_ok nmJ0 hown hK hP hD hS 0 rfl rfl 0 (by decide) (hts (.fieldLink RJ0 9 "java/lang/String" "value" "[B") (by decide +kernel)) (fun _ h9 => h9) rfl hin rfl (by decide +kernel) rfl rfl (Nat.le_of_ble_eq_true rfl) dJ0_init_db425_35 (fun H locs hP hD hS => ?_)
  have hP : va_P (dC, dI) vwCl [(h2, .inr (0, [.ref q1, .int 0, .int 0, .int 0])), (h0, .inr (1, [.ref h1, .int 0, .int 0, .int 4])), (h1, .inl (k0, 16, .inl f0)), (q1, .inl (cq2, 4, .inl f3))] H := hP
  have hD : va_D A [(h2, .inr (0, [.ref q1, .int 0, .int 0, .int 0])), (h0, .inr (1, [.ref h1, .int 0, .int 0, .int 4])), (h1, .inl (k0, 16, .inl f0)), (q1, .inl (cq2, 4, .inl f3))] := hD
  refine lv_goto (tgt := 97) hx hb dJ0_init_db425_38 (by decide) ?_
  have hP := hP.sub (ws' := [(h0, .inr (1, [.ref h1, .int 0, .int 0, .int 4])), (h1, .inl (k0, 16, .inl f0)), (h2, .inr (0, [.ref q1, .int 0, .int 0, .int 0])), (q1, .inl (cq2, 4, .inl f3))]) [1, 2, 0, 3] rfl
  have hD := hD.sub (ws' := [(h0, .inr (1, [.ref h1, .int 0, .int 0, .int 4])), (h1, .inl (k0, 16, .inl f0)), (h2, .inr (0, [.ref q1, .int 0, .int 0, .int 0])), (q1, .inl (cq2, 4, .inl f3))]) [1, 2, 0, 3] (by decide) rfl
  exact W.vret hx hb hr (fun t ht hW => ⟨⟨(), rfl, trivial, q1, cq2, f3, f3_t, by rw [ht]; exact hP, va_K.moved hW.alike hK, hD⟩, hS.F ht⟩) hS.2.2 dJ0_init_db425_97
set_option maxHeartbeats 4000000 in
set_option maxRecDepth 100000 in
theorem kx_J0_init_81219_4 (l : Launch) (dC : Nat → ClassId) (dI : Nat → Nat → Nat) (ge5 gea gv5 gva gde gic gi0 : Nat) (h0 : Nat) (h1 : Nat) (h2 : Nat) (k0 : ClassId) (sz : Nat) (f0 : Nat → Int32) (f0_t : sb_Fit f0) : Met l yJ0_init_81219 wsJ0_init_81219 ({ frames := 4, cells := 1, slots := 4, locals := 130 }) (va_Pc [.ref h2, .ref h0] (fun U => U.heap.size = sz ∧ va_P (dC, dI) vwCl [(h0, .inr (1, [.ref h1, .int 0, .int 0, .int 4])), (h1, .inl (k0, 16, .inl f0)), (h2, .inr (0, [.null, .int 0, .int 0, .int 0]))] U.heap ∧ va_K (dC, dI) vwCl [(k0, .byte)] U ∧ va_D (fun _ => True) [(h0, .inr (1, [.ref h1, .int 0, .int 0, .int 4])), (h1, .inl (k0, 16, .inl f0)), (h2, .inr (0, [.null, .int 0, .int 0, .int 0]))] ∧ gv ge5 gea gv5 gva gde gic gi0 (va_A [(h0, .inr (1, [.ref h1, .int 0, .int 0, .int 4])), (h1, .inl (k0, 16, .inl f0)), (h2, .inr (0, [.null, .int 0, .int 0, .int 0]))] sz) U U.heap)) (va_Qv (fun _ : Unit => True) (fun (_ : Unit) (t : State) => ∃ q1 : Nat, ∃ cq2 : ClassId, ∃ f3 : Nat → Int32, sb_Fit f3 ∧ va_P (dC, dI) vwCl [(h0, .inr (1, [.ref h1, .int 0, .int 0, .int 4])), (h1, .inl (k0, 16, .inl f0)), (h2, .inr (0, [.ref q1, .int 0, .int 0, .int 0])), (q1, .inl (cq2, 4, .inl f3))] t.heap ∧ va_K (dC, dI) vwCl [(k0, .byte), (cq2, .byte)] t ∧ va_D (va_A [(h0, .inr (1, [.ref h1, .int 0, .int 0, .int 4])), (h1, .inl (k0, 16, .inl f0)), (h2, .inr (0, [.null, .int 0, .int 0, .int 0]))] sz) [(h0, .inr (1, [.ref h1, .int 0, .int 0, .int 4])), (h1, .inl (k0, 16, .inl f0)), (h2, .inr (0, [.ref q1, .int 0, .int 0, .int 0])), (q1, .inl (cq2, 4, .inl f3))]) (va_A [(h0, .inr (1, [.ref h1, .int 0, .int 0, .int 4])), (h1, .inl (k0, 16, .inl f0)), (h2, .inr (0, [.null, .int 0, .int 0, .int 0]))] sz)) 1 4 (va_A [(h0, .inr (1, [.ref h1, .int 0, .int 0, .int 4])), (h1, .inl (k0, 16, .inl f0)), (h2, .inr (0, [.null, .int 0, .int 0, .int 0]))] sz) := by
  refine Met.ofW (cc := cJ0_init_81219) (maxL := 2) (ret := none) (by decide) rfl ?_
  intro p e s m args below meth c s₁ B hml hv
  obtain ⟨rfl, hsz, hP, hK, hD0, hG⟩ := hv
  have hx := B.exec
  have hb := B.bytes
  have hr := B.returns
  have hts := atoms_spec (ws := wsJ0_init_81219) B.pre
  have hown : s.vm.findClass RJ0 = some m.cls := findClass_of_methodNamed B.named
  have hlocks := B.notSynchronized
  have hin : meth.name = "<init>" := (name_of_methodNamed B.named B.method).1
  subst hsz
  have hD := hD0.self (sz := s.heap.size)
  generalize hAe : va_A [(h0, .inr (1, [.ref h1, .int 0, .int 0, .int 4])), (h1, .inl (k0, 16, .inl f0)), (h2, .inr (0, [.null, .int 0, .int 0, .int 0]))] s.heap.size = A at hD hG ⊢
  obtain ⟨⟨g_AO_Text, g_AO_String, g_AO_Object, g_nm_RX1_20, g_nm_RX0_17, g_nm_RX3_31, g_nm_RX2_44, g_nm_RL_121, g_nf_RL_13, g_nf_RL_47, g_ca_IO, g_ca_IA, g_ca_IS, g_ca_IntObj, g_ca_StrObj, g_de_RT, g_de_EX, g_de_TH, g_nc_IA_IO, g_nc_IS_IO, g_nc_IS_IA⟩, ⟨g_s3, g_s5, g_sa, g_x278, g_x280, g_x282, g_x284, g_x286, g_x180, g_x238, g_x250⟩, ⟨g_o5, g_c5, g_v5, g_t5, g_oa, g_ca, g_va, g_ta, g_zc, g_zd, g_td, g_zf, g_zU, g_zN, g_zh, g_zk, g_tk, g_oi, g_vi⟩⟩ := id hG
  have hA : ∀ q : Nat, s.heap.size ≤ q → A q := fun q h => by rw [← hAe]; exact Or.inr h
  have hS : va_S A s.heap s.heap [] := va_S.rf
  have hP : va_P (dC, dI) vwCl [(h0, .inr (1, [.ref h1, .int 0, .int 0, .int 4])), (h1, .inl (k0, 16, .inl f0)), (h2, .inr (0, [.null, .int 0, .int 0, .int 0]))] s.heap := hP
  have hl := lv_entry ([.ref h2, .ref h0]) (n := 2) (Nat.le_of_ble_eq_true rfl)
  rw [lg_entry_eq]
  generalize (lg_sl ([.ref h2, .ref h0]) ++ List.replicate (2 - (lg_sl ([.ref h2, .ref h0])).length) Slot.unset).toArray = ls at hl ⊢
  have hl : lv_has ls 2 [(0, .ref h2), (1, .ref h0)] := hl
  refine lv_aload_n hx hb dJ0_init_81219_0 rfl (lv_at hl 0 rfl) ?_
  refine lv_aload_n hx hb dJ0_init_81219_1 rfl (lv_at hl 1 rfl) ?_
  refine lv_null hx hb dJ0_init_81219_2 ?_
  have hPc := hP.sub (ws' := [(h0, .inr (1, [.ref h1, .int 0, .int 0, .int 4])), (h1, .inl (k0, 16, .inl f0)), (h2, .inr (0, [.null, .int 0, .int 0, .int 0]))]) [0, 1, 2] rfl
  have hDc := hD.sub (ws' := [(h0, .inr (1, [.ref h1, .int 0, .int 0, .int 4])), (h1, .inl (k0, 16, .inl f0)), (h2, .inr (0, [.null, .int 0, .int 0, .int 0]))]) [0, 1, 2] (by decide) rfl
  have hKc := hK.sub (tys' := [(k0, .byte)]) [0] rfl
  have hFc := va_free (wc := [(h0, .inr (1, [.ref h1, .int 0, .int 0, .int 4])), (h1, .inl (k0, 16, .inl f0)), (h2, .inr (0, [.null, .int 0, .int 0, .int 0]))]) hD hS hA [0, 1, 2] rfl
  refine va_callv (va_runI (As := [.ref h0, .null]) (rest := []) ⟨hx, hb, hml, hown, hts⟩ (kx_J0_init_db425_4 l dC dI ge5 gea gv5 gva gde gic gi0 h0 h1 h2 k0 s.heap.size f0 f0_t) (cwI 2 hts gJ0_init_81219_J0_init_db425 rfl rfl rfl (hts (.initialized RJ0) (by decide +kernel)) (hts (.methodLink RJ0 489 yJ0_init_db425) (by decide +kernel)) (hts (.instanceMethod yJ0_init_db425) (by decide +kernel)) rfl (by decide +kernel) ⟨Nat.le_of_ble_eq_true rfl, Nat.le_of_ble_eq_true rfl⟩) ⟨fun a U g mk q => by obtain ⟨q0, q1, qP, qK, qD, qG⟩ := q; exact ⟨q0, q1, qP, va_K.moved (u := U) (U := U.calling g mk a) (Vm.Alike.refl U.vm) qK, qD, gv.fb qG⟩, fun U hU hW => ⟨rfl, by rw [hU], by rw [hU]; exact hPc, va_K.moved hW.alike hKc, hDc.weaken (fun _ _ _ _ => trivial), gv.pass hW hU hS hFc hG⟩⟩ rfl rfl hl.1 rfl (lv_room (Nat.le_of_ble_eq_true rfl)) dJ0_init_81219_3 ⟨Nat.le_of_ble_eq_true rfl, Nat.le_of_ble_eq_true rfl⟩) hS (fun q _ h => hFc q h) hFc (fun u t H1 locs ht hvm hw hB hz1 hk1 hS => ?_)
  obtain ⟨q1, cq2, f3, f3_t, hP1, hK1, hD1⟩ := hB
  rw [ht] at hP1
  have hK1 := va_K.moved hvm.symm hK1
  obtain ⟨hP, hD⟩ := va_join (wr := []) (w1 := [(h0, .inr (1, [.ref h1, .int 0, .int 0, .int 4])), (h1, .inl (k0, 16, .inl f0)), (h2, .inr (0, [.ref q1, .int 0, .int 0, .int 0])), (q1, .inl (cq2, 4, .inl f3))]) hP hD [0, 1, 2] [] rfl rfl (by decide) (by decide) hk1 hFc hP1 hD1
  have hK := hK.app (hK1.sub (tys' := [(cq2, .byte)]) [1] rfl)
  generalize H1 = H at hP hS ⊢
  have hK : va_K (dC, dI) vwCl [(k0, .byte), (cq2, .byte)] s := hK
  have hP : va_P (dC, dI) vwCl [(h0, .inr (1, [.ref h1, .int 0, .int 0, .int 4])), (h1, .inl (k0, 16, .inl f0)), (h2, .inr (0, [.ref q1, .int 0, .int 0, .int 0])), (q1, .inl (cq2, 4, .inl f3))] H := hP
  have hD : va_D A [(h0, .inr (1, [.ref h1, .int 0, .int 0, .int 4])), (h1, .inl (k0, 16, .inl f0)), (h2, .inr (0, [.ref q1, .int 0, .int 0, .int 0])), (q1, .inl (cq2, 4, .inl f3))] := hD
  refine W.widen (k := 1) (n := 4) (by omega) (by omega) ?_
  exact W.vret hx hb hr (fun t ht hW => ⟨⟨(), rfl, trivial, q1, cq2, f3, f3_t, by rw [ht]; exact hP, va_K.moved hW.alike hK, hD⟩, hS.F ht⟩) hS.2.2 dJ0_init_81219_6
set_option maxHeartbeats 4000000 in
set_option maxRecDepth 100000 in
theorem kx_J4_toString_0e30d_4 (l : Launch) (dC : Nat → ClassId) (dI : Nat → Nat → Nat) (ge5 gea gv5 gva gde gic gi0 : Nat) (h0 : Nat) (h1 : Nat) (k0 : ClassId) (sz : Nat) (f0 : Nat → Int32) (f0_t : sb_Fit f0) : Met l yJ4_toString_0e30d wsJ4_toString_0e30d ({ frames := 5, cells := 2, slots := 8, locals := 151 }) (va_Pc [.ref h0] (fun U => U.heap.size = sz ∧ va_P (dC, dI) vwCl [(h0, .inr (1, [.ref h1, .int 0, .int 0, .int 4])), (h1, .inl (k0, 16, .inl f0))] U.heap ∧ va_K (dC, dI) vwCl [(k0, .byte)] U ∧ va_D (fun _ => True) [(h0, .inr (1, [.ref h1, .int 0, .int 0, .int 4])), (h1, .inl (k0, 16, .inl f0))] ∧ gv ge5 gea gv5 gva gde gic gi0 (va_A [(h0, .inr (1, [.ref h1, .int 0, .int 0, .int 4])), (h1, .inl (k0, 16, .inl f0))] sz) U U.heap)) (va_Qr (fun _ : Unit => True) (fun (_ : Unit) (ra : Nat) (t : State) => ∃ q1 : Nat, ∃ q2 : Nat, ∃ cq3 : ClassId, ∃ f4 : Nat → Int32, sb_Fit f4 ∧ ra = q1 ∧ va_P (dC, dI) vwCl [(h0, .inr (1, [.ref h1, .int 0, .int 0, .int 4])), (h1, .inl (k0, 16, .inl f0)), (q1, .inr (0, [.ref q2, .int 0, .int 0, .int 0])), (q2, .inl (cq3, 4, .inl f4))] t.heap ∧ va_K (dC, dI) vwCl [(k0, .byte), (cq3, .byte)] t ∧ va_D (va_A [(h0, .inr (1, [.ref h1, .int 0, .int 0, .int 4])), (h1, .inl (k0, 16, .inl f0))] sz) [(h0, .inr (1, [.ref h1, .int 0, .int 0, .int 4])), (h1, .inl (k0, 16, .inl f0)), (q1, .inr (0, [.ref q2, .int 0, .int 0, .int 0])), (q2, .inl (cq3, 4, .inl f4))]) (va_A [(h0, .inr (1, [.ref h1, .int 0, .int 0, .int 4])), (h1, .inl (k0, 16, .inl f0))] sz)) 2 8 (va_A [(h0, .inr (1, [.ref h1, .int 0, .int 0, .int 4])), (h1, .inl (k0, 16, .inl f0))] sz) := by
  refine Met.ofW (cc := cJ4_toString_0e30d) (maxL := 1) (ret := (some (.object "java/lang/String"))) (by decide) rfl ?_
  intro p e s m args below meth c s₁ B hml hv
  obtain ⟨rfl, hsz, hP, hK, hD0, hG⟩ := hv
  have hx := B.exec
  have hb := B.bytes
  have hr := B.returns
  have hts := atoms_spec (ws := wsJ4_toString_0e30d) B.pre
  have hown : s.vm.findClass RJ4 = some m.cls := findClass_of_methodNamed B.named
  have hlocks := B.notSynchronized
  subst hsz
  have hD := hD0.self (sz := s.heap.size)
  generalize hAe : va_A [(h0, .inr (1, [.ref h1, .int 0, .int 0, .int 4])), (h1, .inl (k0, 16, .inl f0))] s.heap.size = A at hD hG ⊢
  obtain ⟨⟨g_AO_Text, g_AO_String, g_AO_Object, g_nm_RX1_20, g_nm_RX0_17, g_nm_RX3_31, g_nm_RX2_44, g_nm_RL_121, g_nf_RL_13, g_nf_RL_47, g_ca_IO, g_ca_IA, g_ca_IS, g_ca_IntObj, g_ca_StrObj, g_de_RT, g_de_EX, g_de_TH, g_nc_IA_IO, g_nc_IS_IO, g_nc_IS_IA⟩, ⟨g_s3, g_s5, g_sa, g_x278, g_x280, g_x282, g_x284, g_x286, g_x180, g_x238, g_x250⟩, ⟨g_o5, g_c5, g_v5, g_t5, g_oa, g_ca, g_va, g_ta, g_zc, g_zd, g_td, g_zf, g_zU, g_zN, g_zh, g_zk, g_tk, g_oi, g_vi⟩⟩ := id hG
  have hA : ∀ q : Nat, s.heap.size ≤ q → A q := fun q h => by rw [← hAe]; exact Or.inr h
  have hS : va_S A s.heap s.heap [] := va_S.rf
  have hP : va_P (dC, dI) vwCl [(h0, .inr (1, [.ref h1, .int 0, .int 0, .int 4])), (h1, .inl (k0, 16, .inl f0))] s.heap := hP
  have hl := lv_entry ([.ref h0]) (n := 1) (Nat.le_of_ble_eq_true rfl)
  rw [lg_entry_eq]
  generalize (lg_sl ([.ref h0]) ++ List.replicate (1 - (lg_sl ([.ref h0])).length) Slot.unset).toArray = ls at hl ⊢
  have hl : lv_has ls 1 [(0, .ref h0)] := hl
  refine va_new (ci := 0) (fs := [.null, .int 0, .int 0, .int 0]) (C := RJ0) (T := TJ0) (N := 4) hx hb hts (by decide +kernel) tyJ0 tyJ0_ok hown (hts (.classLink RJ4 18 RJ0) (by decide +kernel)) (hts (.instantiable RJ0 4) (by decide +kernel)) (hts (.initialized RJ0) (by decide +kernel)) hK hP hD hS hA rfl (fun j hj => by rcases (show j = 0 ∨ j = 1 ∨ j = 2 ∨ j = 3 by omega) with rfl | rfl | rfl | rfl <;> rfl) (Nat.le_of_ble_eq_true rfl) (Nat.le_of_ble_eq_true rfl) dJ4_toString_0e30d_0 (fun q1 H hP hD hS => ?_)
  have hP : va_P (dC, dI) vwCl [(h0, .inr (1, [.ref h1, .int 0, .int 0, .int 4])), (h1, .inl (k0, 16, .inl f0)), (q1, .inr (0, [.null, .int 0, .int 0, .int 0]))] H := hP
  have hD : va_D A [(h0, .inr (1, [.ref h1, .int 0, .int 0, .int 4])), (h1, .inl (k0, 16, .inl f0)), (q1, .inr (0, [.null, .int 0, .int 0, .int 0]))] := hD
  refine W.widen (k := 1) (n := 4) (by omega) (by omega) ?_
  refine lv_dup hx hb dJ4_toString_0e30d_3 rfl ?_
  refine lv_aload_n hx hb dJ4_toString_0e30d_4 rfl (lv_at hl 0 rfl) ?_
  have hPc := hP.sub (ws' := [(h0, .inr (1, [.ref h1, .int 0, .int 0, .int 4])), (h1, .inl (k0, 16, .inl f0)), (q1, .inr (0, [.null, .int 0, .int 0, .int 0]))]) [0, 1, 2] rfl
  have hDc := hD.sub (ws' := [(h0, .inr (1, [.ref h1, .int 0, .int 0, .int 4])), (h1, .inl (k0, 16, .inl f0)), (q1, .inr (0, [.null, .int 0, .int 0, .int 0]))]) [0, 1, 2] (by decide) rfl
  have hKc := hK.sub (tys' := [(k0, .byte)]) [0] rfl
  have hFc := va_free (wc := [(h0, .inr (1, [.ref h1, .int 0, .int 0, .int 4])), (h1, .inl (k0, 16, .inl f0)), (q1, .inr (0, [.null, .int 0, .int 0, .int 0]))]) hD hS hA [0, 1, 2] rfl
  refine va_callv (va_runI (As := [.ref h0]) (rest := [.ref q1]) ⟨hx, hb, hml, hown, hts⟩ (kx_J0_init_81219_4 l dC dI ge5 gea gv5 gva gde gic gi0 h0 h1 q1 k0 H.size f0 f0_t) (cwI 1 hts gJ4_toString_0e30d_J0_init_81219 rfl rfl rfl (hts (.initialized RJ0) (by decide +kernel)) (hts (.methodLink RJ4 137 yJ0_init_81219) (by decide +kernel)) (hts (.instanceMethod yJ0_init_81219) (by decide +kernel)) rfl (by decide +kernel) ⟨Nat.le_of_ble_eq_true rfl, Nat.le_of_ble_eq_true rfl⟩) ⟨fun a U g mk q => by obtain ⟨q0, q1, qP, qK, qD, qG⟩ := q; exact ⟨q0, q1, qP, va_K.moved (u := U) (U := U.calling g mk a) (Vm.Alike.refl U.vm) qK, qD, gv.fb qG⟩, fun U hU hW => ⟨rfl, by rw [hU], by rw [hU]; exact hPc, va_K.moved hW.alike hKc, hDc.weaken (fun _ _ _ _ => trivial), gv.pass hW hU hS hFc hG⟩⟩ rfl rfl hl.1 rfl (lv_room (Nat.le_of_ble_eq_true rfl)) dJ4_toString_0e30d_5 ⟨Nat.le_of_ble_eq_true rfl, Nat.le_of_ble_eq_true rfl⟩) hS (fun q _ h => hFc q h) hFc (fun u t H1 locs ht hvm hw hB hz1 hk1 hS => ?_)
  obtain ⟨q2, cq3, f4, f4_t, hP1, hK1, hD1⟩ := hB
  rw [ht] at hP1
  have hK1 := va_K.moved hvm.symm hK1
  obtain ⟨hP, hD⟩ := va_join (wr := []) (w1 := [(h0, .inr (1, [.ref h1, .int 0, .int 0, .int 4])), (h1, .inl (k0, 16, .inl f0)), (q1, .inr (0, [.ref q2, .int 0, .int 0, .int 0])), (q2, .inl (cq3, 4, .inl f4))]) hP hD [0, 1, 2] [] rfl rfl (by decide) (by decide) hk1 hFc hP1 hD1
  have hK := hK.app (hK1.sub (tys' := [(cq3, .byte)]) [1] rfl)
  generalize H1 = H at hP hS ⊢
  have hK : va_K (dC, dI) vwCl [(k0, .byte), (cq3, .byte)] s := hK
  have hP : va_P (dC, dI) vwCl [(h0, .inr (1, [.ref h1, .int 0, .int 0, .int 4])), (h1, .inl (k0, 16, .inl f0)), (q1, .inr (0, [.ref q2, .int 0, .int 0, .int 0])), (q2, .inl (cq3, 4, .inl f4))] H := hP
  have hD : va_D A [(h0, .inr (1, [.ref h1, .int 0, .int 0, .int 4])), (h1, .inl (k0, 16, .inl f0)), (q1, .inr (0, [.ref q2, .int 0, .int 0, .int 0])), (q2, .inl (cq3, 4, .inl f4))] := hD
  refine W.widen (k := 2) (n := 8) (by omega) (by omega) ?_
  exact W.aret (v := .ref q1) hx hb hr (Or.inl ⟨_, rfl⟩) (Or.inr ⟨_, rfl⟩) (fun t ht hW => ⟨⟨(), q1, rfl, trivial, q1, q2, cq3, f4, f4_t, rfl, by rw [ht]; exact hP, va_K.moved hW.alike hK, hD⟩, hS.F ht⟩) hS.2.2 dJ4_toString_0e30d_8
