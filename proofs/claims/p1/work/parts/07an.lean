set_option maxHeartbeats 4000000 in
set_option maxRecDepth 100000 in
theorem kx_L_clear_2 (l : Launch) (hst : l.stackTraces = false) (dC : Nat → ClassId) (dI : Nat → Nat → Nat) (ge5 gea gv5 gva gde gic gi0 : Nat) (h0 : Nat) (z0 : Nat) (z1 : Nat) (z2 : Nat) (z3 : Nat) (z4 : Nat) (z5 : Nat) (z6 : Nat) (sz : Nat) (i0 : Int32) (i0_l : (4 : Int) ≤ i0.toInt) (i0_u : i0.toInt ≤ (2147483647 : Int)) : Met l yL_clear wsL_clear ({ frames := 8, cells := 1, slots := 6, locals := 162 }) (va_Pc [.ref h0, .int i0, .ref z0] (fun U => U.heap.size = sz ∧ va_P (dC, dI) vwCl [(h0, .inr (7, [.ref z1, .ref z2, .ref z3, .ref z4, .ref z5, .ref z6, .int 0, .int 0, .int 0]))] U.heap ∧ va_K (dC, dI) vwCl [] U ∧ va_D (fun _ => True) [(h0, .inr (7, [.ref z1, .ref z2, .ref z3, .ref z4, .ref z5, .ref z6, .int 0, .int 0, .int 0]))] ∧ gv ge5 gea gv5 gva gde gic gi0 (va_A [(h0, .inr (7, [.ref z1, .ref z2, .ref z3, .ref z4, .ref z5, .ref z6, .int 0, .int 0, .int 0]))] sz) U U.heap)) (va_Qi (fun (r : Int32) (_ : Unit) => r = 1) (fun (_ : Unit) (t : State) => va_P (dC, dI) vwCl [(h0, .inr (7, [.ref z1, .ref z2, .ref z3, .ref z4, .ref z5, .ref z6, .int 0, .int 0, .int 0]))] t.heap ∧ va_K (dC, dI) vwCl [] t ∧ va_D (va_A [(h0, .inr (7, [.ref z1, .ref z2, .ref z3, .ref z4, .ref z5, .ref z6, .int 0, .int 0, .int 0]))] sz) [(h0, .inr (7, [.ref z1, .ref z2, .ref z3, .ref z4, .ref z5, .ref z6, .int 0, .int 0, .int 0]))]) (va_A [(h0, .inr (7, [.ref z1, .ref z2, .ref z3, .ref z4, .ref z5, .ref z6, .int 0, .int 0, .int 0]))] sz)) 1 6 (va_A [(h0, .inr (7, [.ref z1, .ref z2, .ref z3, .ref z4, .ref z5, .ref z6, .int 0, .int 0, .int 0]))] sz) := by
  refine kz_ofWH (cc := cL_clear) (maxL := 4) (ret := (some .int)) (hh := [(0, 10, 13, 19)]) (by decide) rfl ?_
  intro p e s m args below meth c s₁ B hml hv
  obtain ⟨rfl, hsz, hP, hK, hD0, hG⟩ := hv
  have hx := B.exec
  have hb := B.bytes
  have hr := B.returns
  have hts := atoms_spec (ws := wsL_clear) B.pre
  have hown : s.vm.findClass RL = some m.cls := findClass_of_methodNamed B.named
  have htab := vx_table (x := yL_clear) B (hts (.codeWith yL_clear cL_clear 4 (some .int) [(0, 10, 13, 19)]) (by decide +kernel))
  have hlocks := B.notSynchronized
  subst hsz
  have hD := hD0.self (sz := s.heap.size)
  generalize hAe : va_A [(h0, .inr (7, [.ref z1, .ref z2, .ref z3, .ref z4, .ref z5, .ref z6, .int 0, .int 0, .int 0]))] s.heap.size = A at hD hG ⊢
  obtain ⟨⟨g_AO_Text, g_AO_String, g_AO_Object, g_nm_RX1_20, g_nm_RX0_17, g_nm_RX3_31, g_nm_RX2_44, g_nm_RL_121, g_nf_RL_13, g_nf_RL_47, g_ca_IO, g_ca_IA, g_ca_IS, g_ca_IntObj, g_ca_StrObj, g_de_RT, g_de_EX, g_de_TH, g_nc_IA_IO, g_nc_IS_IO, g_nc_IS_IA⟩, ⟨g_s3, g_s5, g_sa, g_x278, g_x280, g_x282, g_x284, g_x286, g_x180, g_x238, g_x250⟩, ⟨g_o5, g_c5, g_v5, g_t5, g_oa, g_ca, g_va, g_ta, g_zc, g_zd, g_td, g_zf, g_zU, g_zN, g_zh, g_zk, g_tk, g_oi, g_vi⟩⟩ := id hG
  have hA : ∀ q : Nat, s.heap.size ≤ q → A q := fun q h => by rw [← hAe]; exact Or.inr h
  have hS : va_S A s.heap s.heap [] := va_S.rf
  have hP : va_P (dC, dI) vwCl [(h0, .inr (7, [.ref z1, .ref z2, .ref z3, .ref z4, .ref z5, .ref z6, .int 0, .int 0, .int 0]))] s.heap := hP
  have hl := lv_entry ([.ref h0, .int i0, .ref z0]) (n := 4) (Nat.le_of_ble_eq_true rfl)
  rw [lg_entry_eq]
  generalize (lg_sl ([.ref h0, .int i0, .ref z0]) ++ List.replicate (4 - (lg_sl ([.ref h0, .int i0, .ref z0])).length) Slot.unset).toArray = ls at hl ⊢
  have hl : lv_has ls 4 [(0, .ref h0), (1, .int i0), (2, .ref z0)] := hl
  refine lv_aload_n hx hb dL_clear_0 rfl (lv_at hl 2 rfl) ?_
  refine lv_aload_n hx hb dL_clear_1 rfl (lv_at hl 0 rfl) ?_
  refine lv_iload_n hx hb dL_clear_2 rfl (lv_at hl 1 rfl) ?_
  have hPc := hP.sub (ws' := [(h0, .inr (7, [.ref z1, .ref z2, .ref z3, .ref z4, .ref z5, .ref z6, .int 0, .int 0, .int 0]))]) [0] rfl
  have hDc := hD.sub (ws' := [(h0, .inr (7, [.ref z1, .ref z2, .ref z3, .ref z4, .ref z5, .ref z6, .int 0, .int 0, .int 0]))]) [0] (by decide) rfl
  have hKc := hK.sub (tys' := []) [] rfl
  have hFc := va_free (wc := [(h0, .inr (7, [.ref z1, .ref z2, .ref z3, .ref z4, .ref z5, .ref z6, .int 0, .int 0, .int 0]))]) hD hS hA [0] rfl
  refine vx_calli (vx_runV (As := [.int i0]) (rest := [.ref z0]) ⟨hx, hb, hml, hown, hts⟩ (kx_X3_clear_5 l hst dC dI ge5 gea gv5 gva gde gic gi0 h0 z1 z2 z3 z4 z5 z6 s.heap.size i0 i0_l i0_u) (cwV 1 hts gL_clear_X3_clear rfl rfl rfl (by decide +kernel) ⟨Nat.le_of_ble_eq_true rfl, Nat.le_of_ble_eq_true rfl⟩) ⟨fun a U g mk q => by obtain ⟨q0, q1, qP, qK, qD, qG⟩ := q; exact ⟨q0, q1, qP, va_K.moved (u := U) (U := U.calling g mk a) (Vm.Alike.refl U.vm) qK, qD, gv.fb qG⟩, va_recv hKc hPc (ci := 7) (q0 := 0) rfl rfl, fun U hU hW => ⟨rfl, by rw [hU], by rw [hU]; exact hPc, va_K.moved hW.alike hKc, hDc.weaken (fun _ _ _ _ => trivial), gv.pass hW hU hS hFc hG⟩⟩ rfl rfl hl.1 rfl (lv_room (Nat.le_of_ble_eq_true rfl)) dL_clear_3 ⟨Nat.le_of_ble_eq_true rfl, Nat.le_of_ble_eq_true rfl⟩) hS (fun q _ h => hFc q h) hFc (fun q _ h => hFc q h) (fun E ce q9 u t H1 locs ht hvm hpx hB hz1 hk1 hS hce hcv hcl => ?_) (fun r9 u t H1 locs ht hvm hw hB hz1 hk1 hS => hw.elim)
  obtain ⟨rfl, hP1, hK1, hD1⟩ := hB
  rw [ht] at hP1
  have hK1 := va_K.moved hvm.symm hK1
  obtain ⟨hP, hD⟩ := va_join (wr := []) (w1 := [(h0, .inr (7, [.ref z1, .ref z2, .ref z3, .ref z4, .ref z5, .ref z6, .int 0, .int 0, .int 0]))]) hP hD [0] [] rfl rfl (by decide) (by decide) hk1 hFc hP1 hD1
  generalize H1 = H at hP hS hce ⊢
  have hP : va_P (dC, dI) vwCl [(h0, .inr (7, [.ref z1, .ref z2, .ref z3, .ref z4, .ref z5, .ref z6, .int 0, .int 0, .int 0]))] H := hP
  have hD : va_D A [(h0, .inr (7, [.ref z1, .ref z2, .ref z3, .ref z4, .ref z5, .ref z6, .int 0, .int 0, .int 0]))] := hD
  refine vx_catch (own := RL) (name := "java/lang/IndexOutOfBoundsException") hown (tableOf []) ⟨0, 10, 13, 19⟩ (tableOf []) (by rw [htab]; rfl) (fun z hz => nomatch hz) (by decide +kernel) (by decide) (hts (.classLink RL 19 "java/lang/IndexOutOfBoundsException") (by decide +kernel)) (va_Nw.use rfl g_ca_IO) hce hcv hcl ?_
  refine W.eq (g2 := F0 m 13 ls [.ref q9]) rfl ?_
  refine lv_astore_n (lv' := [(3, .ref q9), (0, .ref h0), (1, .int i0), (2, .ref z0)]) hx hb dL_clear_13 rfl hl (by decide) rfl (fun ls hl => ?_)
  refine lv_iconst (v := 1) hx hb dL_clear_14 (by decide) ?_
  exact W.iret (v := 1) hx hb hr (fun t ht hW => ⟨⟨1, (), rfl, rfl, by rw [ht]; exact hP, va_K.moved hW.alike hK, hD⟩, hS.F ht⟩) hS.2.2 dL_clear_15
set_option maxHeartbeats 4000000 in
set_option maxRecDepth 100000 in
theorem kx_X5_clear_2 (l : Launch) (dC : Nat → ClassId) (dI : Nat → Nat → Nat) (h0 : Nat) (z0 : Nat) (z1 : Nat) (z2 : Nat) (sz : Nat) (i0 : Int32) (i0_l : (4 : Int) ≤ i0.toInt) (i0_u : i0.toInt ≤ (2147483647 : Int)) : Met l yX5_clear wsX5_clear ({ frames := 2, cells := 0, slots := 0, locals := 42 }) (va_Pc [.ref h0, .int i0] (fun U => U.heap.size = sz ∧ va_P (dC, dI) vwCl [(h0, .inr (9, [.int 0, .ref z0, .ref z1, .ref z2, .int 0, .int 0, .int 0]))] U.heap ∧ va_K (dC, dI) vwCl [] U ∧ va_D (fun _ => True) [(h0, .inr (9, [.int 0, .ref z0, .ref z1, .ref z2, .int 0, .int 0, .int 0]))])) (va_Qi (fun (r : Int32) (_ : Unit) => r = 0) (fun (_ : Unit) (t : State) => va_P (dC, dI) vwCl [(h0, .inr (9, [.int 1, .ref z0, .ref z1, .ref z2, .int 0, .int 0, .int 0]))] t.heap ∧ va_K (dC, dI) vwCl [] t ∧ va_D (va_A [(h0, .inr (9, [.int 0, .ref z0, .ref z1, .ref z2, .int 0, .int 0, .int 0]))] sz) [(h0, .inr (9, [.int 1, .ref z0, .ref z1, .ref z2, .int 0, .int 0, .int 0]))]) (va_A [(h0, .inr (9, [.int 0, .ref z0, .ref z1, .ref z2, .int 0, .int 0, .int 0]))] sz)) 0 0 (va_A [(h0, .inr (9, [.int 0, .ref z0, .ref z1, .ref z2, .int 0, .int 0, .int 0]))] sz) := by
  refine Met.ofW (cc := cX5_clear) (maxL := 3) (ret := (some .int)) (by decide) rfl ?_
  intro p e s m args below meth c s₁ B hml hv
  obtain ⟨rfl, hsz, hP, hK, hD0⟩ := hv
  have hx := B.exec
  have hb := B.bytes
  have hr := B.returns
  have hts := atoms_spec (ws := wsX5_clear) B.pre
  have hown : s.vm.findClass RX5 = some m.cls := findClass_of_methodNamed B.named
  have hlocks := B.notSynchronized
  subst hsz
  have hD := hD0.self (sz := s.heap.size)
  generalize hAe : va_A [(h0, .inr (9, [.int 0, .ref z0, .ref z1, .ref z2, .int 0, .int 0, .int 0]))] s.heap.size = A at hD ⊢
  have hA : ∀ q : Nat, s.heap.size ≤ q → A q := fun q h => by rw [← hAe]; exact Or.inr h
  have hS : va_S A s.heap s.heap [] := va_S.rf
  have hP : va_P (dC, dI) vwCl [(h0, .inr (9, [.int 0, .ref z0, .ref z1, .ref z2, .int 0, .int 0, .int 0]))] s.heap := hP
  have hl := lv_entry ([.ref h0, .int i0]) (n := 3) (Nat.le_of_ble_eq_true rfl)
  rw [lg_entry_eq]
  generalize (lg_sl ([.ref h0, .int i0]) ++ List.replicate (3 - (lg_sl ([.ref h0, .int i0])).length) Slot.unset).toArray = ls at hl ⊢
  have hl : lv_has ls 3 [(0, .ref h0), (1, .int i0)] := hl
  refine lv_aload_n hx hb dX5_clear_0 rfl (lv_at hl 0 rfl) ?_
  refine lv_iload_n hx hb dX5_clear_1 rfl (lv_at hl 1 rfl) ?_
  have hPc := hP.sub (ws' := []) [] rfl
  have hDc := hD.sub (ws' := []) [] (by decide) rfl
  have hKc := hK.sub (tys' := []) [] rfl
  have hFc := va_free (wc := []) hD hS hA [] rfl
  refine va_calli (va_runS (As := [.int i0]) (rest := [.ref h0]) ⟨hx, hb, hml, hown, hts⟩ (kx_X5_isNo_2 l dC dI s.heap.size i0 i0_l i0_u) (cwS 1 hts gX5_clear_X5_isNo rfl rfl rfl (by decide +kernel) ⟨Nat.le_of_ble_eq_true rfl, Nat.le_of_ble_eq_true rfl⟩) ⟨fun a U g mk q => by obtain ⟨q0, q1, qP, qK, qD⟩ := q; exact ⟨q0, q1, qP, va_K.moved (u := U) (U := U.calling g mk a) (Vm.Alike.refl U.vm) qK, qD⟩, fun U hU hW => ⟨rfl, by rw [hU], by rw [hU]; exact hPc, va_K.moved hW.alike hKc, hDc.weaken (fun _ _ _ _ => trivial)⟩⟩ rfl rfl hl.1 rfl (lv_room (Nat.le_of_ble_eq_true rfl)) dX5_clear_2 ⟨Nat.le_of_ble_eq_true rfl, Nat.le_of_ble_eq_true rfl⟩) hS (fun q _ h => hFc q h) hFc (fun r9 u t H1 locs ht hvm hw hB hz1 hk1 hS => ?_)
  obtain rfl := hw
  obtain ⟨hP1, hK1, hD1⟩ := hB
  rw [ht] at hP1
  have hK1 := va_K.moved hvm.symm hK1
  obtain ⟨hP, hD⟩ := va_join (wr := [(h0, .inr (9, [.int 0, .ref z0, .ref z1, .ref z2, .int 0, .int 0, .int 0]))]) (w1 := []) hP hD [] [0] rfl rfl (by decide) (by decide) hk1 hFc hP1 hD1
  generalize H1 = H at hP hS ⊢
  have hP : va_P (dC, dI) vwCl [(h0, .inr (9, [.int 0, .ref z0, .ref z1, .ref z2, .int 0, .int 0, .int 0]))] H := hP
  have hD : va_D A [(h0, .inr (9, [.int 0, .ref z0, .ref z1, .ref z2, .int 0, .int 0, .int 0]))] := hD
  refine lv_iconst (v := 0) hx hb dX5_clear_5 (by decide) ?_
  refine lv_iconst (v := 0) hx hb dX5_clear_6 (by decide) ?_
  have hPc := hP.sub (ws' := [(h0, .inr (9, [.int 0, .ref z0, .ref z1, .ref z2, .int 0, .int 0, .int 0]))]) [0] rfl
  have hDc := hD.sub (ws' := [(h0, .inr (9, [.int 0, .ref z0, .ref z1, .ref z2, .int 0, .int 0, .int 0]))]) [0] (by decide) rfl
  have hKc := hK.sub (tys' := []) [] rfl
  have hFc := va_free (wc := [(h0, .inr (9, [.int 0, .ref z0, .ref z1, .ref z2, .int 0, .int 0, .int 0]))]) hD hS hA [0] rfl
  refine va_calli (va_runV (As := [.int 1, .int 0, .int 0]) (rest := []) ⟨hx, hb, hml, hown, hts⟩ (kx_X5_fails_0 l dC dI h0 z0 z1 z2 H.size) (cwV 3 hts gX5_clear_X5_fails rfl rfl rfl (by decide +kernel) ⟨Nat.le_of_ble_eq_true rfl, Nat.le_of_ble_eq_true rfl⟩) ⟨fun a U g mk q => by obtain ⟨q0, q1, qP, qK, qD⟩ := q; exact ⟨q0, q1, qP, va_K.moved (u := U) (U := U.calling g mk a) (Vm.Alike.refl U.vm) qK, qD⟩, va_recv hKc hPc (ci := 9) (q0 := 0) rfl rfl, fun U hU hW => ⟨rfl, by rw [hU], by rw [hU]; exact hPc, va_K.moved hW.alike hKc, hDc.weaken (fun _ _ _ _ => trivial)⟩⟩ rfl rfl hl.1 rfl (lv_room (Nat.le_of_ble_eq_true rfl)) dX5_clear_7 ⟨Nat.le_of_ble_eq_true rfl, Nat.le_of_ble_eq_true rfl⟩) hS (fun q _ h => hFc q h) hFc (fun r9 u t H1 locs ht hvm hw hB hz1 hk1 hS => ?_)
  obtain rfl := hw
  obtain ⟨hP1, hK1, hD1⟩ := hB
  rw [ht] at hP1
  have hK1 := va_K.moved hvm.symm hK1
  obtain ⟨hP, hD⟩ := va_join (wr := []) (w1 := [(h0, .inr (9, [.int 1, .ref z0, .ref z1, .ref z2, .int 0, .int 0, .int 0]))]) hP hD [0] [] rfl rfl (by decide) (by decide) hk1 hFc hP1 hD1
  generalize H1 = H at hP hS ⊢
  have hP : va_P (dC, dI) vwCl [(h0, .inr (9, [.int 1, .ref z0, .ref z1, .ref z2, .int 0, .int 0, .int 0]))] H := hP
  have hD : va_D A [(h0, .inr (9, [.int 1, .ref z0, .ref z1, .ref z2, .int 0, .int 0, .int 0]))] := hD
  refine lv_if_eq (tgt := 15) hx hb dX5_clear_10 (by decide) (fun c9 => absurd c9 (by decide)) (fun _ => ?_)
  refine lv_iconst (v := 0) hx hb dX5_clear_13 (by decide) ?_
  exact W.iret (v := 0) hx hb hr (fun t ht hW => ⟨⟨0, (), rfl, rfl, by rw [ht]; exact hP, va_K.moved hW.alike hK, hD⟩, hS.F ht⟩) hS.2.2 dX5_clear_14
set_option maxHeartbeats 4000000 in
set_option maxRecDepth 100000 in
theorem kx_X2_become_0 (l : Launch) (dC : Nat → ClassId) (dI : Nat → Nat → Nat) (h0 : Nat) (h1 : Nat) (k0 : ClassId) (sz : Nat) : Met l yX2_become wsX2_become ({ frames := 1, cells := 0, slots := 0, locals := 60 }) (va_Pc [.ref h0, .ref h0] (fun U => U.heap.size = sz ∧ va_P (dC, dI) vwCl [(h0, .inr (6, [.ref h1, .int 0])), (h1, .inl (k0, 64, .inl (fun _ => 0)))] U.heap ∧ va_K (dC, dI) vwCl [(k0, .byte)] U ∧ va_D (fun _ => True) [(h0, .inr (6, [.ref h1, .int 0])), (h1, .inl (k0, 64, .inl (fun _ => 0)))])) (va_Qv (fun _ : Unit => True) (fun (_ : Unit) (t : State) => va_P (dC, dI) vwCl [(h0, .inr (6, [.ref h1, .int 0])), (h1, .inl (k0, 64, .inl (fun _ => 0)))] t.heap ∧ va_K (dC, dI) vwCl [(k0, .byte)] t ∧ va_D (va_A [(h0, .inr (6, [.ref h1, .int 0])), (h1, .inl (k0, 64, .inl (fun _ => 0)))] sz) [(h0, .inr (6, [.ref h1, .int 0])), (h1, .inl (k0, 64, .inl (fun _ => 0)))]) (va_A [(h0, .inr (6, [.ref h1, .int 0])), (h1, .inl (k0, 64, .inl (fun _ => 0)))] sz)) 0 0 (va_A [(h0, .inr (6, [.ref h1, .int 0])), (h1, .inl (k0, 64, .inl (fun _ => 0)))] sz) := by
  refine Met.ofW (cc := cX2_become) (maxL := 2) (ret := none) (by decide) rfl ?_
  intro p e s m args below meth c s₁ B hml hv
  obtain ⟨rfl, hsz, hP, hK, hD0⟩ := hv
  have hx := B.exec
  have hb := B.bytes
  have hr := B.returns
  have hts := atoms_spec (ws := wsX2_become) B.pre
  have hown : s.vm.findClass RX2 = some m.cls := findClass_of_methodNamed B.named
  have hlocks := B.notSynchronized
  subst hsz
  have hD := hD0.self (sz := s.heap.size)
  generalize hAe : va_A [(h0, .inr (6, [.ref h1, .int 0])), (h1, .inl (k0, 64, .inl (fun _ => 0)))] s.heap.size = A at hD ⊢
  have hA : ∀ q : Nat, s.heap.size ≤ q → A q := fun q h => by rw [← hAe]; exact Or.inr h
  have hS : va_S A s.heap s.heap [] := va_S.rf
  have hP : va_P (dC, dI) vwCl [(h0, .inr (6, [.ref h1, .int 0])), (h1, .inl (k0, 64, .inl (fun _ => 0)))] s.heap := hP
  have hl := lv_entry ([.ref h0, .ref h0]) (n := 2) (Nat.le_of_ble_eq_true rfl)
  rw [lg_entry_eq]
  generalize (lg_sl ([.ref h0, .ref h0]) ++ List.replicate (2 - (lg_sl ([.ref h0, .ref h0])).length) Slot.unset).toArray = ls at hl ⊢
  have hl : lv_has ls 2 [(0, .ref h0), (1, .ref h0)] := hl
  refine lv_aload_n hx hb dX2_become_0 rfl (lv_at hl 1 rfl) ?_
  refine va_get (D := (dC, dI)) (ci := 6) (v := .ref h1) (C := RX2) (T := TX2) (N := 2) hx hb hts (by decide +kernel) hown hK hP 0 rfl rfl 0 (by decide) (hts (.fieldLink RX2 11 "Rewriterope$Text" "letters" "[B") (by decide +kernel)) (fun _ h9 => h9) rfl dX2_become_1 ?_
  refine lv_iconst (v := 0) hx hb dX2_become_4 (by decide) ?_
  refine lv_aload_n hx hb dX2_become_5 rfl (lv_at hl 0 rfl) ?_
  refine va_get (D := (dC, dI)) (ci := 6) (v := .ref h1) (C := RX2) (T := TX2) (N := 2) hx hb hts (by decide +kernel) hown hK hP 0 rfl rfl 0 (by decide) (hts (.fieldLink RX2 11 "Rewriterope$Text" "letters" "[B") (by decide +kernel)) (fun _ h9 => h9) rfl dX2_become_6 ?_
  refine lv_iconst (v := 0) hx hb dX2_become_9 (by decide) ?_
  refine lv_aload_n hx hb dX2_become_10 rfl (lv_at hl 1 rfl) ?_
  refine va_get (D := (dC, dI)) (ci := 6) (v := .int 0) (C := RX2) (T := TX2) (N := 2) hx hb hts (by decide +kernel) hown hK hP 0 rfl rfl 1 (by decide) (hts (.fieldLink RX2 15 "Rewriterope$Text" "length" "I") (by decide +kernel)) (fun _ h9 => h9) rfl dX2_become_11 ?_
  refine va_copyi (D := (dC, dI)) (sp := 0) (dp := 0) (n := 0) hx hb (by rw [hml]; exact hl.1.symm) hown (hts (.methodLink RX2 19 arraycopyName) (by decide +kernel)) (hts (.native arraycopyName) (by decide +kernel)) (hts (.static arraycopyName) (by decide +kernel)) (hts (.initialized "java/lang/System") (by decide +kernel)) hK hP hD hS 1 1 0 0 rfl rfl rfl rfl rfl (by decide) (by decide) (by decide) (by decide) (by decide) (fun i hi => absurd hi (Nat.not_lt_zero i)) (Nat.le_of_ble_eq_true rfl) (Nat.le_of_ble_eq_true rfl) dX2_become_14 (fun H locs hP hD hS => ?_)
  rw [kz0] at hP hD
  have hP : va_P (dC, dI) vwCl [(h0, .inr (6, [.ref h1, .int 0])), (h1, .inl (k0, 64, .inl (fun _ => 0)))] H := hP
  have hD : va_D A [(h0, .inr (6, [.ref h1, .int 0])), (h1, .inl (k0, 64, .inl (fun _ => 0)))] := hD
  refine lv_aload_n hx hb dX2_become_17 rfl (lv_at hl 0 rfl) ?_
  refine lv_aload_n hx hb dX2_become_18 rfl (lv_at hl 1 rfl) ?_
  refine va_get (D := (dC, dI)) (ci := 6) (v := .int 0) (C := RX2) (T := TX2) (N := 2) hx hb hts (by decide +kernel) hown hK hP 0 rfl rfl 1 (by decide) (hts (.fieldLink RX2 15 "Rewriterope$Text" "length" "I") (by decide +kernel)) (fun _ h9 => h9) rfl dX2_become_19 ?_
  refine va_put (D := (dC, dI)) (ci := 6) (v := .int 0) (ty := .int) (C := RX2) (T := TX2) (N := 2) hx hb hts (by decide +kernel) tyX2 tyX2_ok nmX2 hown hK hP hD hS 0 rfl rfl 1 (by decide) (hts (.fieldLink RX2 15 "Rewriterope$Text" "length" "I") (by decide +kernel)) (fun _ h9 => h9) rfl (by decide +kernel) rfl rfl (Nat.le_of_ble_eq_true rfl) dX2_become_22 (fun H locs hP hD hS => ?_)
  have hP : va_P (dC, dI) vwCl [(h0, .inr (6, [.ref h1, .int 0])), (h1, .inl (k0, 64, .inl (fun _ => 0)))] H := hP
  have hD : va_D A [(h0, .inr (6, [.ref h1, .int 0])), (h1, .inl (k0, 64, .inl (fun _ => 0)))] := hD
  exact W.vret hx hb hr (fun t ht hW => ⟨⟨(), rfl, trivial, by rw [ht]; exact hP, va_K.moved hW.alike hK, hD⟩, hS.F ht⟩) hS.2.2 dX2_become_25
set_option maxHeartbeats 4000000 in
set_option maxRecDepth 100000 in
theorem kx_X2_become_1 (l : Launch) (dC : Nat → ClassId) (dI : Nat → Nat → Nat) (h0 : Nat) (h1 : Nat) (h2 : Nat) (h3 : Nat) (k0 : ClassId) (k1 : ClassId) (sz : Nat) : Met l yX2_become wsX2_become ({ frames := 1, cells := 0, slots := 0, locals := 60 }) (va_Pc [.ref h0, .ref h2] (fun U => U.heap.size = sz ∧ va_P (dC, dI) vwCl [(h0, .inr (6, [.ref h1, .int 0])), (h1, .inl (k0, 64, .inl (fun _ => 0))), (h2, .inr (6, [.ref h3, .int 0])), (h3, .inl (k1, 64, .inl (fun _ => 0)))] U.heap ∧ va_K (dC, dI) vwCl [(k0, .byte), (k1, .byte)] U ∧ va_D (fun _ => True) [(h0, .inr (6, [.ref h1, .int 0])), (h1, .inl (k0, 64, .inl (fun _ => 0))), (h2, .inr (6, [.ref h3, .int 0])), (h3, .inl (k1, 64, .inl (fun _ => 0)))])) (va_Qv (fun _ : Unit => True) (fun (_ : Unit) (t : State) => va_P (dC, dI) vwCl [(h0, .inr (6, [.ref h1, .int 0])), (h1, .inl (k0, 64, .inl (fun _ => 0))), (h2, .inr (6, [.ref h3, .int 0])), (h3, .inl (k1, 64, .inl (fun _ => 0)))] t.heap ∧ va_K (dC, dI) vwCl [(k0, .byte), (k1, .byte)] t ∧ va_D (va_A [(h0, .inr (6, [.ref h1, .int 0])), (h1, .inl (k0, 64, .inl (fun _ => 0))), (h2, .inr (6, [.ref h3, .int 0])), (h3, .inl (k1, 64, .inl (fun _ => 0)))] sz) [(h0, .inr (6, [.ref h1, .int 0])), (h1, .inl (k0, 64, .inl (fun _ => 0))), (h2, .inr (6, [.ref h3, .int 0])), (h3, .inl (k1, 64, .inl (fun _ => 0)))]) (va_A [(h0, .inr (6, [.ref h1, .int 0])), (h1, .inl (k0, 64, .inl (fun _ => 0))), (h2, .inr (6, [.ref h3, .int 0])), (h3, .inl (k1, 64, .inl (fun _ => 0)))] sz)) 0 0 (va_A [(h0, .inr (6, [.ref h1, .int 0])), (h1, .inl (k0, 64, .inl (fun _ => 0))), (h2, .inr (6, [.ref h3, .int 0])), (h3, .inl (k1, 64, .inl (fun _ => 0)))] sz) := by
  refine Met.ofW (cc := cX2_become) (maxL := 2) (ret := none) (by decide) rfl ?_
  intro p e s m args below meth c s₁ B hml hv
  obtain ⟨rfl, hsz, hP, hK, hD0⟩ := hv
  have hx := B.exec
  have hb := B.bytes
  have hr := B.returns
  have hts := atoms_spec (ws := wsX2_become) B.pre
  have hown : s.vm.findClass RX2 = some m.cls := findClass_of_methodNamed B.named
  have hlocks := B.notSynchronized
  subst hsz
  have hD := hD0.self (sz := s.heap.size)
  generalize hAe : va_A [(h0, .inr (6, [.ref h1, .int 0])), (h1, .inl (k0, 64, .inl (fun _ => 0))), (h2, .inr (6, [.ref h3, .int 0])), (h3, .inl (k1, 64, .inl (fun _ => 0)))] s.heap.size = A at hD ⊢
  have hA : ∀ q : Nat, s.heap.size ≤ q → A q := fun q h => by rw [← hAe]; exact Or.inr h
  have hS : va_S A s.heap s.heap [] := va_S.rf
  have hP : va_P (dC, dI) vwCl [(h0, .inr (6, [.ref h1, .int 0])), (h1, .inl (k0, 64, .inl (fun _ => 0))), (h2, .inr (6, [.ref h3, .int 0])), (h3, .inl (k1, 64, .inl (fun _ => 0)))] s.heap := hP
  have hl := lv_entry ([.ref h0, .ref h2]) (n := 2) (Nat.le_of_ble_eq_true rfl)
  rw [lg_entry_eq]
  generalize (lg_sl ([.ref h0, .ref h2]) ++ List.replicate (2 - (lg_sl ([.ref h0, .ref h2])).length) Slot.unset).toArray = ls at hl ⊢
  have hl : lv_has ls 2 [(0, .ref h0), (1, .ref h2)] := hl
  refine lv_aload_n hx hb dX2_become_0 rfl (lv_at hl 1 rfl) ?_
  refine va_get (D := (dC, dI)) (ci := 6) (v := .ref h3) (C := RX2) (T := TX2) (N := 2) hx hb hts (by decide +kernel) hown hK hP 2 rfl rfl 0 (by decide) (hts (.fieldLink RX2 11 "Rewriterope$Text" "letters" "[B") (by decide +kernel)) (fun _ h9 => h9) rfl dX2_become_1 ?_
  refine lv_iconst (v := 0) hx hb dX2_become_4 (by decide) ?_
  refine lv_aload_n hx hb dX2_become_5 rfl (lv_at hl 0 rfl) ?_
  refine va_get (D := (dC, dI)) (ci := 6) (v := .ref h1) (C := RX2) (T := TX2) (N := 2) hx hb hts (by decide +kernel) hown hK hP 0 rfl rfl 0 (by decide) (hts (.fieldLink RX2 11 "Rewriterope$Text" "letters" "[B") (by decide +kernel)) (fun _ h9 => h9) rfl dX2_become_6 ?_
  refine lv_iconst (v := 0) hx hb dX2_become_9 (by decide) ?_
  refine lv_aload_n hx hb dX2_become_10 rfl (lv_at hl 1 rfl) ?_
  refine va_get (D := (dC, dI)) (ci := 6) (v := .int 0) (C := RX2) (T := TX2) (N := 2) hx hb hts (by decide +kernel) hown hK hP 2 rfl rfl 1 (by decide) (hts (.fieldLink RX2 15 "Rewriterope$Text" "length" "I") (by decide +kernel)) (fun _ h9 => h9) rfl dX2_become_11 ?_
  refine va_copyi (D := (dC, dI)) (sp := 0) (dp := 0) (n := 0) hx hb (by rw [hml]; exact hl.1.symm) hown (hts (.methodLink RX2 19 arraycopyName) (by decide +kernel)) (hts (.native arraycopyName) (by decide +kernel)) (hts (.static arraycopyName) (by decide +kernel)) (hts (.initialized "java/lang/System") (by decide +kernel)) hK hP hD hS 3 1 1 0 rfl rfl rfl rfl rfl (by decide) (by decide) (by decide) (by decide) (by decide) (fun i hi => absurd hi (Nat.not_lt_zero i)) (Nat.le_of_ble_eq_true rfl) (Nat.le_of_ble_eq_true rfl) dX2_become_14 (fun H locs hP hD hS => ?_)
  rw [kz0] at hP hD
  have hP : va_P (dC, dI) vwCl [(h0, .inr (6, [.ref h1, .int 0])), (h1, .inl (k0, 64, .inl (fun _ => 0))), (h2, .inr (6, [.ref h3, .int 0])), (h3, .inl (k1, 64, .inl (fun _ => 0)))] H := hP
  have hD : va_D A [(h0, .inr (6, [.ref h1, .int 0])), (h1, .inl (k0, 64, .inl (fun _ => 0))), (h2, .inr (6, [.ref h3, .int 0])), (h3, .inl (k1, 64, .inl (fun _ => 0)))] := hD
  refine lv_aload_n hx hb dX2_become_17 rfl (lv_at hl 0 rfl) ?_
  refine lv_aload_n hx hb dX2_become_18 rfl (lv_at hl 1 rfl) ?_
  refine va_get (D := (dC, dI)) (ci := 6) (v := .int 0) (C := RX2) (T := TX2) (N := 2) hx hb hts (by decide +kernel) hown hK hP 2 rfl rfl 1 (by decide) (hts (.fieldLink RX2 15 "Rewriterope$Text" "length" "I") (by decide +kernel)) (fun _ h9 => h9) rfl dX2_become_19 ?_
  refine va_put (D := (dC, dI)) (ci := 6) (v := .int 0) (ty := .int) (C := RX2) (T := TX2) (N := 2) hx hb hts (by decide +kernel) tyX2 tyX2_ok nmX2 hown hK hP hD hS 0 rfl rfl 1 (by decide) (hts (.fieldLink RX2 15 "Rewriterope$Text" "length" "I") (by decide +kernel)) (fun _ h9 => h9) rfl (by decide +kernel) rfl rfl (Nat.le_of_ble_eq_true rfl) dX2_become_22 (fun H locs hP hD hS => ?_)
  have hP : va_P (dC, dI) vwCl [(h0, .inr (6, [.ref h1, .int 0])), (h1, .inl (k0, 64, .inl (fun _ => 0))), (h2, .inr (6, [.ref h3, .int 0])), (h3, .inl (k1, 64, .inl (fun _ => 0)))] H := hP
  have hD : va_D A [(h0, .inr (6, [.ref h1, .int 0])), (h1, .inl (k0, 64, .inl (fun _ => 0))), (h2, .inr (6, [.ref h3, .int 0])), (h3, .inl (k1, 64, .inl (fun _ => 0)))] := hD
  exact W.vret hx hb hr (fun t ht hW => ⟨⟨(), rfl, trivial, by rw [ht]; exact hP, va_K.moved hW.alike hK, hD⟩, hS.F ht⟩) hS.2.2 dX2_become_25
set_option maxHeartbeats 4000000 in
set_option maxRecDepth 100000 in
theorem kx_X2_become_2 (l : Launch) (dC : Nat → ClassId) (dI : Nat → Nat → Nat) (h0 : Nat) (h1 : Nat) (h2 : Nat) (h3 : Nat) (k0 : ClassId) (k1 : ClassId) (sz : Nat) : Met l yX2_become wsX2_become ({ frames := 1, cells := 0, slots := 0, locals := 60 }) (va_Pc [.ref h2, .ref h0] (fun U => U.heap.size = sz ∧ va_P (dC, dI) vwCl [(h0, .inr (6, [.ref h1, .int 0])), (h1, .inl (k0, 64, .inl (fun _ => 0))), (h2, .inr (6, [.ref h3, .int 0])), (h3, .inl (k1, 64, .inl (fun _ => 0)))] U.heap ∧ va_K (dC, dI) vwCl [(k0, .byte), (k1, .byte)] U ∧ va_D (fun _ => True) [(h0, .inr (6, [.ref h1, .int 0])), (h1, .inl (k0, 64, .inl (fun _ => 0))), (h2, .inr (6, [.ref h3, .int 0])), (h3, .inl (k1, 64, .inl (fun _ => 0)))])) (va_Qv (fun _ : Unit => True) (fun (_ : Unit) (t : State) => va_P (dC, dI) vwCl [(h0, .inr (6, [.ref h1, .int 0])), (h1, .inl (k0, 64, .inl (fun _ => 0))), (h2, .inr (6, [.ref h3, .int 0])), (h3, .inl (k1, 64, .inl (fun _ => 0)))] t.heap ∧ va_K (dC, dI) vwCl [(k0, .byte), (k1, .byte)] t ∧ va_D (va_A [(h0, .inr (6, [.ref h1, .int 0])), (h1, .inl (k0, 64, .inl (fun _ => 0))), (h2, .inr (6, [.ref h3, .int 0])), (h3, .inl (k1, 64, .inl (fun _ => 0)))] sz) [(h0, .inr (6, [.ref h1, .int 0])), (h1, .inl (k0, 64, .inl (fun _ => 0))), (h2, .inr (6, [.ref h3, .int 0])), (h3, .inl (k1, 64, .inl (fun _ => 0)))]) (va_A [(h0, .inr (6, [.ref h1, .int 0])), (h1, .inl (k0, 64, .inl (fun _ => 0))), (h2, .inr (6, [.ref h3, .int 0])), (h3, .inl (k1, 64, .inl (fun _ => 0)))] sz)) 0 0 (va_A [(h0, .inr (6, [.ref h1, .int 0])), (h1, .inl (k0, 64, .inl (fun _ => 0))), (h2, .inr (6, [.ref h3, .int 0])), (h3, .inl (k1, 64, .inl (fun _ => 0)))] sz) := by
  refine Met.ofW (cc := cX2_become) (maxL := 2) (ret := none) (by decide) rfl ?_
  intro p e s m args below meth c s₁ B hml hv
  obtain ⟨rfl, hsz, hP, hK, hD0⟩ := hv
  have hx := B.exec
  have hb := B.bytes
  have hr := B.returns
  have hts := atoms_spec (ws := wsX2_become) B.pre
  have hown : s.vm.findClass RX2 = some m.cls := findClass_of_methodNamed B.named
  have hlocks := B.notSynchronized
  subst hsz
  have hD := hD0.self (sz := s.heap.size)
  generalize hAe : va_A [(h0, .inr (6, [.ref h1, .int 0])), (h1, .inl (k0, 64, .inl (fun _ => 0))), (h2, .inr (6, [.ref h3, .int 0])), (h3, .inl (k1, 64, .inl (fun _ => 0)))] s.heap.size = A at hD ⊢
  have hA : ∀ q : Nat, s.heap.size ≤ q → A q := fun q h => by rw [← hAe]; exact Or.inr h
  have hS : va_S A s.heap s.heap [] := va_S.rf
  have hP : va_P (dC, dI) vwCl [(h0, .inr (6, [.ref h1, .int 0])), (h1, .inl (k0, 64, .inl (fun _ => 0))), (h2, .inr (6, [.ref h3, .int 0])), (h3, .inl (k1, 64, .inl (fun _ => 0)))] s.heap := hP
  have hl := lv_entry ([.ref h2, .ref h0]) (n := 2) (Nat.le_of_ble_eq_true rfl)
  rw [lg_entry_eq]
  generalize (lg_sl ([.ref h2, .ref h0]) ++ List.replicate (2 - (lg_sl ([.ref h2, .ref h0])).length) Slot.unset).toArray = ls at hl ⊢
  have hl : lv_has ls 2 [(0, .ref h2), (1, .ref h0)] := hl
  refine lv_aload_n hx hb dX2_become_0 rfl (lv_at hl 1 rfl) ?_
  refine va_get (D := (dC, dI)) (ci := 6) (v := .ref h1) (C := RX2) (T := TX2) (N := 2) hx hb hts (by decide +kernel) hown hK hP 0 rfl rfl 0 (by decide) (hts (.fieldLink RX2 11 "Rewriterope$Text" "letters" "[B") (by decide +kernel)) (fun _ h9 => h9) rfl dX2_become_1 ?_
  refine lv_iconst (v := 0) hx hb dX2_become_4 (by decide) ?_
  refine lv_aload_n hx hb dX2_become_5 rfl (lv_at hl 0 rfl) ?_
  refine va_get (D := (dC, dI)) (ci := 6) (v := .ref h3) (C := RX2) (T := TX2) (N := 2) hx hb hts (by decide +kernel) hown hK hP 2 rfl rfl 0 (by decide) (hts (.fieldLink RX2 11 "Rewriterope$Text" "letters" "[B") (by decide +kernel)) (fun _ h9 => h9) rfl dX2_become_6 ?_
  refine lv_iconst (v := 0) hx hb dX2_become_9 (by decide) ?_
  refine lv_aload_n hx hb dX2_become_10 rfl (lv_at hl 1 rfl) ?_
  refine va_get (D := (dC, dI)) (ci := 6) (v := .int 0) (C := RX2) (T := TX2) (N := 2) hx hb hts (by decide +kernel) hown hK hP 0 rfl rfl 1 (by decide) (hts (.fieldLink RX2 15 "Rewriterope$Text" "length" "I") (by decide +kernel)) (fun _ h9 => h9) rfl dX2_become_11 ?_
  refine va_copyi (D := (dC, dI)) (sp := 0) (dp := 0) (n := 0) hx hb (by rw [hml]; exact hl.1.symm) hown (hts (.methodLink RX2 19 arraycopyName) (by decide +kernel)) (hts (.native arraycopyName) (by decide +kernel)) (hts (.static arraycopyName) (by decide +kernel)) (hts (.initialized "java/lang/System") (by decide +kernel)) hK hP hD hS 1 3 0 1 rfl rfl rfl rfl rfl (by decide) (by decide) (by decide) (by decide) (by decide) (fun i hi => absurd hi (Nat.not_lt_zero i)) (Nat.le_of_ble_eq_true rfl) (Nat.le_of_ble_eq_true rfl) dX2_become_14 (fun H locs hP hD hS => ?_)
  rw [kz0] at hP hD
  have hP : va_P (dC, dI) vwCl [(h0, .inr (6, [.ref h1, .int 0])), (h1, .inl (k0, 64, .inl (fun _ => 0))), (h2, .inr (6, [.ref h3, .int 0])), (h3, .inl (k1, 64, .inl (fun _ => 0)))] H := hP
  have hD : va_D A [(h0, .inr (6, [.ref h1, .int 0])), (h1, .inl (k0, 64, .inl (fun _ => 0))), (h2, .inr (6, [.ref h3, .int 0])), (h3, .inl (k1, 64, .inl (fun _ => 0)))] := hD
  refine lv_aload_n hx hb dX2_become_17 rfl (lv_at hl 0 rfl) ?_
  refine lv_aload_n hx hb dX2_become_18 rfl (lv_at hl 1 rfl) ?_
  refine va_get (D := (dC, dI)) (ci := 6) (v := .int 0) (C := RX2) (T := TX2) (N := 2) hx hb hts (by decide +kernel) hown hK hP 0 rfl rfl 1 (by decide) (hts (.fieldLink RX2 15 "Rewriterope$Text" "length" "I") (by decide +kernel)) (fun _ h9 => h9) rfl dX2_become_19 ?_
  refine va_put (D := (dC, dI)) (ci := 6) (v := .int 0) (ty := .int) (C := RX2) (T := TX2) (N := 2) hx hb hts (by decide +kernel) tyX2 tyX2_ok nmX2 hown hK hP hD hS 2 rfl rfl 1 (by decide) (hts (.fieldLink RX2 15 "Rewriterope$Text" "length" "I") (by decide +kernel)) (fun _ h9 => h9) rfl (by decide +kernel) rfl rfl (Nat.le_of_ble_eq_true rfl) dX2_become_22 (fun H locs hP hD hS => ?_)
  have hP : va_P (dC, dI) vwCl [(h0, .inr (6, [.ref h1, .int 0])), (h1, .inl (k0, 64, .inl (fun _ => 0))), (h2, .inr (6, [.ref h3, .int 0])), (h3, .inl (k1, 64, .inl (fun _ => 0)))] H := hP
  have hD : va_D A [(h0, .inr (6, [.ref h1, .int 0])), (h1, .inl (k0, 64, .inl (fun _ => 0))), (h2, .inr (6, [.ref h3, .int 0])), (h3, .inl (k1, 64, .inl (fun _ => 0)))] := hD
  exact W.vret hx hb hr (fun t ht hW => ⟨⟨(), rfl, trivial, by rw [ht]; exact hP, va_K.moved hW.alike hK, hD⟩, hS.F ht⟩) hS.2.2 dX2_become_25
set_option maxHeartbeats 4000000 in
set_option maxRecDepth 100000 in
theorem kx_X3_copy_0 (l : Launch) (dC : Nat → ClassId) (dI : Nat → Nat → Nat) (h0 : Nat) (h1 : Nat) (h2 : Nat) (h3 : Nat) (h4 : Nat) (h5 : Nat) (h6 : Nat) (h7 : Nat) (h8 : Nat) (h9 : Nat) (z0 : Nat) (z1 : Nat) (z2 : Nat) (z3 : Nat) (z4 : Nat) (k0 : ClassId) (k1 : ClassId) (k2 : ClassId) (k3 : ClassId) (k4 : ClassId) (sz : Nat) : Met l yX3_copy wsX3_copy ({ frames := 2, cells := 0, slots := 0, locals := 81 }) (va_Pc [.ref h0, .int 0, .int 0] (fun U => U.heap.size = sz ∧ va_P (dC, dI) vwCl [(h0, .inr (7, [.ref h1, .ref z0, .ref z1, .ref z2, .ref z3, .ref z4, .int 0, .int 0, .int 0])), (h1, .inl (k0, 4, .inr (.inr (.inr (.inr (va_up (va_up (va_up (va_up (fun _ => none) 0 (some h2)) 1 (some h4)) 2 (some h6)) 3 (some h8))))))), (h2, .inr (6, [.ref h3, .int 0])), (h3, .inl (k1, 64, .inl (fun _ => 0))), (h4, .inr (6, [.ref h5, .int 0])), (h5, .inl (k2, 64, .inl (fun _ => 0))), (h6, .inr (6, [.ref h7, .int 0])), (h7, .inl (k3, 64, .inl (fun _ => 0))), (h8, .inr (6, [.ref h9, .int 0])), (h9, .inl (k4, 64, .inl (fun _ => 0)))] U.heap ∧ va_K (dC, dI) vwCl [(k0, .object "Rewriterope$Text"), (k1, .byte), (k2, .byte), (k3, .byte), (k4, .byte)] U ∧ va_D (fun _ => True) [(h0, .inr (7, [.ref h1, .ref z0, .ref z1, .ref z2, .ref z3, .ref z4, .int 0, .int 0, .int 0])), (h1, .inl (k0, 4, .inr (.inr (.inr (.inr (va_up (va_up (va_up (va_up (fun _ => none) 0 (some h2)) 1 (some h4)) 2 (some h6)) 3 (some h8))))))), (h2, .inr (6, [.ref h3, .int 0])), (h3, .inl (k1, 64, .inl (fun _ => 0))), (h4, .inr (6, [.ref h5, .int 0])), (h5, .inl (k2, 64, .inl (fun _ => 0))), (h6, .inr (6, [.ref h7, .int 0])), (h7, .inl (k3, 64, .inl (fun _ => 0))), (h8, .inr (6, [.ref h9, .int 0])), (h9, .inl (k4, 64, .inl (fun _ => 0)))])) (va_Qi (fun (r : Int32) (_ : Unit) => r = 0) (fun (_ : Unit) (t : State) => va_P (dC, dI) vwCl [(h0, .inr (7, [.ref h1, .ref z0, .ref z1, .ref z2, .ref z3, .ref z4, .int 0, .int 0, .int 0])), (h1, .inl (k0, 4, .inr (.inr (.inr (.inr (va_up (va_up (va_up (va_up (fun _ => none) 0 (some h2)) 1 (some h4)) 2 (some h6)) 3 (some h8))))))), (h2, .inr (6, [.ref h3, .int 0])), (h3, .inl (k1, 64, .inl (fun _ => 0))), (h4, .inr (6, [.ref h5, .int 0])), (h5, .inl (k2, 64, .inl (fun _ => 0))), (h6, .inr (6, [.ref h7, .int 0])), (h7, .inl (k3, 64, .inl (fun _ => 0))), (h8, .inr (6, [.ref h9, .int 0])), (h9, .inl (k4, 64, .inl (fun _ => 0)))] t.heap ∧ va_K (dC, dI) vwCl [(k0, .object "Rewriterope$Text"), (k1, .byte), (k2, .byte), (k3, .byte), (k4, .byte)] t ∧ va_D (va_A [(h0, .inr (7, [.ref h1, .ref z0, .ref z1, .ref z2, .ref z3, .ref z4, .int 0, .int 0, .int 0])), (h1, .inl (k0, 4, .inr (.inr (.inr (.inr (va_up (va_up (va_up (va_up (fun _ => none) 0 (some h2)) 1 (some h4)) 2 (some h6)) 3 (some h8))))))), (h2, .inr (6, [.ref h3, .int 0])), (h3, .inl (k1, 64, .inl (fun _ => 0))), (h4, .inr (6, [.ref h5, .int 0])), (h5, .inl (k2, 64, .inl (fun _ => 0))), (h6, .inr (6, [.ref h7, .int 0])), (h7, .inl (k3, 64, .inl (fun _ => 0))), (h8, .inr (6, [.ref h9, .int 0])), (h9, .inl (k4, 64, .inl (fun _ => 0)))] sz) [(h0, .inr (7, [.ref h1, .ref z0, .ref z1, .ref z2, .ref z3, .ref z4, .int 0, .int 0, .int 0])), (h1, .inl (k0, 4, .inr (.inr (.inr (.inr (va_up (va_up (va_up (va_up (fun _ => none) 0 (some h2)) 1 (some h4)) 2 (some h6)) 3 (some h8))))))), (h2, .inr (6, [.ref h3, .int 0])), (h3, .inl (k1, 64, .inl (fun _ => 0))), (h4, .inr (6, [.ref h5, .int 0])), (h5, .inl (k2, 64, .inl (fun _ => 0))), (h6, .inr (6, [.ref h7, .int 0])), (h7, .inl (k3, 64, .inl (fun _ => 0))), (h8, .inr (6, [.ref h9, .int 0])), (h9, .inl (k4, 64, .inl (fun _ => 0)))]) (va_A [(h0, .inr (7, [.ref h1, .ref z0, .ref z1, .ref z2, .ref z3, .ref z4, .int 0, .int 0, .int 0])), (h1, .inl (k0, 4, .inr (.inr (.inr (.inr (va_up (va_up (va_up (va_up (fun _ => none) 0 (some h2)) 1 (some h4)) 2 (some h6)) 3 (some h8))))))), (h2, .inr (6, [.ref h3, .int 0])), (h3, .inl (k1, 64, .inl (fun _ => 0))), (h4, .inr (6, [.ref h5, .int 0])), (h5, .inl (k2, 64, .inl (fun _ => 0))), (h6, .inr (6, [.ref h7, .int 0])), (h7, .inl (k3, 64, .inl (fun _ => 0))), (h8, .inr (6, [.ref h9, .int 0])), (h9, .inl (k4, 64, .inl (fun _ => 0)))] sz)) 0 0 (va_A [(h0, .inr (7, [.ref h1, .ref z0, .ref z1, .ref z2, .ref z3, .ref z4, .int 0, .int 0, .int 0])), (h1, .inl (k0, 4, .inr (.inr (.inr (.inr (va_up (va_up (va_up (va_up (fun _ => none) 0 (some h2)) 1 (some h4)) 2 (some h6)) 3 (some h8))))))), (h2, .inr (6, [.ref h3, .int 0])), (h3, .inl (k1, 64, .inl (fun _ => 0))), (h4, .inr (6, [.ref h5, .int 0])), (h5, .inl (k2, 64, .inl (fun _ => 0))), (h6, .inr (6, [.ref h7, .int 0])), (h7, .inl (k3, 64, .inl (fun _ => 0))), (h8, .inr (6, [.ref h9, .int 0])), (h9, .inl (k4, 64, .inl (fun _ => 0)))] sz) := by
  refine Met.ofW (cc := cX3_copy) (maxL := 3) (ret := (some .int)) (by decide) rfl ?_
  intro p e s m args below meth c s₁ B hml hv
  obtain ⟨rfl, hsz, hP, hK, hD0⟩ := hv
  have hx := B.exec
  have hb := B.bytes
  have hr := B.returns
  have hts := atoms_spec (ws := wsX3_copy) B.pre
  have hown : s.vm.findClass RX3 = some m.cls := findClass_of_methodNamed B.named
  have hlocks := B.notSynchronized
  subst hsz
  have hD := hD0.self (sz := s.heap.size)
  generalize hAe : va_A [(h0, .inr (7, [.ref h1, .ref z0, .ref z1, .ref z2, .ref z3, .ref z4, .int 0, .int 0, .int 0])), (h1, .inl (k0, 4, .inr (.inr (.inr (.inr (va_up (va_up (va_up (va_up (fun _ => none) 0 (some h2)) 1 (some h4)) 2 (some h6)) 3 (some h8))))))), (h2, .inr (6, [.ref h3, .int 0])), (h3, .inl (k1, 64, .inl (fun _ => 0))), (h4, .inr (6, [.ref h5, .int 0])), (h5, .inl (k2, 64, .inl (fun _ => 0))), (h6, .inr (6, [.ref h7, .int 0])), (h7, .inl (k3, 64, .inl (fun _ => 0))), (h8, .inr (6, [.ref h9, .int 0])), (h9, .inl (k4, 64, .inl (fun _ => 0)))] s.heap.size = A at hD ⊢
  have hA : ∀ q : Nat, s.heap.size ≤ q → A q := fun q h => by rw [← hAe]; exact Or.inr h
  have hS : va_S A s.heap s.heap [] := va_S.rf
  have hP : va_P (dC, dI) vwCl [(h0, .inr (7, [.ref h1, .ref z0, .ref z1, .ref z2, .ref z3, .ref z4, .int 0, .int 0, .int 0])), (h1, .inl (k0, 4, .inr (.inr (.inr (.inr (va_up (va_up (va_up (va_up (fun _ => none) 0 (some h2)) 1 (some h4)) 2 (some h6)) 3 (some h8))))))), (h2, .inr (6, [.ref h3, .int 0])), (h3, .inl (k1, 64, .inl (fun _ => 0))), (h4, .inr (6, [.ref h5, .int 0])), (h5, .inl (k2, 64, .inl (fun _ => 0))), (h6, .inr (6, [.ref h7, .int 0])), (h7, .inl (k3, 64, .inl (fun _ => 0))), (h8, .inr (6, [.ref h9, .int 0])), (h9, .inl (k4, 64, .inl (fun _ => 0)))] s.heap := hP
  have hl := lv_entry ([.ref h0, .int 0, .int 0]) (n := 3) (Nat.le_of_ble_eq_true rfl)
  rw [lg_entry_eq]
  generalize (lg_sl ([.ref h0, .int 0, .int 0]) ++ List.replicate (3 - (lg_sl ([.ref h0, .int 0, .int 0])).length) Slot.unset).toArray = ls at hl ⊢
  have hl : lv_has ls 3 [(0, .ref h0), (1, .int 0), (2, .int 0)] := hl
  refine lv_iload_n hx hb dX3_copy_0 rfl (lv_at hl 1 rfl) ?_
  have hPc := hP.sub (ws' := []) [] rfl
  have hDc := hD.sub (ws' := []) [] (by decide) rfl
  have hKc := hK.sub (tys' := []) [] rfl
  have hFc := va_free (wc := []) hD hS hA [] rfl
  refine va_callv (va_runS (As := [.int 0]) (rest := []) ⟨hx, hb, hml, hown, hts⟩ (kx_X3_needRope_0 l dC dI s.heap.size) (cwS 1 hts gX3_copy_X3_needRope rfl rfl rfl (by decide +kernel) ⟨Nat.le_of_ble_eq_true rfl, Nat.le_of_ble_eq_true rfl⟩) ⟨fun a U g mk q => by obtain ⟨q0, q1, qP, qK, qD⟩ := q; exact ⟨q0, q1, qP, va_K.moved (u := U) (U := U.calling g mk a) (Vm.Alike.refl U.vm) qK, qD⟩, fun U hU hW => ⟨rfl, by rw [hU], by rw [hU]; exact hPc, va_K.moved hW.alike hKc, hDc.weaken (fun _ _ _ _ => trivial)⟩⟩ rfl rfl hl.1 rfl (lv_room (Nat.le_of_ble_eq_true rfl)) dX3_copy_1 ⟨Nat.le_of_ble_eq_true rfl, Nat.le_of_ble_eq_true rfl⟩) hS (fun q _ h => hFc q h) hFc (fun u t H1 locs ht hvm hw hB hz1 hk1 hS => ?_)
  obtain ⟨hP1, hK1, hD1⟩ := hB
  rw [ht] at hP1
  have hK1 := va_K.moved hvm.symm hK1
  obtain ⟨hP, hD⟩ := va_join (wr := [(h0, .inr (7, [.ref h1, .ref z0, .ref z1, .ref z2, .ref z3, .ref z4, .int 0, .int 0, .int 0])), (h1, .inl (k0, 4, .inr (.inr (.inr (.inr (va_up (va_up (va_up (va_up (fun _ => none) 0 (some h2)) 1 (some h4)) 2 (some h6)) 3 (some h8))))))), (h2, .inr (6, [.ref h3, .int 0])), (h3, .inl (k1, 64, .inl (fun _ => 0))), (h4, .inr (6, [.ref h5, .int 0])), (h5, .inl (k2, 64, .inl (fun _ => 0))), (h6, .inr (6, [.ref h7, .int 0])), (h7, .inl (k3, 64, .inl (fun _ => 0))), (h8, .inr (6, [.ref h9, .int 0])), (h9, .inl (k4, 64, .inl (fun _ => 0)))]) (w1 := []) hP hD [] [0, 1, 2, 3, 4, 5, 6, 7, 8, 9] rfl rfl (by decide) (by decide) hk1 hFc hP1 hD1
  generalize H1 = H at hP hS ⊢
  have hP : va_P (dC, dI) vwCl [(h0, .inr (7, [.ref h1, .ref z0, .ref z1, .ref z2, .ref z3, .ref z4, .int 0, .int 0, .int 0])), (h1, .inl (k0, 4, .inr (.inr (.inr (.inr (va_up (va_up (va_up (va_up (fun _ => none) 0 (some h2)) 1 (some h4)) 2 (some h6)) 3 (some h8))))))), (h2, .inr (6, [.ref h3, .int 0])), (h3, .inl (k1, 64, .inl (fun _ => 0))), (h4, .inr (6, [.ref h5, .int 0])), (h5, .inl (k2, 64, .inl (fun _ => 0))), (h6, .inr (6, [.ref h7, .int 0])), (h7, .inl (k3, 64, .inl (fun _ => 0))), (h8, .inr (6, [.ref h9, .int 0])), (h9, .inl (k4, 64, .inl (fun _ => 0)))] H := hP
  have hD : va_D A [(h0, .inr (7, [.ref h1, .ref z0, .ref z1, .ref z2, .ref z3, .ref z4, .int 0, .int 0, .int 0])), (h1, .inl (k0, 4, .inr (.inr (.inr (.inr (va_up (va_up (va_up (va_up (fun _ => none) 0 (some h2)) 1 (some h4)) 2 (some h6)) 3 (some h8))))))), (h2, .inr (6, [.ref h3, .int 0])), (h3, .inl (k1, 64, .inl (fun _ => 0))), (h4, .inr (6, [.ref h5, .int 0])), (h5, .inl (k2, 64, .inl (fun _ => 0))), (h6, .inr (6, [.ref h7, .int 0])), (h7, .inl (k3, 64, .inl (fun _ => 0))), (h8, .inr (6, [.ref h9, .int 0])), (h9, .inl (k4, 64, .inl (fun _ => 0)))] := hD
  refine lv_iload_n hx hb dX3_copy_4 rfl (lv_at hl 2 rfl) ?_
  have hPc := hP.sub (ws' := []) [] rfl
  have hDc := hD.sub (ws' := []) [] (by decide) rfl
  have hKc := hK.sub (tys' := []) [] rfl
  have hFc := va_free (wc := []) hD hS hA [] rfl
  refine va_callv (va_runS (As := [.int 0]) (rest := []) ⟨hx, hb, hml, hown, hts⟩ (kx_X3_needRope_0 l dC dI H.size) (cwS 1 hts gX3_copy_X3_needRope rfl rfl rfl (by decide +kernel) ⟨Nat.le_of_ble_eq_true rfl, Nat.le_of_ble_eq_true rfl⟩) ⟨fun a U g mk q => by obtain ⟨q0, q1, qP, qK, qD⟩ := q; exact ⟨q0, q1, qP, va_K.moved (u := U) (U := U.calling g mk a) (Vm.Alike.refl U.vm) qK, qD⟩, fun U hU hW => ⟨rfl, by rw [hU], by rw [hU]; exact hPc, va_K.moved hW.alike hKc, hDc.weaken (fun _ _ _ _ => trivial)⟩⟩ rfl rfl hl.1 rfl (lv_room (Nat.le_of_ble_eq_true rfl)) dX3_copy_5 ⟨Nat.le_of_ble_eq_true rfl, Nat.le_of_ble_eq_true rfl⟩) hS (fun q _ h => hFc q h) hFc (fun u t H1 locs ht hvm hw hB hz1 hk1 hS => ?_)
  obtain ⟨hP1, hK1, hD1⟩ := hB
  rw [ht] at hP1
  have hK1 := va_K.moved hvm.symm hK1
  obtain ⟨hP, hD⟩ := va_join (wr := [(h0, .inr (7, [.ref h1, .ref z0, .ref z1, .ref z2, .ref z3, .ref z4, .int 0, .int 0, .int 0])), (h1, .inl (k0, 4, .inr (.inr (.inr (.inr (va_up (va_up (va_up (va_up (fun _ => none) 0 (some h2)) 1 (some h4)) 2 (some h6)) 3 (some h8))))))), (h2, .inr (6, [.ref h3, .int 0])), (h3, .inl (k1, 64, .inl (fun _ => 0))), (h4, .inr (6, [.ref h5, .int 0])), (h5, .inl (k2, 64, .inl (fun _ => 0))), (h6, .inr (6, [.ref h7, .int 0])), (h7, .inl (k3, 64, .inl (fun _ => 0))), (h8, .inr (6, [.ref h9, .int 0])), (h9, .inl (k4, 64, .inl (fun _ => 0)))]) (w1 := []) hP hD [] [0, 1, 2, 3, 4, 5, 6, 7, 8, 9] rfl rfl (by decide) (by decide) hk1 hFc hP1 hD1
  generalize H1 = H at hP hS ⊢
  have hP : va_P (dC, dI) vwCl [(h0, .inr (7, [.ref h1, .ref z0, .ref z1, .ref z2, .ref z3, .ref z4, .int 0, .int 0, .int 0])), (h1, .inl (k0, 4, .inr (.inr (.inr (.inr (va_up (va_up (va_up (va_up (fun _ => none) 0 (some h2)) 1 (some h4)) 2 (some h6)) 3 (some h8))))))), (h2, .inr (6, [.ref h3, .int 0])), (h3, .inl (k1, 64, .inl (fun _ => 0))), (h4, .inr (6, [.ref h5, .int 0])), (h5, .inl (k2, 64, .inl (fun _ => 0))), (h6, .inr (6, [.ref h7, .int 0])), (h7, .inl (k3, 64, .inl (fun _ => 0))), (h8, .inr (6, [.ref h9, .int 0])), (h9, .inl (k4, 64, .inl (fun _ => 0)))] H := hP
  have hD : va_D A [(h0, .inr (7, [.ref h1, .ref z0, .ref z1, .ref z2, .ref z3, .ref z4, .int 0, .int 0, .int 0])), (h1, .inl (k0, 4, .inr (.inr (.inr (.inr (va_up (va_up (va_up (va_up (fun _ => none) 0 (some h2)) 1 (some h4)) 2 (some h6)) 3 (some h8))))))), (h2, .inr (6, [.ref h3, .int 0])), (h3, .inl (k1, 64, .inl (fun _ => 0))), (h4, .inr (6, [.ref h5, .int 0])), (h5, .inl (k2, 64, .inl (fun _ => 0))), (h6, .inr (6, [.ref h7, .int 0])), (h7, .inl (k3, 64, .inl (fun _ => 0))), (h8, .inr (6, [.ref h9, .int 0])), (h9, .inl (k4, 64, .inl (fun _ => 0)))] := hD
  refine lv_aload_n hx hb dX3_copy_8 rfl (lv_at hl 0 rfl) ?_
  refine va_get (D := (dC, dI)) (ci := 7) (v := .ref h1) (C := RX3) (T := TX3) (N := 9) hx hb hts (by decide +kernel) hown hK hP 0 rfl rfl 0 (by decide) (hts (.fieldLink RX3 11 "Rewriterope" "ropes" "[LRewriterope$Text;") (by decide +kernel)) (fun _ h9 => h9) rfl dX3_copy_9 ?_
  refine lv_iload_n hx hb dX3_copy_12 rfl (lv_at hl 1 rfl) ?_
  refine va_aldq (D := (dC, dI)) hx hb hK hP 1 0 rfl rfl (by unfold vp_in; decide) dX3_copy_13 ?_
  refine W.eq (g2 := F0 m 14 ls [.ref h2]) rfl ?_
  refine lv_aload_n hx hb dX3_copy_14 rfl (lv_at hl 0 rfl) ?_
  refine va_get (D := (dC, dI)) (ci := 7) (v := .ref h1) (C := RX3) (T := TX3) (N := 9) hx hb hts (by decide +kernel) hown hK hP 0 rfl rfl 0 (by decide) (hts (.fieldLink RX3 11 "Rewriterope" "ropes" "[LRewriterope$Text;") (by decide +kernel)) (fun _ h9 => h9) rfl dX3_copy_15 ?_
  refine lv_iload_n hx hb dX3_copy_18 rfl (lv_at hl 2 rfl) ?_
  refine va_aldq (D := (dC, dI)) hx hb hK hP 1 0 rfl rfl (by unfold vp_in; decide) dX3_copy_19 ?_
  refine W.eq (g2 := F0 m 20 ls [.ref h2, .ref h2]) rfl ?_
  have hPc := hP.sub (ws' := [(h2, .inr (6, [.ref h3, .int 0])), (h3, .inl (k1, 64, .inl (fun _ => 0)))]) [2, 3] rfl
  have hDc := hD.sub (ws' := [(h2, .inr (6, [.ref h3, .int 0])), (h3, .inl (k1, 64, .inl (fun _ => 0)))]) [2, 3] (by decide) rfl
  have hKc := hK.sub (tys' := [(k1, .byte)]) [1] rfl
  have hFc := va_free (wc := [(h2, .inr (6, [.ref h3, .int 0])), (h3, .inl (k1, 64, .inl (fun _ => 0)))]) hD hS hA [2, 3] rfl
  refine va_callv (va_runV (As := [.ref h2]) (rest := []) ⟨hx, hb, hml, hown, hts⟩ (kx_X2_become_0 l dC dI h2 h3 k1 H.size) (cwV 1 hts gX3_copy_X2_become rfl rfl rfl (by decide +kernel) ⟨Nat.le_of_ble_eq_true rfl, Nat.le_of_ble_eq_true rfl⟩) ⟨fun a U g mk q => by obtain ⟨q0, q1, qP, qK, qD⟩ := q; exact ⟨q0, q1, qP, va_K.moved (u := U) (U := U.calling g mk a) (Vm.Alike.refl U.vm) qK, qD⟩, va_recv hKc hPc (ci := 6) (q0 := 0) rfl rfl, fun U hU hW => ⟨rfl, by rw [hU], by rw [hU]; exact hPc, va_K.moved hW.alike hKc, hDc.weaken (fun _ _ _ _ => trivial)⟩⟩ rfl rfl hl.1 rfl (lv_room (Nat.le_of_ble_eq_true rfl)) dX3_copy_20 ⟨Nat.le_of_ble_eq_true rfl, Nat.le_of_ble_eq_true rfl⟩) hS (fun q _ h => hFc q h) hFc (fun u t H1 locs ht hvm hw hB hz1 hk1 hS => ?_)
  obtain ⟨hP1, hK1, hD1⟩ := hB
  rw [ht] at hP1
  have hK1 := va_K.moved hvm.symm hK1
  obtain ⟨hP, hD⟩ := va_join (wr := [(h0, .inr (7, [.ref h1, .ref z0, .ref z1, .ref z2, .ref z3, .ref z4, .int 0, .int 0, .int 0])), (h1, .inl (k0, 4, .inr (.inr (.inr (.inr (va_up (va_up (va_up (va_up (fun _ => none) 0 (some h2)) 1 (some h4)) 2 (some h6)) 3 (some h8))))))), (h4, .inr (6, [.ref h5, .int 0])), (h5, .inl (k2, 64, .inl (fun _ => 0))), (h6, .inr (6, [.ref h7, .int 0])), (h7, .inl (k3, 64, .inl (fun _ => 0))), (h8, .inr (6, [.ref h9, .int 0])), (h9, .inl (k4, 64, .inl (fun _ => 0)))]) (w1 := [(h2, .inr (6, [.ref h3, .int 0])), (h3, .inl (k1, 64, .inl (fun _ => 0)))]) hP hD [2, 3] [0, 1, 4, 5, 6, 7, 8, 9] rfl rfl (by decide) (by decide) hk1 hFc hP1 hD1
  generalize H1 = H at hP hS ⊢
  have hP : va_P (dC, dI) vwCl [(h0, .inr (7, [.ref h1, .ref z0, .ref z1, .ref z2, .ref z3, .ref z4, .int 0, .int 0, .int 0])), (h1, .inl (k0, 4, .inr (.inr (.inr (.inr (va_up (va_up (va_up (va_up (fun _ => none) 0 (some h2)) 1 (some h4)) 2 (some h6)) 3 (some h8))))))), (h4, .inr (6, [.ref h5, .int 0])), (h5, .inl (k2, 64, .inl (fun _ => 0))), (h6, .inr (6, [.ref h7, .int 0])), (h7, .inl (k3, 64, .inl (fun _ => 0))), (h8, .inr (6, [.ref h9, .int 0])), (h9, .inl (k4, 64, .inl (fun _ => 0))), (h2, .inr (6, [.ref h3, .int 0])), (h3, .inl (k1, 64, .inl (fun _ => 0)))] H := hP
  have hD : va_D A [(h0, .inr (7, [.ref h1, .ref z0, .ref z1, .ref z2, .ref z3, .ref z4, .int 0, .int 0, .int 0])), (h1, .inl (k0, 4, .inr (.inr (.inr (.inr (va_up (va_up (va_up (va_up (fun _ => none) 0 (some h2)) 1 (some h4)) 2 (some h6)) 3 (some h8))))))), (h4, .inr (6, [.ref h5, .int 0])), (h5, .inl (k2, 64, .inl (fun _ => 0))), (h6, .inr (6, [.ref h7, .int 0])), (h7, .inl (k3, 64, .inl (fun _ => 0))), (h8, .inr (6, [.ref h9, .int 0])), (h9, .inl (k4, 64, .inl (fun _ => 0))), (h2, .inr (6, [.ref h3, .int 0])), (h3, .inl (k1, 64, .inl (fun _ => 0)))] := hD
  refine lv_aload_n hx hb dX3_copy_23 rfl (lv_at hl 0 rfl) ?_
  refine va_get (D := (dC, dI)) (ci := 7) (v := .ref h1) (C := RX3) (T := TX3) (N := 9) hx hb hts (by decide +kernel) hown hK hP 0 rfl rfl 0 (by decide) (hts (.fieldLink RX3 11 "Rewriterope" "ropes" "[LRewriterope$Text;") (by decide +kernel)) (fun _ h9 => h9) rfl dX3_copy_24 ?_
  refine lv_iload_n hx hb dX3_copy_27 rfl (lv_at hl 1 rfl) ?_
  refine va_aldq (D := (dC, dI)) hx hb hK hP 1 0 rfl rfl (by unfold vp_in; decide) dX3_copy_28 ?_
  refine W.eq (g2 := F0 m 29 ls [.ref h2]) rfl ?_
  refine va_get (D := (dC, dI)) (ci := 6) (v := .int 0) (C := RX2) (T := TX2) (N := 2) hx hb hts (by decide +kernel) hown hK hP 8 rfl rfl 1 (by decide) (hts (.fieldLink RX3 65 "Rewriterope$Text" "length" "I") (by decide +kernel)) (fun _ h9 => h9) rfl dX3_copy_29 ?_
  have hP := hP.sub (ws' := [(h0, .inr (7, [.ref h1, .ref z0, .ref z1, .ref z2, .ref z3, .ref z4, .int 0, .int 0, .int 0])), (h1, .inl (k0, 4, .inr (.inr (.inr (.inr (va_up (va_up (va_up (va_up (fun _ => none) 0 (some h2)) 1 (some h4)) 2 (some h6)) 3 (some h8))))))), (h2, .inr (6, [.ref h3, .int 0])), (h3, .inl (k1, 64, .inl (fun _ => 0))), (h4, .inr (6, [.ref h5, .int 0])), (h5, .inl (k2, 64, .inl (fun _ => 0))), (h6, .inr (6, [.ref h7, .int 0])), (h7, .inl (k3, 64, .inl (fun _ => 0))), (h8, .inr (6, [.ref h9, .int 0])), (h9, .inl (k4, 64, .inl (fun _ => 0)))]) [0, 1, 8, 9, 2, 3, 4, 5, 6, 7] rfl
  have hD := hD.sub (ws' := [(h0, .inr (7, [.ref h1, .ref z0, .ref z1, .ref z2, .ref z3, .ref z4, .int 0, .int 0, .int 0])), (h1, .inl (k0, 4, .inr (.inr (.inr (.inr (va_up (va_up (va_up (va_up (fun _ => none) 0 (some h2)) 1 (some h4)) 2 (some h6)) 3 (some h8))))))), (h2, .inr (6, [.ref h3, .int 0])), (h3, .inl (k1, 64, .inl (fun _ => 0))), (h4, .inr (6, [.ref h5, .int 0])), (h5, .inl (k2, 64, .inl (fun _ => 0))), (h6, .inr (6, [.ref h7, .int 0])), (h7, .inl (k3, 64, .inl (fun _ => 0))), (h8, .inr (6, [.ref h9, .int 0])), (h9, .inl (k4, 64, .inl (fun _ => 0)))]) [0, 1, 8, 9, 2, 3, 4, 5, 6, 7] (by decide) rfl
  exact W.iret (v := 0) hx hb hr (fun t ht hW => ⟨⟨0, (), rfl, rfl, by rw [ht]; exact hP, va_K.moved hW.alike hK, hD⟩, hS.F ht⟩) hS.2.2 dX3_copy_32
set_option maxHeartbeats 4000000 in
set_option maxRecDepth 100000 in
theorem kx_X3_copy_1 (l : Launch) (dC : Nat → ClassId) (dI : Nat → Nat → Nat) (h0 : Nat) (h1 : Nat) (h2 : Nat) (h3 : Nat) (h4 : Nat) (h5 : Nat) (h6 : Nat) (h7 : Nat) (h8 : Nat) (h9 : Nat) (z0 : Nat) (z1 : Nat) (z2 : Nat) (z3 : Nat) (z4 : Nat) (k0 : ClassId) (k1 : ClassId) (k2 : ClassId) (k3 : ClassId) (k4 : ClassId) (sz : Nat) : Met l yX3_copy wsX3_copy ({ frames := 2, cells := 0, slots := 0, locals := 81 }) (va_Pc [.ref h0, .int 0, .int 1] (fun U => U.heap.size = sz ∧ va_P (dC, dI) vwCl [(h0, .inr (7, [.ref h1, .ref z0, .ref z1, .ref z2, .ref z3, .ref z4, .int 0, .int 0, .int 0])), (h1, .inl (k0, 4, .inr (.inr (.inr (.inr (va_up (va_up (va_up (va_up (fun _ => none) 0 (some h2)) 1 (some h4)) 2 (some h6)) 3 (some h8))))))), (h2, .inr (6, [.ref h3, .int 0])), (h3, .inl (k1, 64, .inl (fun _ => 0))), (h4, .inr (6, [.ref h5, .int 0])), (h5, .inl (k2, 64, .inl (fun _ => 0))), (h6, .inr (6, [.ref h7, .int 0])), (h7, .inl (k3, 64, .inl (fun _ => 0))), (h8, .inr (6, [.ref h9, .int 0])), (h9, .inl (k4, 64, .inl (fun _ => 0)))] U.heap ∧ va_K (dC, dI) vwCl [(k0, .object "Rewriterope$Text"), (k1, .byte), (k2, .byte), (k3, .byte), (k4, .byte)] U ∧ va_D (fun _ => True) [(h0, .inr (7, [.ref h1, .ref z0, .ref z1, .ref z2, .ref z3, .ref z4, .int 0, .int 0, .int 0])), (h1, .inl (k0, 4, .inr (.inr (.inr (.inr (va_up (va_up (va_up (va_up (fun _ => none) 0 (some h2)) 1 (some h4)) 2 (some h6)) 3 (some h8))))))), (h2, .inr (6, [.ref h3, .int 0])), (h3, .inl (k1, 64, .inl (fun _ => 0))), (h4, .inr (6, [.ref h5, .int 0])), (h5, .inl (k2, 64, .inl (fun _ => 0))), (h6, .inr (6, [.ref h7, .int 0])), (h7, .inl (k3, 64, .inl (fun _ => 0))), (h8, .inr (6, [.ref h9, .int 0])), (h9, .inl (k4, 64, .inl (fun _ => 0)))])) (va_Qi (fun (r : Int32) (_ : Unit) => r = 0) (fun (_ : Unit) (t : State) => va_P (dC, dI) vwCl [(h0, .inr (7, [.ref h1, .ref z0, .ref z1, .ref z2, .ref z3, .ref z4, .int 0, .int 0, .int 0])), (h1, .inl (k0, 4, .inr (.inr (.inr (.inr (va_up (va_up (va_up (va_up (fun _ => none) 0 (some h2)) 1 (some h4)) 2 (some h6)) 3 (some h8))))))), (h2, .inr (6, [.ref h3, .int 0])), (h3, .inl (k1, 64, .inl (fun _ => 0))), (h4, .inr (6, [.ref h5, .int 0])), (h5, .inl (k2, 64, .inl (fun _ => 0))), (h6, .inr (6, [.ref h7, .int 0])), (h7, .inl (k3, 64, .inl (fun _ => 0))), (h8, .inr (6, [.ref h9, .int 0])), (h9, .inl (k4, 64, .inl (fun _ => 0)))] t.heap ∧ va_K (dC, dI) vwCl [(k0, .object "Rewriterope$Text"), (k1, .byte), (k2, .byte), (k3, .byte), (k4, .byte)] t ∧ va_D (va_A [(h0, .inr (7, [.ref h1, .ref z0, .ref z1, .ref z2, .ref z3, .ref z4, .int 0, .int 0, .int 0])), (h1, .inl (k0, 4, .inr (.inr (.inr (.inr (va_up (va_up (va_up (va_up (fun _ => none) 0 (some h2)) 1 (some h4)) 2 (some h6)) 3 (some h8))))))), (h2, .inr (6, [.ref h3, .int 0])), (h3, .inl (k1, 64, .inl (fun _ => 0))), (h4, .inr (6, [.ref h5, .int 0])), (h5, .inl (k2, 64, .inl (fun _ => 0))), (h6, .inr (6, [.ref h7, .int 0])), (h7, .inl (k3, 64, .inl (fun _ => 0))), (h8, .inr (6, [.ref h9, .int 0])), (h9, .inl (k4, 64, .inl (fun _ => 0)))] sz) [(h0, .inr (7, [.ref h1, .ref z0, .ref z1, .ref z2, .ref z3, .ref z4, .int 0, .int 0, .int 0])), (h1, .inl (k0, 4, .inr (.inr (.inr (.inr (va_up (va_up (va_up (va_up (fun _ => none) 0 (some h2)) 1 (some h4)) 2 (some h6)) 3 (some h8))))))), (h2, .inr (6, [.ref h3, .int 0])), (h3, .inl (k1, 64, .inl (fun _ => 0))), (h4, .inr (6, [.ref h5, .int 0])), (h5, .inl (k2, 64, .inl (fun _ => 0))), (h6, .inr (6, [.ref h7, .int 0])), (h7, .inl (k3, 64, .inl (fun _ => 0))), (h8, .inr (6, [.ref h9, .int 0])), (h9, .inl (k4, 64, .inl (fun _ => 0)))]) (va_A [(h0, .inr (7, [.ref h1, .ref z0, .ref z1, .ref z2, .ref z3, .ref z4, .int 0, .int 0, .int 0])), (h1, .inl (k0, 4, .inr (.inr (.inr (.inr (va_up (va_up (va_up (va_up (fun _ => none) 0 (some h2)) 1 (some h4)) 2 (some h6)) 3 (some h8))))))), (h2, .inr (6, [.ref h3, .int 0])), (h3, .inl (k1, 64, .inl (fun _ => 0))), (h4, .inr (6, [.ref h5, .int 0])), (h5, .inl (k2, 64, .inl (fun _ => 0))), (h6, .inr (6, [.ref h7, .int 0])), (h7, .inl (k3, 64, .inl (fun _ => 0))), (h8, .inr (6, [.ref h9, .int 0])), (h9, .inl (k4, 64, .inl (fun _ => 0)))] sz)) 0 0 (va_A [(h0, .inr (7, [.ref h1, .ref z0, .ref z1, .ref z2, .ref z3, .ref z4, .int 0, .int 0, .int 0])), (h1, .inl (k0, 4, .inr (.inr (.inr (.inr (va_up (va_up (va_up (va_up (fun _ => none) 0 (some h2)) 1 (some h4)) 2 (some h6)) 3 (some h8))))))), (h2, .inr (6, [.ref h3, .int 0])), (h3, .inl (k1, 64, .inl (fun _ => 0))), (h4, .inr (6, [.ref h5, .int 0])), (h5, .inl (k2, 64, .inl (fun _ => 0))), (h6, .inr (6, [.ref h7, .int 0])), (h7, .inl (k3, 64, .inl (fun _ => 0))), (h8, .inr (6, [.ref h9, .int 0])), (h9, .inl (k4, 64, .inl (fun _ => 0)))] sz) := by
  refine Met.ofW (cc := cX3_copy) (maxL := 3) (ret := (some .int)) (by decide) rfl ?_
  intro p e s m args below meth c s₁ B hml hv
  obtain ⟨rfl, hsz, hP, hK, hD0⟩ := hv
  have hx := B.exec
  have hb := B.bytes
  have hr := B.returns
  have hts := atoms_spec (ws := wsX3_copy) B.pre
  have hown : s.vm.findClass RX3 = some m.cls := findClass_of_methodNamed B.named
  have hlocks := B.notSynchronized
  subst hsz
  have hD := hD0.self (sz := s.heap.size)
  generalize hAe : va_A [(h0, .inr (7, [.ref h1, .ref z0, .ref z1, .ref z2, .ref z3, .ref z4, .int 0, .int 0, .int 0])), (h1, .inl (k0, 4, .inr (.inr (.inr (.inr (va_up (va_up (va_up (va_up (fun _ => none) 0 (some h2)) 1 (some h4)) 2 (some h6)) 3 (some h8))))))), (h2, .inr (6, [.ref h3, .int 0])), (h3, .inl (k1, 64, .inl (fun _ => 0))), (h4, .inr (6, [.ref h5, .int 0])), (h5, .inl (k2, 64, .inl (fun _ => 0))), (h6, .inr (6, [.ref h7, .int 0])), (h7, .inl (k3, 64, .inl (fun _ => 0))), (h8, .inr (6, [.ref h9, .int 0])), (h9, .inl (k4, 64, .inl (fun _ => 0)))] s.heap.size = A at hD ⊢
  have hA : ∀ q : Nat, s.heap.size ≤ q → A q := fun q h => by rw [← hAe]; exact Or.inr h
  have hS : va_S A s.heap s.heap [] := va_S.rf
  have hP : va_P (dC, dI) vwCl [(h0, .inr (7, [.ref h1, .ref z0, .ref z1, .ref z2, .ref z3, .ref z4, .int 0, .int 0, .int 0])), (h1, .inl (k0, 4, .inr (.inr (.inr (.inr (va_up (va_up (va_up (va_up (fun _ => none) 0 (some h2)) 1 (some h4)) 2 (some h6)) 3 (some h8))))))), (h2, .inr (6, [.ref h3, .int 0])), (h3, .inl (k1, 64, .inl (fun _ => 0))), (h4, .inr (6, [.ref h5, .int 0])), (h5, .inl (k2, 64, .inl (fun _ => 0))), (h6, .inr (6, [.ref h7, .int 0])), (h7, .inl (k3, 64, .inl (fun _ => 0))), (h8, .inr (6, [.ref h9, .int 0])), (h9, .inl (k4, 64, .inl (fun _ => 0)))] s.heap := hP
  have hl := lv_entry ([.ref h0, .int 0, .int 1]) (n := 3) (Nat.le_of_ble_eq_true rfl)
  rw [lg_entry_eq]
  generalize (lg_sl ([.ref h0, .int 0, .int 1]) ++ List.replicate (3 - (lg_sl ([.ref h0, .int 0, .int 1])).length) Slot.unset).toArray = ls at hl ⊢
  have hl : lv_has ls 3 [(0, .ref h0), (1, .int 0), (2, .int 1)] := hl
  refine lv_iload_n hx hb dX3_copy_0 rfl (lv_at hl 1 rfl) ?_
  have hPc := hP.sub (ws' := []) [] rfl
  have hDc := hD.sub (ws' := []) [] (by decide) rfl
  have hKc := hK.sub (tys' := []) [] rfl
  have hFc := va_free (wc := []) hD hS hA [] rfl
  refine va_callv (va_runS (As := [.int 0]) (rest := []) ⟨hx, hb, hml, hown, hts⟩ (kx_X3_needRope_0 l dC dI s.heap.size) (cwS 1 hts gX3_copy_X3_needRope rfl rfl rfl (by decide +kernel) ⟨Nat.le_of_ble_eq_true rfl, Nat.le_of_ble_eq_true rfl⟩) ⟨fun a U g mk q => by obtain ⟨q0, q1, qP, qK, qD⟩ := q; exact ⟨q0, q1, qP, va_K.moved (u := U) (U := U.calling g mk a) (Vm.Alike.refl U.vm) qK, qD⟩, fun U hU hW => ⟨rfl, by rw [hU], by rw [hU]; exact hPc, va_K.moved hW.alike hKc, hDc.weaken (fun _ _ _ _ => trivial)⟩⟩ rfl rfl hl.1 rfl (lv_room (Nat.le_of_ble_eq_true rfl)) dX3_copy_1 ⟨Nat.le_of_ble_eq_true rfl, Nat.le_of_ble_eq_true rfl⟩) hS (fun q _ h => hFc q h) hFc (fun u t H1 locs ht hvm hw hB hz1 hk1 hS => ?_)
  obtain ⟨hP1, hK1, hD1⟩ := hB
  rw [ht] at hP1
  have hK1 := va_K.moved hvm.symm hK1
  obtain ⟨hP, hD⟩ := va_join (wr := [(h0, .inr (7, [.ref h1, .ref z0, .ref z1, .ref z2, .ref z3, .ref z4, .int 0, .int 0, .int 0])), (h1, .inl (k0, 4, .inr (.inr (.inr (.inr (va_up (va_up (va_up (va_up (fun _ => none) 0 (some h2)) 1 (some h4)) 2 (some h6)) 3 (some h8))))))), (h2, .inr (6, [.ref h3, .int 0])), (h3, .inl (k1, 64, .inl (fun _ => 0))), (h4, .inr (6, [.ref h5, .int 0])), (h5, .inl (k2, 64, .inl (fun _ => 0))), (h6, .inr (6, [.ref h7, .int 0])), (h7, .inl (k3, 64, .inl (fun _ => 0))), (h8, .inr (6, [.ref h9, .int 0])), (h9, .inl (k4, 64, .inl (fun _ => 0)))]) (w1 := []) hP hD [] [0, 1, 2, 3, 4, 5, 6, 7, 8, 9] rfl rfl (by decide) (by decide) hk1 hFc hP1 hD1
  generalize H1 = H at hP hS ⊢
  have hP : va_P (dC, dI) vwCl [(h0, .inr (7, [.ref h1, .ref z0, .ref z1, .ref z2, .ref z3, .ref z4, .int 0, .int 0, .int 0])), (h1, .inl (k0, 4, .inr (.inr (.inr (.inr (va_up (va_up (va_up (va_up (fun _ => none) 0 (some h2)) 1 (some h4)) 2 (some h6)) 3 (some h8))))))), (h2, .inr (6, [.ref h3, .int 0])), (h3, .inl (k1, 64, .inl (fun _ => 0))), (h4, .inr (6, [.ref h5, .int 0])), (h5, .inl (k2, 64, .inl (fun _ => 0))), (h6, .inr (6, [.ref h7, .int 0])), (h7, .inl (k3, 64, .inl (fun _ => 0))), (h8, .inr (6, [.ref h9, .int 0])), (h9, .inl (k4, 64, .inl (fun _ => 0)))] H := hP
  have hD : va_D A [(h0, .inr (7, [.ref h1, .ref z0, .ref z1, .ref z2, .ref z3, .ref z4, .int 0, .int 0, .int 0])), (h1, .inl (k0, 4, .inr (.inr (.inr (.inr (va_up (va_up (va_up (va_up (fun _ => none) 0 (some h2)) 1 (some h4)) 2 (some h6)) 3 (some h8))))))), (h2, .inr (6, [.ref h3, .int 0])), (h3, .inl (k1, 64, .inl (fun _ => 0))), (h4, .inr (6, [.ref h5, .int 0])), (h5, .inl (k2, 64, .inl (fun _ => 0))), (h6, .inr (6, [.ref h7, .int 0])), (h7, .inl (k3, 64, .inl (fun _ => 0))), (h8, .inr (6, [.ref h9, .int 0])), (h9, .inl (k4, 64, .inl (fun _ => 0)))] := hD
  refine lv_iload_n hx hb dX3_copy_4 rfl (lv_at hl 2 rfl) ?_
  have hPc := hP.sub (ws' := []) [] rfl
  have hDc := hD.sub (ws' := []) [] (by decide) rfl
  have hKc := hK.sub (tys' := []) [] rfl
  have hFc := va_free (wc := []) hD hS hA [] rfl
  refine va_callv (va_runS (As := [.int 1]) (rest := []) ⟨hx, hb, hml, hown, hts⟩ (kx_X3_needRope_1 l dC dI H.size) (cwS 1 hts gX3_copy_X3_needRope rfl rfl rfl (by decide +kernel) ⟨Nat.le_of_ble_eq_true rfl, Nat.le_of_ble_eq_true rfl⟩) ⟨fun a U g mk q => by obtain ⟨q0, q1, qP, qK, qD⟩ := q; exact ⟨q0, q1, qP, va_K.moved (u := U) (U := U.calling g mk a) (Vm.Alike.refl U.vm) qK, qD⟩, fun U hU hW => ⟨rfl, by rw [hU], by rw [hU]; exact hPc, va_K.moved hW.alike hKc, hDc.weaken (fun _ _ _ _ => trivial)⟩⟩ rfl rfl hl.1 rfl (lv_room (Nat.le_of_ble_eq_true rfl)) dX3_copy_5 ⟨Nat.le_of_ble_eq_true rfl, Nat.le_of_ble_eq_true rfl⟩) hS (fun q _ h => hFc q h) hFc (fun u t H1 locs ht hvm hw hB hz1 hk1 hS => ?_)
  obtain ⟨hP1, hK1, hD1⟩ := hB
  rw [ht] at hP1
  have hK1 := va_K.moved hvm.symm hK1
  obtain ⟨hP, hD⟩ := va_join (wr := [(h0, .inr (7, [.ref h1, .ref z0, .ref z1, .ref z2, .ref z3, .ref z4, .int 0, .int 0, .int 0])), (h1, .inl (k0, 4, .inr (.inr (.inr (.inr (va_up (va_up (va_up (va_up (fun _ => none) 0 (some h2)) 1 (some h4)) 2 (some h6)) 3 (some h8))))))), (h2, .inr (6, [.ref h3, .int 0])), (h3, .inl (k1, 64, .inl (fun _ => 0))), (h4, .inr (6, [.ref h5, .int 0])), (h5, .inl (k2, 64, .inl (fun _ => 0))), (h6, .inr (6, [.ref h7, .int 0])), (h7, .inl (k3, 64, .inl (fun _ => 0))), (h8, .inr (6, [.ref h9, .int 0])), (h9, .inl (k4, 64, .inl (fun _ => 0)))]) (w1 := []) hP hD [] [0, 1, 2, 3, 4, 5, 6, 7, 8, 9] rfl rfl (by decide) (by decide) hk1 hFc hP1 hD1
  generalize H1 = H at hP hS ⊢
  have hP : va_P (dC, dI) vwCl [(h0, .inr (7, [.ref h1, .ref z0, .ref z1, .ref z2, .ref z3, .ref z4, .int 0, .int 0, .int 0])), (h1, .inl (k0, 4, .inr (.inr (.inr (.inr (va_up (va_up (va_up (va_up (fun _ => none) 0 (some h2)) 1 (some h4)) 2 (some h6)) 3 (some h8))))))), (h2, .inr (6, [.ref h3, .int 0])), (h3, .inl (k1, 64, .inl (fun _ => 0))), (h4, .inr (6, [.ref h5, .int 0])), (h5, .inl (k2, 64, .inl (fun _ => 0))), (h6, .inr (6, [.ref h7, .int 0])), (h7, .inl (k3, 64, .inl (fun _ => 0))), (h8, .inr (6, [.ref h9, .int 0])), (h9, .inl (k4, 64, .inl (fun _ => 0)))] H := hP
  have hD : va_D A [(h0, .inr (7, [.ref h1, .ref z0, .ref z1, .ref z2, .ref z3, .ref z4, .int 0, .int 0, .int 0])), (h1, .inl (k0, 4, .inr (.inr (.inr (.inr (va_up (va_up (va_up (va_up (fun _ => none) 0 (some h2)) 1 (some h4)) 2 (some h6)) 3 (some h8))))))), (h2, .inr (6, [.ref h3, .int 0])), (h3, .inl (k1, 64, .inl (fun _ => 0))), (h4, .inr (6, [.ref h5, .int 0])), (h5, .inl (k2, 64, .inl (fun _ => 0))), (h6, .inr (6, [.ref h7, .int 0])), (h7, .inl (k3, 64, .inl (fun _ => 0))), (h8, .inr (6, [.ref h9, .int 0])), (h9, .inl (k4, 64, .inl (fun _ => 0)))] := hD
  refine lv_aload_n hx hb dX3_copy_8 rfl (lv_at hl 0 rfl) ?_
  refine va_get (D := (dC, dI)) (ci := 7) (v := .ref h1) (C := RX3) (T := TX3) (N := 9) hx hb hts (by decide +kernel) hown hK hP 0 rfl rfl 0 (by decide) (hts (.fieldLink RX3 11 "Rewriterope" "ropes" "[LRewriterope$Text;") (by decide +kernel)) (fun _ h9 => h9) rfl dX3_copy_9 ?_
  refine lv_iload_n hx hb dX3_copy_12 rfl (lv_at hl 1 rfl) ?_
  refine va_aldq (D := (dC, dI)) hx hb hK hP 1 0 rfl rfl (by unfold vp_in; decide) dX3_copy_13 ?_
  refine W.eq (g2 := F0 m 14 ls [.ref h2]) rfl ?_
  refine lv_aload_n hx hb dX3_copy_14 rfl (lv_at hl 0 rfl) ?_
  refine va_get (D := (dC, dI)) (ci := 7) (v := .ref h1) (C := RX3) (T := TX3) (N := 9) hx hb hts (by decide +kernel) hown hK hP 0 rfl rfl 0 (by decide) (hts (.fieldLink RX3 11 "Rewriterope" "ropes" "[LRewriterope$Text;") (by decide +kernel)) (fun _ h9 => h9) rfl dX3_copy_15 ?_
  refine lv_iload_n hx hb dX3_copy_18 rfl (lv_at hl 2 rfl) ?_
  refine va_aldq (D := (dC, dI)) hx hb hK hP 1 0 rfl rfl (by unfold vp_in; decide) dX3_copy_19 ?_
  refine W.eq (g2 := F0 m 20 ls [.ref h4, .ref h2]) rfl ?_
  have hPc := hP.sub (ws' := [(h2, .inr (6, [.ref h3, .int 0])), (h3, .inl (k1, 64, .inl (fun _ => 0))), (h4, .inr (6, [.ref h5, .int 0])), (h5, .inl (k2, 64, .inl (fun _ => 0)))]) [2, 3, 4, 5] rfl
  have hDc := hD.sub (ws' := [(h2, .inr (6, [.ref h3, .int 0])), (h3, .inl (k1, 64, .inl (fun _ => 0))), (h4, .inr (6, [.ref h5, .int 0])), (h5, .inl (k2, 64, .inl (fun _ => 0)))]) [2, 3, 4, 5] (by decide) rfl
  have hKc := hK.sub (tys' := [(k1, .byte), (k2, .byte)]) [1, 2] rfl
  have hFc := va_free (wc := [(h2, .inr (6, [.ref h3, .int 0])), (h3, .inl (k1, 64, .inl (fun _ => 0))), (h4, .inr (6, [.ref h5, .int 0])), (h5, .inl (k2, 64, .inl (fun _ => 0)))]) hD hS hA [2, 3, 4, 5] rfl
  refine va_callv (va_runV (As := [.ref h4]) (rest := []) ⟨hx, hb, hml, hown, hts⟩ (kx_X2_become_1 l dC dI h2 h3 h4 h5 k1 k2 H.size) (cwV 1 hts gX3_copy_X2_become rfl rfl rfl (by decide +kernel) ⟨Nat.le_of_ble_eq_true rfl, Nat.le_of_ble_eq_true rfl⟩) ⟨fun a U g mk q => by obtain ⟨q0, q1, qP, qK, qD⟩ := q; exact ⟨q0, q1, qP, va_K.moved (u := U) (U := U.calling g mk a) (Vm.Alike.refl U.vm) qK, qD⟩, va_recv hKc hPc (ci := 6) (q0 := 0) rfl rfl, fun U hU hW => ⟨rfl, by rw [hU], by rw [hU]; exact hPc, va_K.moved hW.alike hKc, hDc.weaken (fun _ _ _ _ => trivial)⟩⟩ rfl rfl hl.1 rfl (lv_room (Nat.le_of_ble_eq_true rfl)) dX3_copy_20 ⟨Nat.le_of_ble_eq_true rfl, Nat.le_of_ble_eq_true rfl⟩) hS (fun q _ h => hFc q h) hFc (fun u t H1 locs ht hvm hw hB hz1 hk1 hS => ?_)
  obtain ⟨hP1, hK1, hD1⟩ := hB
  rw [ht] at hP1
  have hK1 := va_K.moved hvm.symm hK1
  obtain ⟨hP, hD⟩ := va_join (wr := [(h0, .inr (7, [.ref h1, .ref z0, .ref z1, .ref z2, .ref z3, .ref z4, .int 0, .int 0, .int 0])), (h1, .inl (k0, 4, .inr (.inr (.inr (.inr (va_up (va_up (va_up (va_up (fun _ => none) 0 (some h2)) 1 (some h4)) 2 (some h6)) 3 (some h8))))))), (h6, .inr (6, [.ref h7, .int 0])), (h7, .inl (k3, 64, .inl (fun _ => 0))), (h8, .inr (6, [.ref h9, .int 0])), (h9, .inl (k4, 64, .inl (fun _ => 0)))]) (w1 := [(h2, .inr (6, [.ref h3, .int 0])), (h3, .inl (k1, 64, .inl (fun _ => 0))), (h4, .inr (6, [.ref h5, .int 0])), (h5, .inl (k2, 64, .inl (fun _ => 0)))]) hP hD [2, 3, 4, 5] [0, 1, 6, 7, 8, 9] rfl rfl (by decide) (by decide) hk1 hFc hP1 hD1
  generalize H1 = H at hP hS ⊢
  have hP : va_P (dC, dI) vwCl [(h0, .inr (7, [.ref h1, .ref z0, .ref z1, .ref z2, .ref z3, .ref z4, .int 0, .int 0, .int 0])), (h1, .inl (k0, 4, .inr (.inr (.inr (.inr (va_up (va_up (va_up (va_up (fun _ => none) 0 (some h2)) 1 (some h4)) 2 (some h6)) 3 (some h8))))))), (h6, .inr (6, [.ref h7, .int 0])), (h7, .inl (k3, 64, .inl (fun _ => 0))), (h8, .inr (6, [.ref h9, .int 0])), (h9, .inl (k4, 64, .inl (fun _ => 0))), (h2, .inr (6, [.ref h3, .int 0])), (h3, .inl (k1, 64, .inl (fun _ => 0))), (h4, .inr (6, [.ref h5, .int 0])), (h5, .inl (k2, 64, .inl (fun _ => 0)))] H := hP
  have hD : va_D A [(h0, .inr (7, [.ref h1, .ref z0, .ref z1, .ref z2, .ref z3, .ref z4, .int 0, .int 0, .int 0])), (h1, .inl (k0, 4, .inr (.inr (.inr (.inr (va_up (va_up (va_up (va_up (fun _ => none) 0 (some h2)) 1 (some h4)) 2 (some h6)) 3 (some h8))))))), (h6, .inr (6, [.ref h7, .int 0])), (h7, .inl (k3, 64, .inl (fun _ => 0))), (h8, .inr (6, [.ref h9, .int 0])), (h9, .inl (k4, 64, .inl (fun _ => 0))), (h2, .inr (6, [.ref h3, .int 0])), (h3, .inl (k1, 64, .inl (fun _ => 0))), (h4, .inr (6, [.ref h5, .int 0])), (h5, .inl (k2, 64, .inl (fun _ => 0)))] := hD
  refine lv_aload_n hx hb dX3_copy_23 rfl (lv_at hl 0 rfl) ?_
  refine va_get (D := (dC, dI)) (ci := 7) (v := .ref h1) (C := RX3) (T := TX3) (N := 9) hx hb hts (by decide +kernel) hown hK hP 0 rfl rfl 0 (by decide) (hts (.fieldLink RX3 11 "Rewriterope" "ropes" "[LRewriterope$Text;") (by decide +kernel)) (fun _ h9 => h9) rfl dX3_copy_24 ?_
  refine lv_iload_n hx hb dX3_copy_27 rfl (lv_at hl 1 rfl) ?_
  refine va_aldq (D := (dC, dI)) hx hb hK hP 1 0 rfl rfl (by unfold vp_in; decide) dX3_copy_28 ?_
  refine W.eq (g2 := F0 m 29 ls [.ref h2]) rfl ?_
  refine va_get (D := (dC, dI)) (ci := 6) (v := .int 0) (C := RX2) (T := TX2) (N := 2) hx hb hts (by decide +kernel) hown hK hP 6 rfl rfl 1 (by decide) (hts (.fieldLink RX3 65 "Rewriterope$Text" "length" "I") (by decide +kernel)) (fun _ h9 => h9) rfl dX3_copy_29 ?_
  have hP := hP.sub (ws' := [(h0, .inr (7, [.ref h1, .ref z0, .ref z1, .ref z2, .ref z3, .ref z4, .int 0, .int 0, .int 0])), (h1, .inl (k0, 4, .inr (.inr (.inr (.inr (va_up (va_up (va_up (va_up (fun _ => none) 0 (some h2)) 1 (some h4)) 2 (some h6)) 3 (some h8))))))), (h2, .inr (6, [.ref h3, .int 0])), (h3, .inl (k1, 64, .inl (fun _ => 0))), (h4, .inr (6, [.ref h5, .int 0])), (h5, .inl (k2, 64, .inl (fun _ => 0))), (h6, .inr (6, [.ref h7, .int 0])), (h7, .inl (k3, 64, .inl (fun _ => 0))), (h8, .inr (6, [.ref h9, .int 0])), (h9, .inl (k4, 64, .inl (fun _ => 0)))]) [0, 1, 6, 7, 8, 9, 2, 3, 4, 5] rfl
  have hD := hD.sub (ws' := [(h0, .inr (7, [.ref h1, .ref z0, .ref z1, .ref z2, .ref z3, .ref z4, .int 0, .int 0, .int 0])), (h1, .inl (k0, 4, .inr (.inr (.inr (.inr (va_up (va_up (va_up (va_up (fun _ => none) 0 (some h2)) 1 (some h4)) 2 (some h6)) 3 (some h8))))))), (h2, .inr (6, [.ref h3, .int 0])), (h3, .inl (k1, 64, .inl (fun _ => 0))), (h4, .inr (6, [.ref h5, .int 0])), (h5, .inl (k2, 64, .inl (fun _ => 0))), (h6, .inr (6, [.ref h7, .int 0])), (h7, .inl (k3, 64, .inl (fun _ => 0))), (h8, .inr (6, [.ref h9, .int 0])), (h9, .inl (k4, 64, .inl (fun _ => 0)))]) [0, 1, 6, 7, 8, 9, 2, 3, 4, 5] (by decide) rfl
  exact W.iret (v := 0) hx hb hr (fun t ht hW => ⟨⟨0, (), rfl, rfl, by rw [ht]; exact hP, va_K.moved hW.alike hK, hD⟩, hS.F ht⟩) hS.2.2 dX3_copy_32
set_option maxHeartbeats 4000000 in
set_option maxRecDepth 100000 in
theorem kx_X3_copy_2 (l : Launch) (dC : Nat → ClassId) (dI : Nat → Nat → Nat) (h0 : Nat) (h1 : Nat) (h2 : Nat) (h3 : Nat) (h4 : Nat) (h5 : Nat) (h6 : Nat) (h7 : Nat) (h8 : Nat) (h9 : Nat) (z0 : Nat) (z1 : Nat) (z2 : Nat) (z3 : Nat) (z4 : Nat) (k0 : ClassId) (k1 : ClassId) (k2 : ClassId) (k3 : ClassId) (k4 : ClassId) (sz : Nat) : Met l yX3_copy wsX3_copy ({ frames := 2, cells := 0, slots := 0, locals := 81 }) (va_Pc [.ref h0, .int 0, .int 2] (fun U => U.heap.size = sz ∧ va_P (dC, dI) vwCl [(h0, .inr (7, [.ref h1, .ref z0, .ref z1, .ref z2, .ref z3, .ref z4, .int 0, .int 0, .int 0])), (h1, .inl (k0, 4, .inr (.inr (.inr (.inr (va_up (va_up (va_up (va_up (fun _ => none) 0 (some h2)) 1 (some h4)) 2 (some h6)) 3 (some h8))))))), (h2, .inr (6, [.ref h3, .int 0])), (h3, .inl (k1, 64, .inl (fun _ => 0))), (h4, .inr (6, [.ref h5, .int 0])), (h5, .inl (k2, 64, .inl (fun _ => 0))), (h6, .inr (6, [.ref h7, .int 0])), (h7, .inl (k3, 64, .inl (fun _ => 0))), (h8, .inr (6, [.ref h9, .int 0])), (h9, .inl (k4, 64, .inl (fun _ => 0)))] U.heap ∧ va_K (dC, dI) vwCl [(k0, .object "Rewriterope$Text"), (k1, .byte), (k2, .byte), (k3, .byte), (k4, .byte)] U ∧ va_D (fun _ => True) [(h0, .inr (7, [.ref h1, .ref z0, .ref z1, .ref z2, .ref z3, .ref z4, .int 0, .int 0, .int 0])), (h1, .inl (k0, 4, .inr (.inr (.inr (.inr (va_up (va_up (va_up (va_up (fun _ => none) 0 (some h2)) 1 (some h4)) 2 (some h6)) 3 (some h8))))))), (h2, .inr (6, [.ref h3, .int 0])), (h3, .inl (k1, 64, .inl (fun _ => 0))), (h4, .inr (6, [.ref h5, .int 0])), (h5, .inl (k2, 64, .inl (fun _ => 0))), (h6, .inr (6, [.ref h7, .int 0])), (h7, .inl (k3, 64, .inl (fun _ => 0))), (h8, .inr (6, [.ref h9, .int 0])), (h9, .inl (k4, 64, .inl (fun _ => 0)))])) (va_Qi (fun (r : Int32) (_ : Unit) => r = 0) (fun (_ : Unit) (t : State) => va_P (dC, dI) vwCl [(h0, .inr (7, [.ref h1, .ref z0, .ref z1, .ref z2, .ref z3, .ref z4, .int 0, .int 0, .int 0])), (h1, .inl (k0, 4, .inr (.inr (.inr (.inr (va_up (va_up (va_up (va_up (fun _ => none) 0 (some h2)) 1 (some h4)) 2 (some h6)) 3 (some h8))))))), (h2, .inr (6, [.ref h3, .int 0])), (h3, .inl (k1, 64, .inl (fun _ => 0))), (h4, .inr (6, [.ref h5, .int 0])), (h5, .inl (k2, 64, .inl (fun _ => 0))), (h6, .inr (6, [.ref h7, .int 0])), (h7, .inl (k3, 64, .inl (fun _ => 0))), (h8, .inr (6, [.ref h9, .int 0])), (h9, .inl (k4, 64, .inl (fun _ => 0)))] t.heap ∧ va_K (dC, dI) vwCl [(k0, .object "Rewriterope$Text"), (k1, .byte), (k2, .byte), (k3, .byte), (k4, .byte)] t ∧ va_D (va_A [(h0, .inr (7, [.ref h1, .ref z0, .ref z1, .ref z2, .ref z3, .ref z4, .int 0, .int 0, .int 0])), (h1, .inl (k0, 4, .inr (.inr (.inr (.inr (va_up (va_up (va_up (va_up (fun _ => none) 0 (some h2)) 1 (some h4)) 2 (some h6)) 3 (some h8))))))), (h2, .inr (6, [.ref h3, .int 0])), (h3, .inl (k1, 64, .inl (fun _ => 0))), (h4, .inr (6, [.ref h5, .int 0])), (h5, .inl (k2, 64, .inl (fun _ => 0))), (h6, .inr (6, [.ref h7, .int 0])), (h7, .inl (k3, 64, .inl (fun _ => 0))), (h8, .inr (6, [.ref h9, .int 0])), (h9, .inl (k4, 64, .inl (fun _ => 0)))] sz) [(h0, .inr (7, [.ref h1, .ref z0, .ref z1, .ref z2, .ref z3, .ref z4, .int 0, .int 0, .int 0])), (h1, .inl (k0, 4, .inr (.inr (.inr (.inr (va_up (va_up (va_up (va_up (fun _ => none) 0 (some h2)) 1 (some h4)) 2 (some h6)) 3 (some h8))))))), (h2, .inr (6, [.ref h3, .int 0])), (h3, .inl (k1, 64, .inl (fun _ => 0))), (h4, .inr (6, [.ref h5, .int 0])), (h5, .inl (k2, 64, .inl (fun _ => 0))), (h6, .inr (6, [.ref h7, .int 0])), (h7, .inl (k3, 64, .inl (fun _ => 0))), (h8, .inr (6, [.ref h9, .int 0])), (h9, .inl (k4, 64, .inl (fun _ => 0)))]) (va_A [(h0, .inr (7, [.ref h1, .ref z0, .ref z1, .ref z2, .ref z3, .ref z4, .int 0, .int 0, .int 0])), (h1, .inl (k0, 4, .inr (.inr (.inr (.inr (va_up (va_up (va_up (va_up (fun _ => none) 0 (some h2)) 1 (some h4)) 2 (some h6)) 3 (some h8))))))), (h2, .inr (6, [.ref h3, .int 0])), (h3, .inl (k1, 64, .inl (fun _ => 0))), (h4, .inr (6, [.ref h5, .int 0])), (h5, .inl (k2, 64, .inl (fun _ => 0))), (h6, .inr (6, [.ref h7, .int 0])), (h7, .inl (k3, 64, .inl (fun _ => 0))), (h8, .inr (6, [.ref h9, .int 0])), (h9, .inl (k4, 64, .inl (fun _ => 0)))] sz)) 0 0 (va_A [(h0, .inr (7, [.ref h1, .ref z0, .ref z1, .ref z2, .ref z3, .ref z4, .int 0, .int 0, .int 0])), (h1, .inl (k0, 4, .inr (.inr (.inr (.inr (va_up (va_up (va_up (va_up (fun _ => none) 0 (some h2)) 1 (some h4)) 2 (some h6)) 3 (some h8))))))), (h2, .inr (6, [.ref h3, .int 0])), (h3, .inl (k1, 64, .inl (fun _ => 0))), (h4, .inr (6, [.ref h5, .int 0])), (h5, .inl (k2, 64, .inl (fun _ => 0))), (h6, .inr (6, [.ref h7, .int 0])), (h7, .inl (k3, 64, .inl (fun _ => 0))), (h8, .inr (6, [.ref h9, .int 0])), (h9, .inl (k4, 64, .inl (fun _ => 0)))] sz) := by
  refine Met.ofW (cc := cX3_copy) (maxL := 3) (ret := (some .int)) (by decide) rfl ?_
  intro p e s m args below meth c s₁ B hml hv
  obtain ⟨rfl, hsz, hP, hK, hD0⟩ := hv
  have hx := B.exec
  have hb := B.bytes
  have hr := B.returns
  have hts := atoms_spec (ws := wsX3_copy) B.pre
  have hown : s.vm.findClass RX3 = some m.cls := findClass_of_methodNamed B.named
  have hlocks := B.notSynchronized
  subst hsz
  have hD := hD0.self (sz := s.heap.size)
  generalize hAe : va_A [(h0, .inr (7, [.ref h1, .ref z0, .ref z1, .ref z2, .ref z3, .ref z4, .int 0, .int 0, .int 0])), (h1, .inl (k0, 4, .inr (.inr (.inr (.inr (va_up (va_up (va_up (va_up (fun _ => none) 0 (some h2)) 1 (some h4)) 2 (some h6)) 3 (some h8))))))), (h2, .inr (6, [.ref h3, .int 0])), (h3, .inl (k1, 64, .inl (fun _ => 0))), (h4, .inr (6, [.ref h5, .int 0])), (h5, .inl (k2, 64, .inl (fun _ => 0))), (h6, .inr (6, [.ref h7, .int 0])), (h7, .inl (k3, 64, .inl (fun _ => 0))), (h8, .inr (6, [.ref h9, .int 0])), (h9, .inl (k4, 64, .inl (fun _ => 0)))] s.heap.size = A at hD ⊢
  have hA : ∀ q : Nat, s.heap.size ≤ q → A q := fun q h => by rw [← hAe]; exact Or.inr h
  have hS : va_S A s.heap s.heap [] := va_S.rf
  have hP : va_P (dC, dI) vwCl [(h0, .inr (7, [.ref h1, .ref z0, .ref z1, .ref z2, .ref z3, .ref z4, .int 0, .int 0, .int 0])), (h1, .inl (k0, 4, .inr (.inr (.inr (.inr (va_up (va_up (va_up (va_up (fun _ => none) 0 (some h2)) 1 (some h4)) 2 (some h6)) 3 (some h8))))))), (h2, .inr (6, [.ref h3, .int 0])), (h3, .inl (k1, 64, .inl (fun _ => 0))), (h4, .inr (6, [.ref h5, .int 0])), (h5, .inl (k2, 64, .inl (fun _ => 0))), (h6, .inr (6, [.ref h7, .int 0])), (h7, .inl (k3, 64, .inl (fun _ => 0))), (h8, .inr (6, [.ref h9, .int 0])), (h9, .inl (k4, 64, .inl (fun _ => 0)))] s.heap := hP
  have hl := lv_entry ([.ref h0, .int 0, .int 2]) (n := 3) (Nat.le_of_ble_eq_true rfl)
  rw [lg_entry_eq]
  generalize (lg_sl ([.ref h0, .int 0, .int 2]) ++ List.replicate (3 - (lg_sl ([.ref h0, .int 0, .int 2])).length) Slot.unset).toArray = ls at hl ⊢
  have hl : lv_has ls 3 [(0, .ref h0), (1, .int 0), (2, .int 2)] := hl
  refine lv_iload_n hx hb dX3_copy_0 rfl (lv_at hl 1 rfl) ?_
  have hPc := hP.sub (ws' := []) [] rfl
  have hDc := hD.sub (ws' := []) [] (by decide) rfl
  have hKc := hK.sub (tys' := []) [] rfl
  have hFc := va_free (wc := []) hD hS hA [] rfl
  refine va_callv (va_runS (As := [.int 0]) (rest := []) ⟨hx, hb, hml, hown, hts⟩ (kx_X3_needRope_0 l dC dI s.heap.size) (cwS 1 hts gX3_copy_X3_needRope rfl rfl rfl (by decide +kernel) ⟨Nat.le_of_ble_eq_true rfl, Nat.le_of_ble_eq_true rfl⟩) ⟨fun a U g mk q => by obtain ⟨q0, q1, qP, qK, qD⟩ := q; exact ⟨q0, q1, qP, va_K.moved (u := U) (U := U.calling g mk a) (Vm.Alike.refl U.vm) qK, qD⟩, fun U hU hW => ⟨rfl, by rw [hU], by rw [hU]; exact hPc, va_K.moved hW.alike hKc, hDc.weaken (fun _ _ _ _ => trivial)⟩⟩ rfl rfl hl.1 rfl (lv_room (Nat.le_of_ble_eq_true rfl)) dX3_copy_1 ⟨Nat.le_of_ble_eq_true rfl, Nat.le_of_ble_eq_true rfl⟩) hS (fun q _ h => hFc q h) hFc (fun u t H1 locs ht hvm hw hB hz1 hk1 hS => ?_)
  obtain ⟨hP1, hK1, hD1⟩ := hB
  rw [ht] at hP1
  have hK1 := va_K.moved hvm.symm hK1
  obtain ⟨hP, hD⟩ := va_join (wr := [(h0, .inr (7, [.ref h1, .ref z0, .ref z1, .ref z2, .ref z3, .ref z4, .int 0, .int 0, .int 0])), (h1, .inl (k0, 4, .inr (.inr (.inr (.inr (va_up (va_up (va_up (va_up (fun _ => none) 0 (some h2)) 1 (some h4)) 2 (some h6)) 3 (some h8))))))), (h2, .inr (6, [.ref h3, .int 0])), (h3, .inl (k1, 64, .inl (fun _ => 0))), (h4, .inr (6, [.ref h5, .int 0])), (h5, .inl (k2, 64, .inl (fun _ => 0))), (h6, .inr (6, [.ref h7, .int 0])), (h7, .inl (k3, 64, .inl (fun _ => 0))), (h8, .inr (6, [.ref h9, .int 0])), (h9, .inl (k4, 64, .inl (fun _ => 0)))]) (w1 := []) hP hD [] [0, 1, 2, 3, 4, 5, 6, 7, 8, 9] rfl rfl (by decide) (by decide) hk1 hFc hP1 hD1
  generalize H1 = H at hP hS ⊢
  have hP : va_P (dC, dI) vwCl [(h0, .inr (7, [.ref h1, .ref z0, .ref z1, .ref z2, .ref z3, .ref z4, .int 0, .int 0, .int 0])), (h1, .inl (k0, 4, .inr (.inr (.inr (.inr (va_up (va_up (va_up (va_up (fun _ => none) 0 (some h2)) 1 (some h4)) 2 (some h6)) 3 (some h8))))))), (h2, .inr (6, [.ref h3, .int 0])), (h3, .inl (k1, 64, .inl (fun _ => 0))), (h4, .inr (6, [.ref h5, .int 0])), (h5, .inl (k2, 64, .inl (fun _ => 0))), (h6, .inr (6, [.ref h7, .int 0])), (h7, .inl (k3, 64, .inl (fun _ => 0))), (h8, .inr (6, [.ref h9, .int 0])), (h9, .inl (k4, 64, .inl (fun _ => 0)))] H := hP
  have hD : va_D A [(h0, .inr (7, [.ref h1, .ref z0, .ref z1, .ref z2, .ref z3, .ref z4, .int 0, .int 0, .int 0])), (h1, .inl (k0, 4, .inr (.inr (.inr (.inr (va_up (va_up (va_up (va_up (fun _ => none) 0 (some h2)) 1 (some h4)) 2 (some h6)) 3 (some h8))))))), (h2, .inr (6, [.ref h3, .int 0])), (h3, .inl (k1, 64, .inl (fun _ => 0))), (h4, .inr (6, [.ref h5, .int 0])), (h5, .inl (k2, 64, .inl (fun _ => 0))), (h6, .inr (6, [.ref h7, .int 0])), (h7, .inl (k3, 64, .inl (fun _ => 0))), (h8, .inr (6, [.ref h9, .int 0])), (h9, .inl (k4, 64, .inl (fun _ => 0)))] := hD
  refine lv_iload_n hx hb dX3_copy_4 rfl (lv_at hl 2 rfl) ?_
  have hPc := hP.sub (ws' := []) [] rfl
  have hDc := hD.sub (ws' := []) [] (by decide) rfl
  have hKc := hK.sub (tys' := []) [] rfl
  have hFc := va_free (wc := []) hD hS hA [] rfl
  refine va_callv (va_runS (As := [.int 2]) (rest := []) ⟨hx, hb, hml, hown, hts⟩ (kx_X3_needRope_2 l dC dI H.size) (cwS 1 hts gX3_copy_X3_needRope rfl rfl rfl (by decide +kernel) ⟨Nat.le_of_ble_eq_true rfl, Nat.le_of_ble_eq_true rfl⟩) ⟨fun a U g mk q => by obtain ⟨q0, q1, qP, qK, qD⟩ := q; exact ⟨q0, q1, qP, va_K.moved (u := U) (U := U.calling g mk a) (Vm.Alike.refl U.vm) qK, qD⟩, fun U hU hW => ⟨rfl, by rw [hU], by rw [hU]; exact hPc, va_K.moved hW.alike hKc, hDc.weaken (fun _ _ _ _ => trivial)⟩⟩ rfl rfl hl.1 rfl (lv_room (Nat.le_of_ble_eq_true rfl)) dX3_copy_5 ⟨Nat.le_of_ble_eq_true rfl, Nat.le_of_ble_eq_true rfl⟩) hS (fun q _ h => hFc q h) hFc (fun u t H1 locs ht hvm hw hB hz1 hk1 hS => ?_)
  obtain ⟨hP1, hK1, hD1⟩ := hB
  rw [ht] at hP1
  have hK1 := va_K.moved hvm.symm hK1
  obtain ⟨hP, hD⟩ := va_join (wr := [(h0, .inr (7, [.ref h1, .ref z0, .ref z1, .ref z2, .ref z3, .ref z4, .int 0, .int 0, .int 0])), (h1, .inl (k0, 4, .inr (.inr (.inr (.inr (va_up (va_up (va_up (va_up (fun _ => none) 0 (some h2)) 1 (some h4)) 2 (some h6)) 3 (some h8))))))), (h2, .inr (6, [.ref h3, .int 0])), (h3, .inl (k1, 64, .inl (fun _ => 0))), (h4, .inr (6, [.ref h5, .int 0])), (h5, .inl (k2, 64, .inl (fun _ => 0))), (h6, .inr (6, [.ref h7, .int 0])), (h7, .inl (k3, 64, .inl (fun _ => 0))), (h8, .inr (6, [.ref h9, .int 0])), (h9, .inl (k4, 64, .inl (fun _ => 0)))]) (w1 := []) hP hD [] [0, 1, 2, 3, 4, 5, 6, 7, 8, 9] rfl rfl (by decide) (by decide) hk1 hFc hP1 hD1
  generalize H1 = H at hP hS ⊢
  have hP : va_P (dC, dI) vwCl [(h0, .inr (7, [.ref h1, .ref z0, .ref z1, .ref z2, .ref z3, .ref z4, .int 0, .int 0, .int 0])), (h1, .inl (k0, 4, .inr (.inr (.inr (.inr (va_up (va_up (va_up (va_up (fun _ => none) 0 (some h2)) 1 (some h4)) 2 (some h6)) 3 (some h8))))))), (h2, .inr (6, [.ref h3, .int 0])), (h3, .inl (k1, 64, .inl (fun _ => 0))), (h4, .inr (6, [.ref h5, .int 0])), (h5, .inl (k2, 64, .inl (fun _ => 0))), (h6, .inr (6, [.ref h7, .int 0])), (h7, .inl (k3, 64, .inl (fun _ => 0))), (h8, .inr (6, [.ref h9, .int 0])), (h9, .inl (k4, 64, .inl (fun _ => 0)))] H := hP
  have hD : va_D A [(h0, .inr (7, [.ref h1, .ref z0, .ref z1, .ref z2, .ref z3, .ref z4, .int 0, .int 0, .int 0])), (h1, .inl (k0, 4, .inr (.inr (.inr (.inr (va_up (va_up (va_up (va_up (fun _ => none) 0 (some h2)) 1 (some h4)) 2 (some h6)) 3 (some h8))))))), (h2, .inr (6, [.ref h3, .int 0])), (h3, .inl (k1, 64, .inl (fun _ => 0))), (h4, .inr (6, [.ref h5, .int 0])), (h5, .inl (k2, 64, .inl (fun _ => 0))), (h6, .inr (6, [.ref h7, .int 0])), (h7, .inl (k3, 64, .inl (fun _ => 0))), (h8, .inr (6, [.ref h9, .int 0])), (h9, .inl (k4, 64, .inl (fun _ => 0)))] := hD
  refine lv_aload_n hx hb dX3_copy_8 rfl (lv_at hl 0 rfl) ?_
  refine va_get (D := (dC, dI)) (ci := 7) (v := .ref h1) (C := RX3) (T := TX3) (N := 9) hx hb hts (by decide +kernel) hown hK hP 0 rfl rfl 0 (by decide) (hts (.fieldLink RX3 11 "Rewriterope" "ropes" "[LRewriterope$Text;") (by decide +kernel)) (fun _ h9 => h9) rfl dX3_copy_9 ?_
  refine lv_iload_n hx hb dX3_copy_12 rfl (lv_at hl 1 rfl) ?_
  refine va_aldq (D := (dC, dI)) hx hb hK hP 1 0 rfl rfl (by unfold vp_in; decide) dX3_copy_13 ?_
  refine W.eq (g2 := F0 m 14 ls [.ref h2]) rfl ?_
  refine lv_aload_n hx hb dX3_copy_14 rfl (lv_at hl 0 rfl) ?_
  refine va_get (D := (dC, dI)) (ci := 7) (v := .ref h1) (C := RX3) (T := TX3) (N := 9) hx hb hts (by decide +kernel) hown hK hP 0 rfl rfl 0 (by decide) (hts (.fieldLink RX3 11 "Rewriterope" "ropes" "[LRewriterope$Text;") (by decide +kernel)) (fun _ h9 => h9) rfl dX3_copy_15 ?_
  refine lv_iload_n hx hb dX3_copy_18 rfl (lv_at hl 2 rfl) ?_
  refine va_aldq (D := (dC, dI)) hx hb hK hP 1 0 rfl rfl (by unfold vp_in; decide) dX3_copy_19 ?_
  refine W.eq (g2 := F0 m 20 ls [.ref h6, .ref h2]) rfl ?_
  have hPc := hP.sub (ws' := [(h2, .inr (6, [.ref h3, .int 0])), (h3, .inl (k1, 64, .inl (fun _ => 0))), (h6, .inr (6, [.ref h7, .int 0])), (h7, .inl (k3, 64, .inl (fun _ => 0)))]) [2, 3, 6, 7] rfl
  have hDc := hD.sub (ws' := [(h2, .inr (6, [.ref h3, .int 0])), (h3, .inl (k1, 64, .inl (fun _ => 0))), (h6, .inr (6, [.ref h7, .int 0])), (h7, .inl (k3, 64, .inl (fun _ => 0)))]) [2, 3, 6, 7] (by decide) rfl
  have hKc := hK.sub (tys' := [(k1, .byte), (k3, .byte)]) [1, 3] rfl
  have hFc := va_free (wc := [(h2, .inr (6, [.ref h3, .int 0])), (h3, .inl (k1, 64, .inl (fun _ => 0))), (h6, .inr (6, [.ref h7, .int 0])), (h7, .inl (k3, 64, .inl (fun _ => 0)))]) hD hS hA [2, 3, 6, 7] rfl
  refine va_callv (va_runV (As := [.ref h6]) (rest := []) ⟨hx, hb, hml, hown, hts⟩ (kx_X2_become_1 l dC dI h2 h3 h6 h7 k1 k3 H.size) (cwV 1 hts gX3_copy_X2_become rfl rfl rfl (by decide +kernel) ⟨Nat.le_of_ble_eq_true rfl, Nat.le_of_ble_eq_true rfl⟩) ⟨fun a U g mk q => by obtain ⟨q0, q1, qP, qK, qD⟩ := q; exact ⟨q0, q1, qP, va_K.moved (u := U) (U := U.calling g mk a) (Vm.Alike.refl U.vm) qK, qD⟩, va_recv hKc hPc (ci := 6) (q0 := 0) rfl rfl, fun U hU hW => ⟨rfl, by rw [hU], by rw [hU]; exact hPc, va_K.moved hW.alike hKc, hDc.weaken (fun _ _ _ _ => trivial)⟩⟩ rfl rfl hl.1 rfl (lv_room (Nat.le_of_ble_eq_true rfl)) dX3_copy_20 ⟨Nat.le_of_ble_eq_true rfl, Nat.le_of_ble_eq_true rfl⟩) hS (fun q _ h => hFc q h) hFc (fun u t H1 locs ht hvm hw hB hz1 hk1 hS => ?_)
  obtain ⟨hP1, hK1, hD1⟩ := hB
  rw [ht] at hP1
  have hK1 := va_K.moved hvm.symm hK1
  obtain ⟨hP, hD⟩ := va_join (wr := [(h0, .inr (7, [.ref h1, .ref z0, .ref z1, .ref z2, .ref z3, .ref z4, .int 0, .int 0, .int 0])), (h1, .inl (k0, 4, .inr (.inr (.inr (.inr (va_up (va_up (va_up (va_up (fun _ => none) 0 (some h2)) 1 (some h4)) 2 (some h6)) 3 (some h8))))))), (h4, .inr (6, [.ref h5, .int 0])), (h5, .inl (k2, 64, .inl (fun _ => 0))), (h8, .inr (6, [.ref h9, .int 0])), (h9, .inl (k4, 64, .inl (fun _ => 0)))]) (w1 := [(h2, .inr (6, [.ref h3, .int 0])), (h3, .inl (k1, 64, .inl (fun _ => 0))), (h6, .inr (6, [.ref h7, .int 0])), (h7, .inl (k3, 64, .inl (fun _ => 0)))]) hP hD [2, 3, 6, 7] [0, 1, 4, 5, 8, 9] rfl rfl (by decide) (by decide) hk1 hFc hP1 hD1
  generalize H1 = H at hP hS ⊢
  have hP : va_P (dC, dI) vwCl [(h0, .inr (7, [.ref h1, .ref z0, .ref z1, .ref z2, .ref z3, .ref z4, .int 0, .int 0, .int 0])), (h1, .inl (k0, 4, .inr (.inr (.inr (.inr (va_up (va_up (va_up (va_up (fun _ => none) 0 (some h2)) 1 (some h4)) 2 (some h6)) 3 (some h8))))))), (h4, .inr (6, [.ref h5, .int 0])), (h5, .inl (k2, 64, .inl (fun _ => 0))), (h8, .inr (6, [.ref h9, .int 0])), (h9, .inl (k4, 64, .inl (fun _ => 0))), (h2, .inr (6, [.ref h3, .int 0])), (h3, .inl (k1, 64, .inl (fun _ => 0))), (h6, .inr (6, [.ref h7, .int 0])), (h7, .inl (k3, 64, .inl (fun _ => 0)))] H := hP
  have hD : va_D A [(h0, .inr (7, [.ref h1, .ref z0, .ref z1, .ref z2, .ref z3, .ref z4, .int 0, .int 0, .int 0])), (h1, .inl (k0, 4, .inr (.inr (.inr (.inr (va_up (va_up (va_up (va_up (fun _ => none) 0 (some h2)) 1 (some h4)) 2 (some h6)) 3 (some h8))))))), (h4, .inr (6, [.ref h5, .int 0])), (h5, .inl (k2, 64, .inl (fun _ => 0))), (h8, .inr (6, [.ref h9, .int 0])), (h9, .inl (k4, 64, .inl (fun _ => 0))), (h2, .inr (6, [.ref h3, .int 0])), (h3, .inl (k1, 64, .inl (fun _ => 0))), (h6, .inr (6, [.ref h7, .int 0])), (h7, .inl (k3, 64, .inl (fun _ => 0)))] := hD
  refine lv_aload_n hx hb dX3_copy_23 rfl (lv_at hl 0 rfl) ?_
  refine va_get (D := (dC, dI)) (ci := 7) (v := .ref h1) (C := RX3) (T := TX3) (N := 9) hx hb hts (by decide +kernel) hown hK hP 0 rfl rfl 0 (by decide) (hts (.fieldLink RX3 11 "Rewriterope" "ropes" "[LRewriterope$Text;") (by decide +kernel)) (fun _ h9 => h9) rfl dX3_copy_24 ?_
  refine lv_iload_n hx hb dX3_copy_27 rfl (lv_at hl 1 rfl) ?_
  refine va_aldq (D := (dC, dI)) hx hb hK hP 1 0 rfl rfl (by unfold vp_in; decide) dX3_copy_28 ?_
  refine W.eq (g2 := F0 m 29 ls [.ref h2]) rfl ?_
  refine va_get (D := (dC, dI)) (ci := 6) (v := .int 0) (C := RX2) (T := TX2) (N := 2) hx hb hts (by decide +kernel) hown hK hP 6 rfl rfl 1 (by decide) (hts (.fieldLink RX3 65 "Rewriterope$Text" "length" "I") (by decide +kernel)) (fun _ h9 => h9) rfl dX3_copy_29 ?_
  have hP := hP.sub (ws' := [(h0, .inr (7, [.ref h1, .ref z0, .ref z1, .ref z2, .ref z3, .ref z4, .int 0, .int 0, .int 0])), (h1, .inl (k0, 4, .inr (.inr (.inr (.inr (va_up (va_up (va_up (va_up (fun _ => none) 0 (some h2)) 1 (some h4)) 2 (some h6)) 3 (some h8))))))), (h2, .inr (6, [.ref h3, .int 0])), (h3, .inl (k1, 64, .inl (fun _ => 0))), (h4, .inr (6, [.ref h5, .int 0])), (h5, .inl (k2, 64, .inl (fun _ => 0))), (h6, .inr (6, [.ref h7, .int 0])), (h7, .inl (k3, 64, .inl (fun _ => 0))), (h8, .inr (6, [.ref h9, .int 0])), (h9, .inl (k4, 64, .inl (fun _ => 0)))]) [0, 1, 6, 7, 2, 3, 8, 9, 4, 5] rfl
  have hD := hD.sub (ws' := [(h0, .inr (7, [.ref h1, .ref z0, .ref z1, .ref z2, .ref z3, .ref z4, .int 0, .int 0, .int 0])), (h1, .inl (k0, 4, .inr (.inr (.inr (.inr (va_up (va_up (va_up (va_up (fun _ => none) 0 (some h2)) 1 (some h4)) 2 (some h6)) 3 (some h8))))))), (h2, .inr (6, [.ref h3, .int 0])), (h3, .inl (k1, 64, .inl (fun _ => 0))), (h4, .inr (6, [.ref h5, .int 0])), (h5, .inl (k2, 64, .inl (fun _ => 0))), (h6, .inr (6, [.ref h7, .int 0])), (h7, .inl (k3, 64, .inl (fun _ => 0))), (h8, .inr (6, [.ref h9, .int 0])), (h9, .inl (k4, 64, .inl (fun _ => 0)))]) [0, 1, 6, 7, 2, 3, 8, 9, 4, 5] (by decide) rfl
  exact W.iret (v := 0) hx hb hr (fun t ht hW => ⟨⟨0, (), rfl, rfl, by rw [ht]; exact hP, va_K.moved hW.alike hK, hD⟩, hS.F ht⟩) hS.2.2 dX3_copy_32
set_option maxHeartbeats 4000000 in
set_option maxRecDepth 100000 in
theorem kx_X3_copy_3 (l : Launch) (dC : Nat → ClassId) (dI : Nat → Nat → Nat) (h0 : Nat) (h1 : Nat) (h2 : Nat) (h3 : Nat) (h4 : Nat) (h5 : Nat) (h6 : Nat) (h7 : Nat) (h8 : Nat) (h9 : Nat) (z0 : Nat) (z1 : Nat) (z2 : Nat) (z3 : Nat) (z4 : Nat) (k0 : ClassId) (k1 : ClassId) (k2 : ClassId) (k3 : ClassId) (k4 : ClassId) (sz : Nat) : Met l yX3_copy wsX3_copy ({ frames := 2, cells := 0, slots := 0, locals := 81 }) (va_Pc [.ref h0, .int 0, .int 3] (fun U => U.heap.size = sz ∧ va_P (dC, dI) vwCl [(h0, .inr (7, [.ref h1, .ref z0, .ref z1, .ref z2, .ref z3, .ref z4, .int 0, .int 0, .int 0])), (h1, .inl (k0, 4, .inr (.inr (.inr (.inr (va_up (va_up (va_up (va_up (fun _ => none) 0 (some h2)) 1 (some h4)) 2 (some h6)) 3 (some h8))))))), (h2, .inr (6, [.ref h3, .int 0])), (h3, .inl (k1, 64, .inl (fun _ => 0))), (h4, .inr (6, [.ref h5, .int 0])), (h5, .inl (k2, 64, .inl (fun _ => 0))), (h6, .inr (6, [.ref h7, .int 0])), (h7, .inl (k3, 64, .inl (fun _ => 0))), (h8, .inr (6, [.ref h9, .int 0])), (h9, .inl (k4, 64, .inl (fun _ => 0)))] U.heap ∧ va_K (dC, dI) vwCl [(k0, .object "Rewriterope$Text"), (k1, .byte), (k2, .byte), (k3, .byte), (k4, .byte)] U ∧ va_D (fun _ => True) [(h0, .inr (7, [.ref h1, .ref z0, .ref z1, .ref z2, .ref z3, .ref z4, .int 0, .int 0, .int 0])), (h1, .inl (k0, 4, .inr (.inr (.inr (.inr (va_up (va_up (va_up (va_up (fun _ => none) 0 (some h2)) 1 (some h4)) 2 (some h6)) 3 (some h8))))))), (h2, .inr (6, [.ref h3, .int 0])), (h3, .inl (k1, 64, .inl (fun _ => 0))), (h4, .inr (6, [.ref h5, .int 0])), (h5, .inl (k2, 64, .inl (fun _ => 0))), (h6, .inr (6, [.ref h7, .int 0])), (h7, .inl (k3, 64, .inl (fun _ => 0))), (h8, .inr (6, [.ref h9, .int 0])), (h9, .inl (k4, 64, .inl (fun _ => 0)))])) (va_Qi (fun (r : Int32) (_ : Unit) => r = 0) (fun (_ : Unit) (t : State) => va_P (dC, dI) vwCl [(h0, .inr (7, [.ref h1, .ref z0, .ref z1, .ref z2, .ref z3, .ref z4, .int 0, .int 0, .int 0])), (h1, .inl (k0, 4, .inr (.inr (.inr (.inr (va_up (va_up (va_up (va_up (fun _ => none) 0 (some h2)) 1 (some h4)) 2 (some h6)) 3 (some h8))))))), (h2, .inr (6, [.ref h3, .int 0])), (h3, .inl (k1, 64, .inl (fun _ => 0))), (h4, .inr (6, [.ref h5, .int 0])), (h5, .inl (k2, 64, .inl (fun _ => 0))), (h6, .inr (6, [.ref h7, .int 0])), (h7, .inl (k3, 64, .inl (fun _ => 0))), (h8, .inr (6, [.ref h9, .int 0])), (h9, .inl (k4, 64, .inl (fun _ => 0)))] t.heap ∧ va_K (dC, dI) vwCl [(k0, .object "Rewriterope$Text"), (k1, .byte), (k2, .byte), (k3, .byte), (k4, .byte)] t ∧ va_D (va_A [(h0, .inr (7, [.ref h1, .ref z0, .ref z1, .ref z2, .ref z3, .ref z4, .int 0, .int 0, .int 0])), (h1, .inl (k0, 4, .inr (.inr (.inr (.inr (va_up (va_up (va_up (va_up (fun _ => none) 0 (some h2)) 1 (some h4)) 2 (some h6)) 3 (some h8))))))), (h2, .inr (6, [.ref h3, .int 0])), (h3, .inl (k1, 64, .inl (fun _ => 0))), (h4, .inr (6, [.ref h5, .int 0])), (h5, .inl (k2, 64, .inl (fun _ => 0))), (h6, .inr (6, [.ref h7, .int 0])), (h7, .inl (k3, 64, .inl (fun _ => 0))), (h8, .inr (6, [.ref h9, .int 0])), (h9, .inl (k4, 64, .inl (fun _ => 0)))] sz) [(h0, .inr (7, [.ref h1, .ref z0, .ref z1, .ref z2, .ref z3, .ref z4, .int 0, .int 0, .int 0])), (h1, .inl (k0, 4, .inr (.inr (.inr (.inr (va_up (va_up (va_up (va_up (fun _ => none) 0 (some h2)) 1 (some h4)) 2 (some h6)) 3 (some h8))))))), (h2, .inr (6, [.ref h3, .int 0])), (h3, .inl (k1, 64, .inl (fun _ => 0))), (h4, .inr (6, [.ref h5, .int 0])), (h5, .inl (k2, 64, .inl (fun _ => 0))), (h6, .inr (6, [.ref h7, .int 0])), (h7, .inl (k3, 64, .inl (fun _ => 0))), (h8, .inr (6, [.ref h9, .int 0])), (h9, .inl (k4, 64, .inl (fun _ => 0)))]) (va_A [(h0, .inr (7, [.ref h1, .ref z0, .ref z1, .ref z2, .ref z3, .ref z4, .int 0, .int 0, .int 0])), (h1, .inl (k0, 4, .inr (.inr (.inr (.inr (va_up (va_up (va_up (va_up (fun _ => none) 0 (some h2)) 1 (some h4)) 2 (some h6)) 3 (some h8))))))), (h2, .inr (6, [.ref h3, .int 0])), (h3, .inl (k1, 64, .inl (fun _ => 0))), (h4, .inr (6, [.ref h5, .int 0])), (h5, .inl (k2, 64, .inl (fun _ => 0))), (h6, .inr (6, [.ref h7, .int 0])), (h7, .inl (k3, 64, .inl (fun _ => 0))), (h8, .inr (6, [.ref h9, .int 0])), (h9, .inl (k4, 64, .inl (fun _ => 0)))] sz)) 0 0 (va_A [(h0, .inr (7, [.ref h1, .ref z0, .ref z1, .ref z2, .ref z3, .ref z4, .int 0, .int 0, .int 0])), (h1, .inl (k0, 4, .inr (.inr (.inr (.inr (va_up (va_up (va_up (va_up (fun _ => none) 0 (some h2)) 1 (some h4)) 2 (some h6)) 3 (some h8))))))), (h2, .inr (6, [.ref h3, .int 0])), (h3, .inl (k1, 64, .inl (fun _ => 0))), (h4, .inr (6, [.ref h5, .int 0])), (h5, .inl (k2, 64, .inl (fun _ => 0))), (h6, .inr (6, [.ref h7, .int 0])), (h7, .inl (k3, 64, .inl (fun _ => 0))), (h8, .inr (6, [.ref h9, .int 0])), (h9, .inl (k4, 64, .inl (fun _ => 0)))] sz) := by
  refine Met.ofW (cc := cX3_copy) (maxL := 3) (ret := (some .int)) (by decide) rfl ?_
  intro p e s m args below meth c s₁ B hml hv
  obtain ⟨rfl, hsz, hP, hK, hD0⟩ := hv
  have hx := B.exec
  have hb := B.bytes
  have hr := B.returns
  have hts := atoms_spec (ws := wsX3_copy) B.pre
  have hown : s.vm.findClass RX3 = some m.cls := findClass_of_methodNamed B.named
  have hlocks := B.notSynchronized
  subst hsz
  have hD := hD0.self (sz := s.heap.size)
  generalize hAe : va_A [(h0, .inr (7, [.ref h1, .ref z0, .ref z1, .ref z2, .ref z3, .ref z4, .int 0, .int 0, .int 0])), (h1, .inl (k0, 4, .inr (.inr (.inr (.inr (va_up (va_up (va_up (va_up (fun _ => none) 0 (some h2)) 1 (some h4)) 2 (some h6)) 3 (some h8))))))), (h2, .inr (6, [.ref h3, .int 0])), (h3, .inl (k1, 64, .inl (fun _ => 0))), (h4, .inr (6, [.ref h5, .int 0])), (h5, .inl (k2, 64, .inl (fun _ => 0))), (h6, .inr (6, [.ref h7, .int 0])), (h7, .inl (k3, 64, .inl (fun _ => 0))), (h8, .inr (6, [.ref h9, .int 0])), (h9, .inl (k4, 64, .inl (fun _ => 0)))] s.heap.size = A at hD ⊢
  have hA : ∀ q : Nat, s.heap.size ≤ q → A q := fun q h => by rw [← hAe]; exact Or.inr h
  have hS : va_S A s.heap s.heap [] := va_S.rf
  have hP : va_P (dC, dI) vwCl [(h0, .inr (7, [.ref h1, .ref z0, .ref z1, .ref z2, .ref z3, .ref z4, .int 0, .int 0, .int 0])), (h1, .inl (k0, 4, .inr (.inr (.inr (.inr (va_up (va_up (va_up (va_up (fun _ => none) 0 (some h2)) 1 (some h4)) 2 (some h6)) 3 (some h8))))))), (h2, .inr (6, [.ref h3, .int 0])), (h3, .inl (k1, 64, .inl (fun _ => 0))), (h4, .inr (6, [.ref h5, .int 0])), (h5, .inl (k2, 64, .inl (fun _ => 0))), (h6, .inr (6, [.ref h7, .int 0])), (h7, .inl (k3, 64, .inl (fun _ => 0))), (h8, .inr (6, [.ref h9, .int 0])), (h9, .inl (k4, 64, .inl (fun _ => 0)))] s.heap := hP
  have hl := lv_entry ([.ref h0, .int 0, .int 3]) (n := 3) (Nat.le_of_ble_eq_true rfl)
  rw [lg_entry_eq]
  generalize (lg_sl ([.ref h0, .int 0, .int 3]) ++ List.replicate (3 - (lg_sl ([.ref h0, .int 0, .int 3])).length) Slot.unset).toArray = ls at hl ⊢
  have hl : lv_has ls 3 [(0, .ref h0), (1, .int 0), (2, .int 3)] := hl
  refine lv_iload_n hx hb dX3_copy_0 rfl (lv_at hl 1 rfl) ?_
  have hPc := hP.sub (ws' := []) [] rfl
  have hDc := hD.sub (ws' := []) [] (by decide) rfl
  have hKc := hK.sub (tys' := []) [] rfl
  have hFc := va_free (wc := []) hD hS hA [] rfl
  refine va_callv (va_runS (As := [.int 0]) (rest := []) ⟨hx, hb, hml, hown, hts⟩ (kx_X3_needRope_0 l dC dI s.heap.size) (cwS 1 hts gX3_copy_X3_needRope rfl rfl rfl (by decide +kernel) ⟨Nat.le_of_ble_eq_true rfl, Nat.le_of_ble_eq_true rfl⟩) ⟨fun a U g mk q => by obtain ⟨q0, q1, qP, qK, qD⟩ := q; exact ⟨q0, q1, qP, va_K.moved (u := U) (U := U.calling g mk a) (Vm.Alike.refl U.vm) qK, qD⟩, fun U hU hW => ⟨rfl, by rw [hU], by rw [hU]; exact hPc, va_K.moved hW.alike hKc, hDc.weaken (fun _ _ _ _ => trivial)⟩⟩ rfl rfl hl.1 rfl (lv_room (Nat.le_of_ble_eq_true rfl)) dX3_copy_1 ⟨Nat.le_of_ble_eq_true rfl, Nat.le_of_ble_eq_true rfl⟩) hS (fun q _ h => hFc q h) hFc (fun u t H1 locs ht hvm hw hB hz1 hk1 hS => ?_)
  obtain ⟨hP1, hK1, hD1⟩ := hB
  rw [ht] at hP1
  have hK1 := va_K.moved hvm.symm hK1
  obtain ⟨hP, hD⟩ := va_join (wr := [(h0, .inr (7, [.ref h1, .ref z0, .ref z1, .ref z2, .ref z3, .ref z4, .int 0, .int 0, .int 0])), (h1, .inl (k0, 4, .inr (.inr (.inr (.inr (va_up (va_up (va_up (va_up (fun _ => none) 0 (some h2)) 1 (some h4)) 2 (some h6)) 3 (some h8))))))), (h2, .inr (6, [.ref h3, .int 0])), (h3, .inl (k1, 64, .inl (fun _ => 0))), (h4, .inr (6, [.ref h5, .int 0])), (h5, .inl (k2, 64, .inl (fun _ => 0))), (h6, .inr (6, [.ref h7, .int 0])), (h7, .inl (k3, 64, .inl (fun _ => 0))), (h8, .inr (6, [.ref h9, .int 0])), (h9, .inl (k4, 64, .inl (fun _ => 0)))]) (w1 := []) hP hD [] [0, 1, 2, 3, 4, 5, 6, 7, 8, 9] rfl rfl (by decide) (by decide) hk1 hFc hP1 hD1
  generalize H1 = H at hP hS ⊢
  have hP : va_P (dC, dI) vwCl [(h0, .inr (7, [.ref h1, .ref z0, .ref z1, .ref z2, .ref z3, .ref z4, .int 0, .int 0, .int 0])), (h1, .inl (k0, 4, .inr (.inr (.inr (.inr (va_up (va_up (va_up (va_up (fun _ => none) 0 (some h2)) 1 (some h4)) 2 (some h6)) 3 (some h8))))))), (h2, .inr (6, [.ref h3, .int 0])), (h3, .inl (k1, 64, .inl (fun _ => 0))), (h4, .inr (6, [.ref h5, .int 0])), (h5, .inl (k2, 64, .inl (fun _ => 0))), (h6, .inr (6, [.ref h7, .int 0])), (h7, .inl (k3, 64, .inl (fun _ => 0))), (h8, .inr (6, [.ref h9, .int 0])), (h9, .inl (k4, 64, .inl (fun _ => 0)))] H := hP
  have hD : va_D A [(h0, .inr (7, [.ref h1, .ref z0, .ref z1, .ref z2, .ref z3, .ref z4, .int 0, .int 0, .int 0])), (h1, .inl (k0, 4, .inr (.inr (.inr (.inr (va_up (va_up (va_up (va_up (fun _ => none) 0 (some h2)) 1 (some h4)) 2 (some h6)) 3 (some h8))))))), (h2, .inr (6, [.ref h3, .int 0])), (h3, .inl (k1, 64, .inl (fun _ => 0))), (h4, .inr (6, [.ref h5, .int 0])), (h5, .inl (k2, 64, .inl (fun _ => 0))), (h6, .inr (6, [.ref h7, .int 0])), (h7, .inl (k3, 64, .inl (fun _ => 0))), (h8, .inr (6, [.ref h9, .int 0])), (h9, .inl (k4, 64, .inl (fun _ => 0)))] := hD
  refine lv_iload_n hx hb dX3_copy_4 rfl (lv_at hl 2 rfl) ?_
  have hPc := hP.sub (ws' := []) [] rfl
  have hDc := hD.sub (ws' := []) [] (by decide) rfl
  have hKc := hK.sub (tys' := []) [] rfl
  have hFc := va_free (wc := []) hD hS hA [] rfl
  refine va_callv (va_runS (As := [.int 3]) (rest := []) ⟨hx, hb, hml, hown, hts⟩ (kx_X3_needRope_3 l dC dI H.size) (cwS 1 hts gX3_copy_X3_needRope rfl rfl rfl (by decide +kernel) ⟨Nat.le_of_ble_eq_true rfl, Nat.le_of_ble_eq_true rfl⟩) ⟨fun a U g mk q => by obtain ⟨q0, q1, qP, qK, qD⟩ := q; exact ⟨q0, q1, qP, va_K.moved (u := U) (U := U.calling g mk a) (Vm.Alike.refl U.vm) qK, qD⟩, fun U hU hW => ⟨rfl, by rw [hU], by rw [hU]; exact hPc, va_K.moved hW.alike hKc, hDc.weaken (fun _ _ _ _ => trivial)⟩⟩ rfl rfl hl.1 rfl (lv_room (Nat.le_of_ble_eq_true rfl)) dX3_copy_5 ⟨Nat.le_of_ble_eq_true rfl, Nat.le_of_ble_eq_true rfl⟩) hS (fun q _ h => hFc q h) hFc (fun u t H1 locs ht hvm hw hB hz1 hk1 hS => ?_)
  obtain ⟨hP1, hK1, hD1⟩ := hB
  rw [ht] at hP1
  have hK1 := va_K.moved hvm.symm hK1
  obtain ⟨hP, hD⟩ := va_join (wr := [(h0, .inr (7, [.ref h1, .ref z0, .ref z1, .ref z2, .ref z3, .ref z4, .int 0, .int 0, .int 0])), (h1, .inl (k0, 4, .inr (.inr (.inr (.inr (va_up (va_up (va_up (va_up (fun _ => none) 0 (some h2)) 1 (some h4)) 2 (some h6)) 3 (some h8))))))), (h2, .inr (6, [.ref h3, .int 0])), (h3, .inl (k1, 64, .inl (fun _ => 0))), (h4, .inr (6, [.ref h5, .int 0])), (h5, .inl (k2, 64, .inl (fun _ => 0))), (h6, .inr (6, [.ref h7, .int 0])), (h7, .inl (k3, 64, .inl (fun _ => 0))), (h8, .inr (6, [.ref h9, .int 0])), (h9, .inl (k4, 64, .inl (fun _ => 0)))]) (w1 := []) hP hD [] [0, 1, 2, 3, 4, 5, 6, 7, 8, 9] rfl rfl (by decide) (by decide) hk1 hFc hP1 hD1
  generalize H1 = H at hP hS ⊢
  have hP : va_P (dC, dI) vwCl [(h0, .inr (7, [.ref h1, .ref z0, .ref z1, .ref z2, .ref z3, .ref z4, .int 0, .int 0, .int 0])), (h1, .inl (k0, 4, .inr (.inr (.inr (.inr (va_up (va_up (va_up (va_up (fun _ => none) 0 (some h2)) 1 (some h4)) 2 (some h6)) 3 (some h8))))))), (h2, .inr (6, [.ref h3, .int 0])), (h3, .inl (k1, 64, .inl (fun _ => 0))), (h4, .inr (6, [.ref h5, .int 0])), (h5, .inl (k2, 64, .inl (fun _ => 0))), (h6, .inr (6, [.ref h7, .int 0])), (h7, .inl (k3, 64, .inl (fun _ => 0))), (h8, .inr (6, [.ref h9, .int 0])), (h9, .inl (k4, 64, .inl (fun _ => 0)))] H := hP
  have hD : va_D A [(h0, .inr (7, [.ref h1, .ref z0, .ref z1, .ref z2, .ref z3, .ref z4, .int 0, .int 0, .int 0])), (h1, .inl (k0, 4, .inr (.inr (.inr (.inr (va_up (va_up (va_up (va_up (fun _ => none) 0 (some h2)) 1 (some h4)) 2 (some h6)) 3 (some h8))))))), (h2, .inr (6, [.ref h3, .int 0])), (h3, .inl (k1, 64, .inl (fun _ => 0))), (h4, .inr (6, [.ref h5, .int 0])), (h5, .inl (k2, 64, .inl (fun _ => 0))), (h6, .inr (6, [.ref h7, .int 0])), (h7, .inl (k3, 64, .inl (fun _ => 0))), (h8, .inr (6, [.ref h9, .int 0])), (h9, .inl (k4, 64, .inl (fun _ => 0)))] := hD
  refine lv_aload_n hx hb dX3_copy_8 rfl (lv_at hl 0 rfl) ?_
  refine va_get (D := (dC, dI)) (ci := 7) (v := .ref h1) (C := RX3) (T := TX3) (N := 9) hx hb hts (by decide +kernel) hown hK hP 0 rfl rfl 0 (by decide) (hts (.fieldLink RX3 11 "Rewriterope" "ropes" "[LRewriterope$Text;") (by decide +kernel)) (fun _ h9 => h9) rfl dX3_copy_9 ?_
  refine lv_iload_n hx hb dX3_copy_12 rfl (lv_at hl 1 rfl) ?_
  refine va_aldq (D := (dC, dI)) hx hb hK hP 1 0 rfl rfl (by unfold vp_in; decide) dX3_copy_13 ?_
  refine W.eq (g2 := F0 m 14 ls [.ref h2]) rfl ?_
  refine lv_aload_n hx hb dX3_copy_14 rfl (lv_at hl 0 rfl) ?_
  refine va_get (D := (dC, dI)) (ci := 7) (v := .ref h1) (C := RX3) (T := TX3) (N := 9) hx hb hts (by decide +kernel) hown hK hP 0 rfl rfl 0 (by decide) (hts (.fieldLink RX3 11 "Rewriterope" "ropes" "[LRewriterope$Text;") (by decide +kernel)) (fun _ h9 => h9) rfl dX3_copy_15 ?_
  refine lv_iload_n hx hb dX3_copy_18 rfl (lv_at hl 2 rfl) ?_
  refine va_aldq (D := (dC, dI)) hx hb hK hP 1 0 rfl rfl (by unfold vp_in; decide) dX3_copy_19 ?_
  refine W.eq (g2 := F0 m 20 ls [.ref h8, .ref h2]) rfl ?_
  have hPc := hP.sub (ws' := [(h2, .inr (6, [.ref h3, .int 0])), (h3, .inl (k1, 64, .inl (fun _ => 0))), (h8, .inr (6, [.ref h9, .int 0])), (h9, .inl (k4, 64, .inl (fun _ => 0)))]) [2, 3, 8, 9] rfl
  have hDc := hD.sub (ws' := [(h2, .inr (6, [.ref h3, .int 0])), (h3, .inl (k1, 64, .inl (fun _ => 0))), (h8, .inr (6, [.ref h9, .int 0])), (h9, .inl (k4, 64, .inl (fun _ => 0)))]) [2, 3, 8, 9] (by decide) rfl
  have hKc := hK.sub (tys' := [(k1, .byte), (k4, .byte)]) [1, 4] rfl
  have hFc := va_free (wc := [(h2, .inr (6, [.ref h3, .int 0])), (h3, .inl (k1, 64, .inl (fun _ => 0))), (h8, .inr (6, [.ref h9, .int 0])), (h9, .inl (k4, 64, .inl (fun _ => 0)))]) hD hS hA [2, 3, 8, 9] rfl
  refine va_callv (va_runV (As := [.ref h8]) (rest := []) ⟨hx, hb, hml, hown, hts⟩ (kx_X2_become_1 l dC dI h2 h3 h8 h9 k1 k4 H.size) (cwV 1 hts gX3_copy_X2_become rfl rfl rfl (by decide +kernel) ⟨Nat.le_of_ble_eq_true rfl, Nat.le_of_ble_eq_true rfl⟩) ⟨fun a U g mk q => by obtain ⟨q0, q1, qP, qK, qD⟩ := q; exact ⟨q0, q1, qP, va_K.moved (u := U) (U := U.calling g mk a) (Vm.Alike.refl U.vm) qK, qD⟩, va_recv hKc hPc (ci := 6) (q0 := 0) rfl rfl, fun U hU hW => ⟨rfl, by rw [hU], by rw [hU]; exact hPc, va_K.moved hW.alike hKc, hDc.weaken (fun _ _ _ _ => trivial)⟩⟩ rfl rfl hl.1 rfl (lv_room (Nat.le_of_ble_eq_true rfl)) dX3_copy_20 ⟨Nat.le_of_ble_eq_true rfl, Nat.le_of_ble_eq_true rfl⟩) hS (fun q _ h => hFc q h) hFc (fun u t H1 locs ht hvm hw hB hz1 hk1 hS => ?_)
  obtain ⟨hP1, hK1, hD1⟩ := hB
  rw [ht] at hP1
  have hK1 := va_K.moved hvm.symm hK1
  obtain ⟨hP, hD⟩ := va_join (wr := [(h0, .inr (7, [.ref h1, .ref z0, .ref z1, .ref z2, .ref z3, .ref z4, .int 0, .int 0, .int 0])), (h1, .inl (k0, 4, .inr (.inr (.inr (.inr (va_up (va_up (va_up (va_up (fun _ => none) 0 (some h2)) 1 (some h4)) 2 (some h6)) 3 (some h8))))))), (h4, .inr (6, [.ref h5, .int 0])), (h5, .inl (k2, 64, .inl (fun _ => 0))), (h6, .inr (6, [.ref h7, .int 0])), (h7, .inl (k3, 64, .inl (fun _ => 0)))]) (w1 := [(h2, .inr (6, [.ref h3, .int 0])), (h3, .inl (k1, 64, .inl (fun _ => 0))), (h8, .inr (6, [.ref h9, .int 0])), (h9, .inl (k4, 64, .inl (fun _ => 0)))]) hP hD [2, 3, 8, 9] [0, 1, 4, 5, 6, 7] rfl rfl (by decide) (by decide) hk1 hFc hP1 hD1
  generalize H1 = H at hP hS ⊢
  have hP : va_P (dC, dI) vwCl [(h0, .inr (7, [.ref h1, .ref z0, .ref z1, .ref z2, .ref z3, .ref z4, .int 0, .int 0, .int 0])), (h1, .inl (k0, 4, .inr (.inr (.inr (.inr (va_up (va_up (va_up (va_up (fun _ => none) 0 (some h2)) 1 (some h4)) 2 (some h6)) 3 (some h8))))))), (h4, .inr (6, [.ref h5, .int 0])), (h5, .inl (k2, 64, .inl (fun _ => 0))), (h6, .inr (6, [.ref h7, .int 0])), (h7, .inl (k3, 64, .inl (fun _ => 0))), (h2, .inr (6, [.ref h3, .int 0])), (h3, .inl (k1, 64, .inl (fun _ => 0))), (h8, .inr (6, [.ref h9, .int 0])), (h9, .inl (k4, 64, .inl (fun _ => 0)))] H := hP
  have hD : va_D A [(h0, .inr (7, [.ref h1, .ref z0, .ref z1, .ref z2, .ref z3, .ref z4, .int 0, .int 0, .int 0])), (h1, .inl (k0, 4, .inr (.inr (.inr (.inr (va_up (va_up (va_up (va_up (fun _ => none) 0 (some h2)) 1 (some h4)) 2 (some h6)) 3 (some h8))))))), (h4, .inr (6, [.ref h5, .int 0])), (h5, .inl (k2, 64, .inl (fun _ => 0))), (h6, .inr (6, [.ref h7, .int 0])), (h7, .inl (k3, 64, .inl (fun _ => 0))), (h2, .inr (6, [.ref h3, .int 0])), (h3, .inl (k1, 64, .inl (fun _ => 0))), (h8, .inr (6, [.ref h9, .int 0])), (h9, .inl (k4, 64, .inl (fun _ => 0)))] := hD
  refine lv_aload_n hx hb dX3_copy_23 rfl (lv_at hl 0 rfl) ?_
  refine va_get (D := (dC, dI)) (ci := 7) (v := .ref h1) (C := RX3) (T := TX3) (N := 9) hx hb hts (by decide +kernel) hown hK hP 0 rfl rfl 0 (by decide) (hts (.fieldLink RX3 11 "Rewriterope" "ropes" "[LRewriterope$Text;") (by decide +kernel)) (fun _ h9 => h9) rfl dX3_copy_24 ?_
  refine lv_iload_n hx hb dX3_copy_27 rfl (lv_at hl 1 rfl) ?_
  refine va_aldq (D := (dC, dI)) hx hb hK hP 1 0 rfl rfl (by unfold vp_in; decide) dX3_copy_28 ?_
  refine W.eq (g2 := F0 m 29 ls [.ref h2]) rfl ?_
  refine va_get (D := (dC, dI)) (ci := 6) (v := .int 0) (C := RX2) (T := TX2) (N := 2) hx hb hts (by decide +kernel) hown hK hP 6 rfl rfl 1 (by decide) (hts (.fieldLink RX3 65 "Rewriterope$Text" "length" "I") (by decide +kernel)) (fun _ h9 => h9) rfl dX3_copy_29 ?_
  have hP := hP.sub (ws' := [(h0, .inr (7, [.ref h1, .ref z0, .ref z1, .ref z2, .ref z3, .ref z4, .int 0, .int 0, .int 0])), (h1, .inl (k0, 4, .inr (.inr (.inr (.inr (va_up (va_up (va_up (va_up (fun _ => none) 0 (some h2)) 1 (some h4)) 2 (some h6)) 3 (some h8))))))), (h2, .inr (6, [.ref h3, .int 0])), (h3, .inl (k1, 64, .inl (fun _ => 0))), (h4, .inr (6, [.ref h5, .int 0])), (h5, .inl (k2, 64, .inl (fun _ => 0))), (h6, .inr (6, [.ref h7, .int 0])), (h7, .inl (k3, 64, .inl (fun _ => 0))), (h8, .inr (6, [.ref h9, .int 0])), (h9, .inl (k4, 64, .inl (fun _ => 0)))]) [0, 1, 6, 7, 2, 3, 4, 5, 8, 9] rfl
  have hD := hD.sub (ws' := [(h0, .inr (7, [.ref h1, .ref z0, .ref z1, .ref z2, .ref z3, .ref z4, .int 0, .int 0, .int 0])), (h1, .inl (k0, 4, .inr (.inr (.inr (.inr (va_up (va_up (va_up (va_up (fun _ => none) 0 (some h2)) 1 (some h4)) 2 (some h6)) 3 (some h8))))))), (h2, .inr (6, [.ref h3, .int 0])), (h3, .inl (k1, 64, .inl (fun _ => 0))), (h4, .inr (6, [.ref h5, .int 0])), (h5, .inl (k2, 64, .inl (fun _ => 0))), (h6, .inr (6, [.ref h7, .int 0])), (h7, .inl (k3, 64, .inl (fun _ => 0))), (h8, .inr (6, [.ref h9, .int 0])), (h9, .inl (k4, 64, .inl (fun _ => 0)))]) [0, 1, 6, 7, 2, 3, 4, 5, 8, 9] (by decide) rfl
  exact W.iret (v := 0) hx hb hr (fun t ht hW => ⟨⟨0, (), rfl, rfl, by rw [ht]; exact hP, va_K.moved hW.alike hK, hD⟩, hS.F ht⟩) hS.2.2 dX3_copy_32
set_option maxHeartbeats 4000000 in
set_option maxRecDepth 100000 in
theorem kx_X3_copy_s0 (l : Launch) (dC : Nat → ClassId) (dI : Nat → Nat → Nat) (h0 : Nat) (h1 : Nat) (h2 : Nat) (h3 : Nat) (h4 : Nat) (h5 : Nat) (h6 : Nat) (h7 : Nat) (h8 : Nat) (h9 : Nat) (z0 : Nat) (z1 : Nat) (z2 : Nat) (z3 : Nat) (z4 : Nat) (k0 : ClassId) (k1 : ClassId) (k2 : ClassId) (k3 : ClassId) (k4 : ClassId) (sz : Nat) (j0 : Int32) (j0_l : (0 : Int) ≤ j0.toInt) (j0_u : j0.toInt ≤ (3 : Int)) : Met l yX3_copy wsX3_copy ({ frames := 2, cells := 0, slots := 0, locals := 81 }) (va_Pc [.ref h0, .int 0, .int j0] (fun U => U.heap.size = sz ∧ va_P (dC, dI) vwCl [(h0, .inr (7, [.ref h1, .ref z0, .ref z1, .ref z2, .ref z3, .ref z4, .int 0, .int 0, .int 0])), (h1, .inl (k0, 4, .inr (.inr (.inr (.inr (va_up (va_up (va_up (va_up (fun _ => none) 0 (some h2)) 1 (some h4)) 2 (some h6)) 3 (some h8))))))), (h2, .inr (6, [.ref h3, .int 0])), (h3, .inl (k1, 64, .inl (fun _ => 0))), (h4, .inr (6, [.ref h5, .int 0])), (h5, .inl (k2, 64, .inl (fun _ => 0))), (h6, .inr (6, [.ref h7, .int 0])), (h7, .inl (k3, 64, .inl (fun _ => 0))), (h8, .inr (6, [.ref h9, .int 0])), (h9, .inl (k4, 64, .inl (fun _ => 0)))] U.heap ∧ va_K (dC, dI) vwCl [(k0, .object "Rewriterope$Text"), (k1, .byte), (k2, .byte), (k3, .byte), (k4, .byte)] U ∧ va_D (fun _ => True) [(h0, .inr (7, [.ref h1, .ref z0, .ref z1, .ref z2, .ref z3, .ref z4, .int 0, .int 0, .int 0])), (h1, .inl (k0, 4, .inr (.inr (.inr (.inr (va_up (va_up (va_up (va_up (fun _ => none) 0 (some h2)) 1 (some h4)) 2 (some h6)) 3 (some h8))))))), (h2, .inr (6, [.ref h3, .int 0])), (h3, .inl (k1, 64, .inl (fun _ => 0))), (h4, .inr (6, [.ref h5, .int 0])), (h5, .inl (k2, 64, .inl (fun _ => 0))), (h6, .inr (6, [.ref h7, .int 0])), (h7, .inl (k3, 64, .inl (fun _ => 0))), (h8, .inr (6, [.ref h9, .int 0])), (h9, .inl (k4, 64, .inl (fun _ => 0)))])) (va_Qi (fun (r : Int32) (_ : Unit) => r = 0) (fun (_ : Unit) (t : State) => va_P (dC, dI) vwCl [(h0, .inr (7, [.ref h1, .ref z0, .ref z1, .ref z2, .ref z3, .ref z4, .int 0, .int 0, .int 0])), (h1, .inl (k0, 4, .inr (.inr (.inr (.inr (va_up (va_up (va_up (va_up (fun _ => none) 0 (some h2)) 1 (some h4)) 2 (some h6)) 3 (some h8))))))), (h2, .inr (6, [.ref h3, .int 0])), (h3, .inl (k1, 64, .inl (fun _ => 0))), (h4, .inr (6, [.ref h5, .int 0])), (h5, .inl (k2, 64, .inl (fun _ => 0))), (h6, .inr (6, [.ref h7, .int 0])), (h7, .inl (k3, 64, .inl (fun _ => 0))), (h8, .inr (6, [.ref h9, .int 0])), (h9, .inl (k4, 64, .inl (fun _ => 0)))] t.heap ∧ va_K (dC, dI) vwCl [(k0, .object "Rewriterope$Text"), (k1, .byte), (k2, .byte), (k3, .byte), (k4, .byte)] t ∧ va_D (va_A [(h0, .inr (7, [.ref h1, .ref z0, .ref z1, .ref z2, .ref z3, .ref z4, .int 0, .int 0, .int 0])), (h1, .inl (k0, 4, .inr (.inr (.inr (.inr (va_up (va_up (va_up (va_up (fun _ => none) 0 (some h2)) 1 (some h4)) 2 (some h6)) 3 (some h8))))))), (h2, .inr (6, [.ref h3, .int 0])), (h3, .inl (k1, 64, .inl (fun _ => 0))), (h4, .inr (6, [.ref h5, .int 0])), (h5, .inl (k2, 64, .inl (fun _ => 0))), (h6, .inr (6, [.ref h7, .int 0])), (h7, .inl (k3, 64, .inl (fun _ => 0))), (h8, .inr (6, [.ref h9, .int 0])), (h9, .inl (k4, 64, .inl (fun _ => 0)))] sz) [(h0, .inr (7, [.ref h1, .ref z0, .ref z1, .ref z2, .ref z3, .ref z4, .int 0, .int 0, .int 0])), (h1, .inl (k0, 4, .inr (.inr (.inr (.inr (va_up (va_up (va_up (va_up (fun _ => none) 0 (some h2)) 1 (some h4)) 2 (some h6)) 3 (some h8))))))), (h2, .inr (6, [.ref h3, .int 0])), (h3, .inl (k1, 64, .inl (fun _ => 0))), (h4, .inr (6, [.ref h5, .int 0])), (h5, .inl (k2, 64, .inl (fun _ => 0))), (h6, .inr (6, [.ref h7, .int 0])), (h7, .inl (k3, 64, .inl (fun _ => 0))), (h8, .inr (6, [.ref h9, .int 0])), (h9, .inl (k4, 64, .inl (fun _ => 0)))]) (va_A [(h0, .inr (7, [.ref h1, .ref z0, .ref z1, .ref z2, .ref z3, .ref z4, .int 0, .int 0, .int 0])), (h1, .inl (k0, 4, .inr (.inr (.inr (.inr (va_up (va_up (va_up (va_up (fun _ => none) 0 (some h2)) 1 (some h4)) 2 (some h6)) 3 (some h8))))))), (h2, .inr (6, [.ref h3, .int 0])), (h3, .inl (k1, 64, .inl (fun _ => 0))), (h4, .inr (6, [.ref h5, .int 0])), (h5, .inl (k2, 64, .inl (fun _ => 0))), (h6, .inr (6, [.ref h7, .int 0])), (h7, .inl (k3, 64, .inl (fun _ => 0))), (h8, .inr (6, [.ref h9, .int 0])), (h9, .inl (k4, 64, .inl (fun _ => 0)))] sz)) 0 0 (va_A [(h0, .inr (7, [.ref h1, .ref z0, .ref z1, .ref z2, .ref z3, .ref z4, .int 0, .int 0, .int 0])), (h1, .inl (k0, 4, .inr (.inr (.inr (.inr (va_up (va_up (va_up (va_up (fun _ => none) 0 (some h2)) 1 (some h4)) 2 (some h6)) 3 (some h8))))))), (h2, .inr (6, [.ref h3, .int 0])), (h3, .inl (k1, 64, .inl (fun _ => 0))), (h4, .inr (6, [.ref h5, .int 0])), (h5, .inl (k2, 64, .inl (fun _ => 0))), (h6, .inr (6, [.ref h7, .int 0])), (h7, .inl (k3, 64, .inl (fun _ => 0))), (h8, .inr (6, [.ref h9, .int 0])), (h9, .inl (k4, 64, .inl (fun _ => 0)))] sz) := by
  have e9 : j0 = 0 ∨ j0 = 1 ∨ j0 = 2 ∨ j0 = 3 := by
    have h9 : j0.toInt = 0 ∨ j0.toInt = 1 ∨ j0.toInt = 2 ∨ j0.toInt = 3 := by omega
    rcases h9 with h9 | h9 | h9 | h9
    · exact Or.inl (Int32.toInt_inj.mp (h9.trans (by decide)))
    · exact Or.inr (Or.inl (Int32.toInt_inj.mp (h9.trans (by decide))))
    · exact Or.inr (Or.inr (Or.inl (Int32.toInt_inj.mp (h9.trans (by decide)))))
    · exact Or.inr (Or.inr (Or.inr (Int32.toInt_inj.mp (h9.trans (by decide)))))
  rcases e9 with rfl | rfl | rfl | rfl
  · exact kx_X3_copy_0 l dC dI h0 h1 h2 h3 h4 h5 h6 h7 h8 h9 z0 z1 z2 z3 z4 k0 k1 k2 k3 k4 sz
  · exact kx_X3_copy_1 l dC dI h0 h1 h2 h3 h4 h5 h6 h7 h8 h9 z0 z1 z2 z3 z4 k0 k1 k2 k3 k4 sz
  · exact kx_X3_copy_2 l dC dI h0 h1 h2 h3 h4 h5 h6 h7 h8 h9 z0 z1 z2 z3 z4 k0 k1 k2 k3 k4 sz
  · exact kx_X3_copy_3 l dC dI h0 h1 h2 h3 h4 h5 h6 h7 h8 h9 z0 z1 z2 z3 z4 k0 k1 k2 k3 k4 sz
set_option maxHeartbeats 4000000 in
set_option maxRecDepth 100000 in
theorem kx_X3_copy_4 (l : Launch) (dC : Nat → ClassId) (dI : Nat → Nat → Nat) (h0 : Nat) (h1 : Nat) (h2 : Nat) (h3 : Nat) (h4 : Nat) (h5 : Nat) (h6 : Nat) (h7 : Nat) (h8 : Nat) (h9 : Nat) (z0 : Nat) (z1 : Nat) (z2 : Nat) (z3 : Nat) (z4 : Nat) (k0 : ClassId) (k1 : ClassId) (k2 : ClassId) (k3 : ClassId) (k4 : ClassId) (sz : Nat) : Met l yX3_copy wsX3_copy ({ frames := 2, cells := 0, slots := 0, locals := 81 }) (va_Pc [.ref h0, .int 1, .int 0] (fun U => U.heap.size = sz ∧ va_P (dC, dI) vwCl [(h0, .inr (7, [.ref h1, .ref z0, .ref z1, .ref z2, .ref z3, .ref z4, .int 0, .int 0, .int 0])), (h1, .inl (k0, 4, .inr (.inr (.inr (.inr (va_up (va_up (va_up (va_up (fun _ => none) 0 (some h2)) 1 (some h4)) 2 (some h6)) 3 (some h8))))))), (h2, .inr (6, [.ref h3, .int 0])), (h3, .inl (k1, 64, .inl (fun _ => 0))), (h4, .inr (6, [.ref h5, .int 0])), (h5, .inl (k2, 64, .inl (fun _ => 0))), (h6, .inr (6, [.ref h7, .int 0])), (h7, .inl (k3, 64, .inl (fun _ => 0))), (h8, .inr (6, [.ref h9, .int 0])), (h9, .inl (k4, 64, .inl (fun _ => 0)))] U.heap ∧ va_K (dC, dI) vwCl [(k0, .object "Rewriterope$Text"), (k1, .byte), (k2, .byte), (k3, .byte), (k4, .byte)] U ∧ va_D (fun _ => True) [(h0, .inr (7, [.ref h1, .ref z0, .ref z1, .ref z2, .ref z3, .ref z4, .int 0, .int 0, .int 0])), (h1, .inl (k0, 4, .inr (.inr (.inr (.inr (va_up (va_up (va_up (va_up (fun _ => none) 0 (some h2)) 1 (some h4)) 2 (some h6)) 3 (some h8))))))), (h2, .inr (6, [.ref h3, .int 0])), (h3, .inl (k1, 64, .inl (fun _ => 0))), (h4, .inr (6, [.ref h5, .int 0])), (h5, .inl (k2, 64, .inl (fun _ => 0))), (h6, .inr (6, [.ref h7, .int 0])), (h7, .inl (k3, 64, .inl (fun _ => 0))), (h8, .inr (6, [.ref h9, .int 0])), (h9, .inl (k4, 64, .inl (fun _ => 0)))])) (va_Qi (fun (r : Int32) (_ : Unit) => r = 0) (fun (_ : Unit) (t : State) => va_P (dC, dI) vwCl [(h0, .inr (7, [.ref h1, .ref z0, .ref z1, .ref z2, .ref z3, .ref z4, .int 0, .int 0, .int 0])), (h1, .inl (k0, 4, .inr (.inr (.inr (.inr (va_up (va_up (va_up (va_up (fun _ => none) 0 (some h2)) 1 (some h4)) 2 (some h6)) 3 (some h8))))))), (h2, .inr (6, [.ref h3, .int 0])), (h3, .inl (k1, 64, .inl (fun _ => 0))), (h4, .inr (6, [.ref h5, .int 0])), (h5, .inl (k2, 64, .inl (fun _ => 0))), (h6, .inr (6, [.ref h7, .int 0])), (h7, .inl (k3, 64, .inl (fun _ => 0))), (h8, .inr (6, [.ref h9, .int 0])), (h9, .inl (k4, 64, .inl (fun _ => 0)))] t.heap ∧ va_K (dC, dI) vwCl [(k0, .object "Rewriterope$Text"), (k1, .byte), (k2, .byte), (k3, .byte), (k4, .byte)] t ∧ va_D (va_A [(h0, .inr (7, [.ref h1, .ref z0, .ref z1, .ref z2, .ref z3, .ref z4, .int 0, .int 0, .int 0])), (h1, .inl (k0, 4, .inr (.inr (.inr (.inr (va_up (va_up (va_up (va_up (fun _ => none) 0 (some h2)) 1 (some h4)) 2 (some h6)) 3 (some h8))))))), (h2, .inr (6, [.ref h3, .int 0])), (h3, .inl (k1, 64, .inl (fun _ => 0))), (h4, .inr (6, [.ref h5, .int 0])), (h5, .inl (k2, 64, .inl (fun _ => 0))), (h6, .inr (6, [.ref h7, .int 0])), (h7, .inl (k3, 64, .inl (fun _ => 0))), (h8, .inr (6, [.ref h9, .int 0])), (h9, .inl (k4, 64, .inl (fun _ => 0)))] sz) [(h0, .inr (7, [.ref h1, .ref z0, .ref z1, .ref z2, .ref z3, .ref z4, .int 0, .int 0, .int 0])), (h1, .inl (k0, 4, .inr (.inr (.inr (.inr (va_up (va_up (va_up (va_up (fun _ => none) 0 (some h2)) 1 (some h4)) 2 (some h6)) 3 (some h8))))))), (h2, .inr (6, [.ref h3, .int 0])), (h3, .inl (k1, 64, .inl (fun _ => 0))), (h4, .inr (6, [.ref h5, .int 0])), (h5, .inl (k2, 64, .inl (fun _ => 0))), (h6, .inr (6, [.ref h7, .int 0])), (h7, .inl (k3, 64, .inl (fun _ => 0))), (h8, .inr (6, [.ref h9, .int 0])), (h9, .inl (k4, 64, .inl (fun _ => 0)))]) (va_A [(h0, .inr (7, [.ref h1, .ref z0, .ref z1, .ref z2, .ref z3, .ref z4, .int 0, .int 0, .int 0])), (h1, .inl (k0, 4, .inr (.inr (.inr (.inr (va_up (va_up (va_up (va_up (fun _ => none) 0 (some h2)) 1 (some h4)) 2 (some h6)) 3 (some h8))))))), (h2, .inr (6, [.ref h3, .int 0])), (h3, .inl (k1, 64, .inl (fun _ => 0))), (h4, .inr (6, [.ref h5, .int 0])), (h5, .inl (k2, 64, .inl (fun _ => 0))), (h6, .inr (6, [.ref h7, .int 0])), (h7, .inl (k3, 64, .inl (fun _ => 0))), (h8, .inr (6, [.ref h9, .int 0])), (h9, .inl (k4, 64, .inl (fun _ => 0)))] sz)) 0 0 (va_A [(h0, .inr (7, [.ref h1, .ref z0, .ref z1, .ref z2, .ref z3, .ref z4, .int 0, .int 0, .int 0])), (h1, .inl (k0, 4, .inr (.inr (.inr (.inr (va_up (va_up (va_up (va_up (fun _ => none) 0 (some h2)) 1 (some h4)) 2 (some h6)) 3 (some h8))))))), (h2, .inr (6, [.ref h3, .int 0])), (h3, .inl (k1, 64, .inl (fun _ => 0))), (h4, .inr (6, [.ref h5, .int 0])), (h5, .inl (k2, 64, .inl (fun _ => 0))), (h6, .inr (6, [.ref h7, .int 0])), (h7, .inl (k3, 64, .inl (fun _ => 0))), (h8, .inr (6, [.ref h9, .int 0])), (h9, .inl (k4, 64, .inl (fun _ => 0)))] sz) := by
  refine Met.ofW (cc := cX3_copy) (maxL := 3) (ret := (some .int)) (by decide) rfl ?_
  intro p e s m args below meth c s₁ B hml hv
  obtain ⟨rfl, hsz, hP, hK, hD0⟩ := hv
  have hx := B.exec
  have hb := B.bytes
  have hr := B.returns
  have hts := atoms_spec (ws := wsX3_copy) B.pre
  have hown : s.vm.findClass RX3 = some m.cls := findClass_of_methodNamed B.named
  have hlocks := B.notSynchronized
  subst hsz
  have hD := hD0.self (sz := s.heap.size)
  generalize hAe : va_A [(h0, .inr (7, [.ref h1, .ref z0, .ref z1, .ref z2, .ref z3, .ref z4, .int 0, .int 0, .int 0])), (h1, .inl (k0, 4, .inr (.inr (.inr (.inr (va_up (va_up (va_up (va_up (fun _ => none) 0 (some h2)) 1 (some h4)) 2 (some h6)) 3 (some h8))))))), (h2, .inr (6, [.ref h3, .int 0])), (h3, .inl (k1, 64, .inl (fun _ => 0))), (h4, .inr (6, [.ref h5, .int 0])), (h5, .inl (k2, 64, .inl (fun _ => 0))), (h6, .inr (6, [.ref h7, .int 0])), (h7, .inl (k3, 64, .inl (fun _ => 0))), (h8, .inr (6, [.ref h9, .int 0])), (h9, .inl (k4, 64, .inl (fun _ => 0)))] s.heap.size = A at hD ⊢
  have hA : ∀ q : Nat, s.heap.size ≤ q → A q := fun q h => by rw [← hAe]; exact Or.inr h
  have hS : va_S A s.heap s.heap [] := va_S.rf
  have hP : va_P (dC, dI) vwCl [(h0, .inr (7, [.ref h1, .ref z0, .ref z1, .ref z2, .ref z3, .ref z4, .int 0, .int 0, .int 0])), (h1, .inl (k0, 4, .inr (.inr (.inr (.inr (va_up (va_up (va_up (va_up (fun _ => none) 0 (some h2)) 1 (some h4)) 2 (some h6)) 3 (some h8))))))), (h2, .inr (6, [.ref h3, .int 0])), (h3, .inl (k1, 64, .inl (fun _ => 0))), (h4, .inr (6, [.ref h5, .int 0])), (h5, .inl (k2, 64, .inl (fun _ => 0))), (h6, .inr (6, [.ref h7, .int 0])), (h7, .inl (k3, 64, .inl (fun _ => 0))), (h8, .inr (6, [.ref h9, .int 0])), (h9, .inl (k4, 64, .inl (fun _ => 0)))] s.heap := hP
  have hl := lv_entry ([.ref h0, .int 1, .int 0]) (n := 3) (Nat.le_of_ble_eq_true rfl)
  rw [lg_entry_eq]
  generalize (lg_sl ([.ref h0, .int 1, .int 0]) ++ List.replicate (3 - (lg_sl ([.ref h0, .int 1, .int 0])).length) Slot.unset).toArray = ls at hl ⊢
  have hl : lv_has ls 3 [(0, .ref h0), (1, .int 1), (2, .int 0)] := hl
  refine lv_iload_n hx hb dX3_copy_0 rfl (lv_at hl 1 rfl) ?_
  have hPc := hP.sub (ws' := []) [] rfl
  have hDc := hD.sub (ws' := []) [] (by decide) rfl
  have hKc := hK.sub (tys' := []) [] rfl
  have hFc := va_free (wc := []) hD hS hA [] rfl
  refine va_callv (va_runS (As := [.int 1]) (rest := []) ⟨hx, hb, hml, hown, hts⟩ (kx_X3_needRope_1 l dC dI s.heap.size) (cwS 1 hts gX3_copy_X3_needRope rfl rfl rfl (by decide +kernel) ⟨Nat.le_of_ble_eq_true rfl, Nat.le_of_ble_eq_true rfl⟩) ⟨fun a U g mk q => by obtain ⟨q0, q1, qP, qK, qD⟩ := q; exact ⟨q0, q1, qP, va_K.moved (u := U) (U := U.calling g mk a) (Vm.Alike.refl U.vm) qK, qD⟩, fun U hU hW => ⟨rfl, by rw [hU], by rw [hU]; exact hPc, va_K.moved hW.alike hKc, hDc.weaken (fun _ _ _ _ => trivial)⟩⟩ rfl rfl hl.1 rfl (lv_room (Nat.le_of_ble_eq_true rfl)) dX3_copy_1 ⟨Nat.le_of_ble_eq_true rfl, Nat.le_of_ble_eq_true rfl⟩) hS (fun q _ h => hFc q h) hFc (fun u t H1 locs ht hvm hw hB hz1 hk1 hS => ?_)
  obtain ⟨hP1, hK1, hD1⟩ := hB
  rw [ht] at hP1
  have hK1 := va_K.moved hvm.symm hK1
  obtain ⟨hP, hD⟩ := va_join (wr := [(h0, .inr (7, [.ref h1, .ref z0, .ref z1, .ref z2, .ref z3, .ref z4, .int 0, .int 0, .int 0])), (h1, .inl (k0, 4, .inr (.inr (.inr (.inr (va_up (va_up (va_up (va_up (fun _ => none) 0 (some h2)) 1 (some h4)) 2 (some h6)) 3 (some h8))))))), (h2, .inr (6, [.ref h3, .int 0])), (h3, .inl (k1, 64, .inl (fun _ => 0))), (h4, .inr (6, [.ref h5, .int 0])), (h5, .inl (k2, 64, .inl (fun _ => 0))), (h6, .inr (6, [.ref h7, .int 0])), (h7, .inl (k3, 64, .inl (fun _ => 0))), (h8, .inr (6, [.ref h9, .int 0])), (h9, .inl (k4, 64, .inl (fun _ => 0)))]) (w1 := []) hP hD [] [0, 1, 2, 3, 4, 5, 6, 7, 8, 9] rfl rfl (by decide) (by decide) hk1 hFc hP1 hD1
  generalize H1 = H at hP hS ⊢
  have hP : va_P (dC, dI) vwCl [(h0, .inr (7, [.ref h1, .ref z0, .ref z1, .ref z2, .ref z3, .ref z4, .int 0, .int 0, .int 0])), (h1, .inl (k0, 4, .inr (.inr (.inr (.inr (va_up (va_up (va_up (va_up (fun _ => none) 0 (some h2)) 1 (some h4)) 2 (some h6)) 3 (some h8))))))), (h2, .inr (6, [.ref h3, .int 0])), (h3, .inl (k1, 64, .inl (fun _ => 0))), (h4, .inr (6, [.ref h5, .int 0])), (h5, .inl (k2, 64, .inl (fun _ => 0))), (h6, .inr (6, [.ref h7, .int 0])), (h7, .inl (k3, 64, .inl (fun _ => 0))), (h8, .inr (6, [.ref h9, .int 0])), (h9, .inl (k4, 64, .inl (fun _ => 0)))] H := hP
  have hD : va_D A [(h0, .inr (7, [.ref h1, .ref z0, .ref z1, .ref z2, .ref z3, .ref z4, .int 0, .int 0, .int 0])), (h1, .inl (k0, 4, .inr (.inr (.inr (.inr (va_up (va_up (va_up (va_up (fun _ => none) 0 (some h2)) 1 (some h4)) 2 (some h6)) 3 (some h8))))))), (h2, .inr (6, [.ref h3, .int 0])), (h3, .inl (k1, 64, .inl (fun _ => 0))), (h4, .inr (6, [.ref h5, .int 0])), (h5, .inl (k2, 64, .inl (fun _ => 0))), (h6, .inr (6, [.ref h7, .int 0])), (h7, .inl (k3, 64, .inl (fun _ => 0))), (h8, .inr (6, [.ref h9, .int 0])), (h9, .inl (k4, 64, .inl (fun _ => 0)))] := hD
  refine lv_iload_n hx hb dX3_copy_4 rfl (lv_at hl 2 rfl) ?_
  have hPc := hP.sub (ws' := []) [] rfl
  have hDc := hD.sub (ws' := []) [] (by decide) rfl
  have hKc := hK.sub (tys' := []) [] rfl
  have hFc := va_free (wc := []) hD hS hA [] rfl
  refine va_callv (va_runS (As := [.int 0]) (rest := []) ⟨hx, hb, hml, hown, hts⟩ (kx_X3_needRope_0 l dC dI H.size) (cwS 1 hts gX3_copy_X3_needRope rfl rfl rfl (by decide +kernel) ⟨Nat.le_of_ble_eq_true rfl, Nat.le_of_ble_eq_true rfl⟩) ⟨fun a U g mk q => by obtain ⟨q0, q1, qP, qK, qD⟩ := q; exact ⟨q0, q1, qP, va_K.moved (u := U) (U := U.calling g mk a) (Vm.Alike.refl U.vm) qK, qD⟩, fun U hU hW => ⟨rfl, by rw [hU], by rw [hU]; exact hPc, va_K.moved hW.alike hKc, hDc.weaken (fun _ _ _ _ => trivial)⟩⟩ rfl rfl hl.1 rfl (lv_room (Nat.le_of_ble_eq_true rfl)) dX3_copy_5 ⟨Nat.le_of_ble_eq_true rfl, Nat.le_of_ble_eq_true rfl⟩) hS (fun q _ h => hFc q h) hFc (fun u t H1 locs ht hvm hw hB hz1 hk1 hS => ?_)
  obtain ⟨hP1, hK1, hD1⟩ := hB
  rw [ht] at hP1
  have hK1 := va_K.moved hvm.symm hK1
  obtain ⟨hP, hD⟩ := va_join (wr := [(h0, .inr (7, [.ref h1, .ref z0, .ref z1, .ref z2, .ref z3, .ref z4, .int 0, .int 0, .int 0])), (h1, .inl (k0, 4, .inr (.inr (.inr (.inr (va_up (va_up (va_up (va_up (fun _ => none) 0 (some h2)) 1 (some h4)) 2 (some h6)) 3 (some h8))))))), (h2, .inr (6, [.ref h3, .int 0])), (h3, .inl (k1, 64, .inl (fun _ => 0))), (h4, .inr (6, [.ref h5, .int 0])), (h5, .inl (k2, 64, .inl (fun _ => 0))), (h6, .inr (6, [.ref h7, .int 0])), (h7, .inl (k3, 64, .inl (fun _ => 0))), (h8, .inr (6, [.ref h9, .int 0])), (h9, .inl (k4, 64, .inl (fun _ => 0)))]) (w1 := []) hP hD [] [0, 1, 2, 3, 4, 5, 6, 7, 8, 9] rfl rfl (by decide) (by decide) hk1 hFc hP1 hD1
  generalize H1 = H at hP hS ⊢
  have hP : va_P (dC, dI) vwCl [(h0, .inr (7, [.ref h1, .ref z0, .ref z1, .ref z2, .ref z3, .ref z4, .int 0, .int 0, .int 0])), (h1, .inl (k0, 4, .inr (.inr (.inr (.inr (va_up (va_up (va_up (va_up (fun _ => none) 0 (some h2)) 1 (some h4)) 2 (some h6)) 3 (some h8))))))), (h2, .inr (6, [.ref h3, .int 0])), (h3, .inl (k1, 64, .inl (fun _ => 0))), (h4, .inr (6, [.ref h5, .int 0])), (h5, .inl (k2, 64, .inl (fun _ => 0))), (h6, .inr (6, [.ref h7, .int 0])), (h7, .inl (k3, 64, .inl (fun _ => 0))), (h8, .inr (6, [.ref h9, .int 0])), (h9, .inl (k4, 64, .inl (fun _ => 0)))] H := hP
  have hD : va_D A [(h0, .inr (7, [.ref h1, .ref z0, .ref z1, .ref z2, .ref z3, .ref z4, .int 0, .int 0, .int 0])), (h1, .inl (k0, 4, .inr (.inr (.inr (.inr (va_up (va_up (va_up (va_up (fun _ => none) 0 (some h2)) 1 (some h4)) 2 (some h6)) 3 (some h8))))))), (h2, .inr (6, [.ref h3, .int 0])), (h3, .inl (k1, 64, .inl (fun _ => 0))), (h4, .inr (6, [.ref h5, .int 0])), (h5, .inl (k2, 64, .inl (fun _ => 0))), (h6, .inr (6, [.ref h7, .int 0])), (h7, .inl (k3, 64, .inl (fun _ => 0))), (h8, .inr (6, [.ref h9, .int 0])), (h9, .inl (k4, 64, .inl (fun _ => 0)))] := hD
  refine lv_aload_n hx hb dX3_copy_8 rfl (lv_at hl 0 rfl) ?_
  refine va_get (D := (dC, dI)) (ci := 7) (v := .ref h1) (C := RX3) (T := TX3) (N := 9) hx hb hts (by decide +kernel) hown hK hP 0 rfl rfl 0 (by decide) (hts (.fieldLink RX3 11 "Rewriterope" "ropes" "[LRewriterope$Text;") (by decide +kernel)) (fun _ h9 => h9) rfl dX3_copy_9 ?_
  refine lv_iload_n hx hb dX3_copy_12 rfl (lv_at hl 1 rfl) ?_
  refine va_aldq (D := (dC, dI)) hx hb hK hP 1 0 rfl rfl (by unfold vp_in; decide) dX3_copy_13 ?_
  refine W.eq (g2 := F0 m 14 ls [.ref h4]) rfl ?_
  refine lv_aload_n hx hb dX3_copy_14 rfl (lv_at hl 0 rfl) ?_
  refine va_get (D := (dC, dI)) (ci := 7) (v := .ref h1) (C := RX3) (T := TX3) (N := 9) hx hb hts (by decide +kernel) hown hK hP 0 rfl rfl 0 (by decide) (hts (.fieldLink RX3 11 "Rewriterope" "ropes" "[LRewriterope$Text;") (by decide +kernel)) (fun _ h9 => h9) rfl dX3_copy_15 ?_
  refine lv_iload_n hx hb dX3_copy_18 rfl (lv_at hl 2 rfl) ?_
  refine va_aldq (D := (dC, dI)) hx hb hK hP 1 0 rfl rfl (by unfold vp_in; decide) dX3_copy_19 ?_
  refine W.eq (g2 := F0 m 20 ls [.ref h2, .ref h4]) rfl ?_
  have hPc := hP.sub (ws' := [(h2, .inr (6, [.ref h3, .int 0])), (h3, .inl (k1, 64, .inl (fun _ => 0))), (h4, .inr (6, [.ref h5, .int 0])), (h5, .inl (k2, 64, .inl (fun _ => 0)))]) [2, 3, 4, 5] rfl
  have hDc := hD.sub (ws' := [(h2, .inr (6, [.ref h3, .int 0])), (h3, .inl (k1, 64, .inl (fun _ => 0))), (h4, .inr (6, [.ref h5, .int 0])), (h5, .inl (k2, 64, .inl (fun _ => 0)))]) [2, 3, 4, 5] (by decide) rfl
  have hKc := hK.sub (tys' := [(k1, .byte), (k2, .byte)]) [1, 2] rfl
  have hFc := va_free (wc := [(h2, .inr (6, [.ref h3, .int 0])), (h3, .inl (k1, 64, .inl (fun _ => 0))), (h4, .inr (6, [.ref h5, .int 0])), (h5, .inl (k2, 64, .inl (fun _ => 0)))]) hD hS hA [2, 3, 4, 5] rfl
  refine va_callv (va_runV (As := [.ref h2]) (rest := []) ⟨hx, hb, hml, hown, hts⟩ (kx_X2_become_2 l dC dI h2 h3 h4 h5 k1 k2 H.size) (cwV 1 hts gX3_copy_X2_become rfl rfl rfl (by decide +kernel) ⟨Nat.le_of_ble_eq_true rfl, Nat.le_of_ble_eq_true rfl⟩) ⟨fun a U g mk q => by obtain ⟨q0, q1, qP, qK, qD⟩ := q; exact ⟨q0, q1, qP, va_K.moved (u := U) (U := U.calling g mk a) (Vm.Alike.refl U.vm) qK, qD⟩, va_recv hKc hPc (ci := 6) (q0 := 2) rfl rfl, fun U hU hW => ⟨rfl, by rw [hU], by rw [hU]; exact hPc, va_K.moved hW.alike hKc, hDc.weaken (fun _ _ _ _ => trivial)⟩⟩ rfl rfl hl.1 rfl (lv_room (Nat.le_of_ble_eq_true rfl)) dX3_copy_20 ⟨Nat.le_of_ble_eq_true rfl, Nat.le_of_ble_eq_true rfl⟩) hS (fun q _ h => hFc q h) hFc (fun u t H1 locs ht hvm hw hB hz1 hk1 hS => ?_)
  obtain ⟨hP1, hK1, hD1⟩ := hB
  rw [ht] at hP1
  have hK1 := va_K.moved hvm.symm hK1
  obtain ⟨hP, hD⟩ := va_join (wr := [(h0, .inr (7, [.ref h1, .ref z0, .ref z1, .ref z2, .ref z3, .ref z4, .int 0, .int 0, .int 0])), (h1, .inl (k0, 4, .inr (.inr (.inr (.inr (va_up (va_up (va_up (va_up (fun _ => none) 0 (some h2)) 1 (some h4)) 2 (some h6)) 3 (some h8))))))), (h6, .inr (6, [.ref h7, .int 0])), (h7, .inl (k3, 64, .inl (fun _ => 0))), (h8, .inr (6, [.ref h9, .int 0])), (h9, .inl (k4, 64, .inl (fun _ => 0)))]) (w1 := [(h2, .inr (6, [.ref h3, .int 0])), (h3, .inl (k1, 64, .inl (fun _ => 0))), (h4, .inr (6, [.ref h5, .int 0])), (h5, .inl (k2, 64, .inl (fun _ => 0)))]) hP hD [2, 3, 4, 5] [0, 1, 6, 7, 8, 9] rfl rfl (by decide) (by decide) hk1 hFc hP1 hD1
  generalize H1 = H at hP hS ⊢
  have hP : va_P (dC, dI) vwCl [(h0, .inr (7, [.ref h1, .ref z0, .ref z1, .ref z2, .ref z3, .ref z4, .int 0, .int 0, .int 0])), (h1, .inl (k0, 4, .inr (.inr (.inr (.inr (va_up (va_up (va_up (va_up (fun _ => none) 0 (some h2)) 1 (some h4)) 2 (some h6)) 3 (some h8))))))), (h6, .inr (6, [.ref h7, .int 0])), (h7, .inl (k3, 64, .inl (fun _ => 0))), (h8, .inr (6, [.ref h9, .int 0])), (h9, .inl (k4, 64, .inl (fun _ => 0))), (h2, .inr (6, [.ref h3, .int 0])), (h3, .inl (k1, 64, .inl (fun _ => 0))), (h4, .inr (6, [.ref h5, .int 0])), (h5, .inl (k2, 64, .inl (fun _ => 0)))] H := hP
  have hD : va_D A [(h0, .inr (7, [.ref h1, .ref z0, .ref z1, .ref z2, .ref z3, .ref z4, .int 0, .int 0, .int 0])), (h1, .inl (k0, 4, .inr (.inr (.inr (.inr (va_up (va_up (va_up (va_up (fun _ => none) 0 (some h2)) 1 (some h4)) 2 (some h6)) 3 (some h8))))))), (h6, .inr (6, [.ref h7, .int 0])), (h7, .inl (k3, 64, .inl (fun _ => 0))), (h8, .inr (6, [.ref h9, .int 0])), (h9, .inl (k4, 64, .inl (fun _ => 0))), (h2, .inr (6, [.ref h3, .int 0])), (h3, .inl (k1, 64, .inl (fun _ => 0))), (h4, .inr (6, [.ref h5, .int 0])), (h5, .inl (k2, 64, .inl (fun _ => 0)))] := hD
  refine lv_aload_n hx hb dX3_copy_23 rfl (lv_at hl 0 rfl) ?_
  refine va_get (D := (dC, dI)) (ci := 7) (v := .ref h1) (C := RX3) (T := TX3) (N := 9) hx hb hts (by decide +kernel) hown hK hP 0 rfl rfl 0 (by decide) (hts (.fieldLink RX3 11 "Rewriterope" "ropes" "[LRewriterope$Text;") (by decide +kernel)) (fun _ h9 => h9) rfl dX3_copy_24 ?_
  refine lv_iload_n hx hb dX3_copy_27 rfl (lv_at hl 1 rfl) ?_
  refine va_aldq (D := (dC, dI)) hx hb hK hP 1 0 rfl rfl (by unfold vp_in; decide) dX3_copy_28 ?_
  refine W.eq (g2 := F0 m 29 ls [.ref h4]) rfl ?_
  refine va_get (D := (dC, dI)) (ci := 6) (v := .int 0) (C := RX2) (T := TX2) (N := 2) hx hb hts (by decide +kernel) hown hK hP 8 rfl rfl 1 (by decide) (hts (.fieldLink RX3 65 "Rewriterope$Text" "length" "I") (by decide +kernel)) (fun _ h9 => h9) rfl dX3_copy_29 ?_
  have hP := hP.sub (ws' := [(h0, .inr (7, [.ref h1, .ref z0, .ref z1, .ref z2, .ref z3, .ref z4, .int 0, .int 0, .int 0])), (h1, .inl (k0, 4, .inr (.inr (.inr (.inr (va_up (va_up (va_up (va_up (fun _ => none) 0 (some h2)) 1 (some h4)) 2 (some h6)) 3 (some h8))))))), (h2, .inr (6, [.ref h3, .int 0])), (h3, .inl (k1, 64, .inl (fun _ => 0))), (h4, .inr (6, [.ref h5, .int 0])), (h5, .inl (k2, 64, .inl (fun _ => 0))), (h6, .inr (6, [.ref h7, .int 0])), (h7, .inl (k3, 64, .inl (fun _ => 0))), (h8, .inr (6, [.ref h9, .int 0])), (h9, .inl (k4, 64, .inl (fun _ => 0)))]) [0, 1, 6, 7, 8, 9, 2, 3, 4, 5] rfl
  have hD := hD.sub (ws' := [(h0, .inr (7, [.ref h1, .ref z0, .ref z1, .ref z2, .ref z3, .ref z4, .int 0, .int 0, .int 0])), (h1, .inl (k0, 4, .inr (.inr (.inr (.inr (va_up (va_up (va_up (va_up (fun _ => none) 0 (some h2)) 1 (some h4)) 2 (some h6)) 3 (some h8))))))), (h2, .inr (6, [.ref h3, .int 0])), (h3, .inl (k1, 64, .inl (fun _ => 0))), (h4, .inr (6, [.ref h5, .int 0])), (h5, .inl (k2, 64, .inl (fun _ => 0))), (h6, .inr (6, [.ref h7, .int 0])), (h7, .inl (k3, 64, .inl (fun _ => 0))), (h8, .inr (6, [.ref h9, .int 0])), (h9, .inl (k4, 64, .inl (fun _ => 0)))]) [0, 1, 6, 7, 8, 9, 2, 3, 4, 5] (by decide) rfl
  exact W.iret (v := 0) hx hb hr (fun t ht hW => ⟨⟨0, (), rfl, rfl, by rw [ht]; exact hP, va_K.moved hW.alike hK, hD⟩, hS.F ht⟩) hS.2.2 dX3_copy_32
set_option maxHeartbeats 4000000 in
set_option maxRecDepth 100000 in
theorem kx_X3_copy_5 (l : Launch) (dC : Nat → ClassId) (dI : Nat → Nat → Nat) (h0 : Nat) (h1 : Nat) (h2 : Nat) (h3 : Nat) (h4 : Nat) (h5 : Nat) (h6 : Nat) (h7 : Nat) (h8 : Nat) (h9 : Nat) (z0 : Nat) (z1 : Nat) (z2 : Nat) (z3 : Nat) (z4 : Nat) (k0 : ClassId) (k1 : ClassId) (k2 : ClassId) (k3 : ClassId) (k4 : ClassId) (sz : Nat) : Met l yX3_copy wsX3_copy ({ frames := 2, cells := 0, slots := 0, locals := 81 }) (va_Pc [.ref h0, .int 1, .int 1] (fun U => U.heap.size = sz ∧ va_P (dC, dI) vwCl [(h0, .inr (7, [.ref h1, .ref z0, .ref z1, .ref z2, .ref z3, .ref z4, .int 0, .int 0, .int 0])), (h1, .inl (k0, 4, .inr (.inr (.inr (.inr (va_up (va_up (va_up (va_up (fun _ => none) 0 (some h2)) 1 (some h4)) 2 (some h6)) 3 (some h8))))))), (h2, .inr (6, [.ref h3, .int 0])), (h3, .inl (k1, 64, .inl (fun _ => 0))), (h4, .inr (6, [.ref h5, .int 0])), (h5, .inl (k2, 64, .inl (fun _ => 0))), (h6, .inr (6, [.ref h7, .int 0])), (h7, .inl (k3, 64, .inl (fun _ => 0))), (h8, .inr (6, [.ref h9, .int 0])), (h9, .inl (k4, 64, .inl (fun _ => 0)))] U.heap ∧ va_K (dC, dI) vwCl [(k0, .object "Rewriterope$Text"), (k1, .byte), (k2, .byte), (k3, .byte), (k4, .byte)] U ∧ va_D (fun _ => True) [(h0, .inr (7, [.ref h1, .ref z0, .ref z1, .ref z2, .ref z3, .ref z4, .int 0, .int 0, .int 0])), (h1, .inl (k0, 4, .inr (.inr (.inr (.inr (va_up (va_up (va_up (va_up (fun _ => none) 0 (some h2)) 1 (some h4)) 2 (some h6)) 3 (some h8))))))), (h2, .inr (6, [.ref h3, .int 0])), (h3, .inl (k1, 64, .inl (fun _ => 0))), (h4, .inr (6, [.ref h5, .int 0])), (h5, .inl (k2, 64, .inl (fun _ => 0))), (h6, .inr (6, [.ref h7, .int 0])), (h7, .inl (k3, 64, .inl (fun _ => 0))), (h8, .inr (6, [.ref h9, .int 0])), (h9, .inl (k4, 64, .inl (fun _ => 0)))])) (va_Qi (fun (r : Int32) (_ : Unit) => r = 0) (fun (_ : Unit) (t : State) => va_P (dC, dI) vwCl [(h0, .inr (7, [.ref h1, .ref z0, .ref z1, .ref z2, .ref z3, .ref z4, .int 0, .int 0, .int 0])), (h1, .inl (k0, 4, .inr (.inr (.inr (.inr (va_up (va_up (va_up (va_up (fun _ => none) 0 (some h2)) 1 (some h4)) 2 (some h6)) 3 (some h8))))))), (h2, .inr (6, [.ref h3, .int 0])), (h3, .inl (k1, 64, .inl (fun _ => 0))), (h4, .inr (6, [.ref h5, .int 0])), (h5, .inl (k2, 64, .inl (fun _ => 0))), (h6, .inr (6, [.ref h7, .int 0])), (h7, .inl (k3, 64, .inl (fun _ => 0))), (h8, .inr (6, [.ref h9, .int 0])), (h9, .inl (k4, 64, .inl (fun _ => 0)))] t.heap ∧ va_K (dC, dI) vwCl [(k0, .object "Rewriterope$Text"), (k1, .byte), (k2, .byte), (k3, .byte), (k4, .byte)] t ∧ va_D (va_A [(h0, .inr (7, [.ref h1, .ref z0, .ref z1, .ref z2, .ref z3, .ref z4, .int 0, .int 0, .int 0])), (h1, .inl (k0, 4, .inr (.inr (.inr (.inr (va_up (va_up (va_up (va_up (fun _ => none) 0 (some h2)) 1 (some h4)) 2 (some h6)) 3 (some h8))))))), (h2, .inr (6, [.ref h3, .int 0])), (h3, .inl (k1, 64, .inl (fun _ => 0))), (h4, .inr (6, [.ref h5, .int 0])), (h5, .inl (k2, 64, .inl (fun _ => 0))), (h6, .inr (6, [.ref h7, .int 0])), (h7, .inl (k3, 64, .inl (fun _ => 0))), (h8, .inr (6, [.ref h9, .int 0])), (h9, .inl (k4, 64, .inl (fun _ => 0)))] sz) [(h0, .inr (7, [.ref h1, .ref z0, .ref z1, .ref z2, .ref z3, .ref z4, .int 0, .int 0, .int 0])), (h1, .inl (k0, 4, .inr (.inr (.inr (.inr (va_up (va_up (va_up (va_up (fun _ => none) 0 (some h2)) 1 (some h4)) 2 (some h6)) 3 (some h8))))))), (h2, .inr (6, [.ref h3, .int 0])), (h3, .inl (k1, 64, .inl (fun _ => 0))), (h4, .inr (6, [.ref h5, .int 0])), (h5, .inl (k2, 64, .inl (fun _ => 0))), (h6, .inr (6, [.ref h7, .int 0])), (h7, .inl (k3, 64, .inl (fun _ => 0))), (h8, .inr (6, [.ref h9, .int 0])), (h9, .inl (k4, 64, .inl (fun _ => 0)))]) (va_A [(h0, .inr (7, [.ref h1, .ref z0, .ref z1, .ref z2, .ref z3, .ref z4, .int 0, .int 0, .int 0])), (h1, .inl (k0, 4, .inr (.inr (.inr (.inr (va_up (va_up (va_up (va_up (fun _ => none) 0 (some h2)) 1 (some h4)) 2 (some h6)) 3 (some h8))))))), (h2, .inr (6, [.ref h3, .int 0])), (h3, .inl (k1, 64, .inl (fun _ => 0))), (h4, .inr (6, [.ref h5, .int 0])), (h5, .inl (k2, 64, .inl (fun _ => 0))), (h6, .inr (6, [.ref h7, .int 0])), (h7, .inl (k3, 64, .inl (fun _ => 0))), (h8, .inr (6, [.ref h9, .int 0])), (h9, .inl (k4, 64, .inl (fun _ => 0)))] sz)) 0 0 (va_A [(h0, .inr (7, [.ref h1, .ref z0, .ref z1, .ref z2, .ref z3, .ref z4, .int 0, .int 0, .int 0])), (h1, .inl (k0, 4, .inr (.inr (.inr (.inr (va_up (va_up (va_up (va_up (fun _ => none) 0 (some h2)) 1 (some h4)) 2 (some h6)) 3 (some h8))))))), (h2, .inr (6, [.ref h3, .int 0])), (h3, .inl (k1, 64, .inl (fun _ => 0))), (h4, .inr (6, [.ref h5, .int 0])), (h5, .inl (k2, 64, .inl (fun _ => 0))), (h6, .inr (6, [.ref h7, .int 0])), (h7, .inl (k3, 64, .inl (fun _ => 0))), (h8, .inr (6, [.ref h9, .int 0])), (h9, .inl (k4, 64, .inl (fun _ => 0)))] sz) := by
  refine Met.ofW (cc := cX3_copy) (maxL := 3) (ret := (some .int)) (by decide) rfl ?_
  intro p e s m args below meth c s₁ B hml hv
  obtain ⟨rfl, hsz, hP, hK, hD0⟩ := hv
  have hx := B.exec
  have hb := B.bytes
  have hr := B.returns
  have hts := atoms_spec (ws := wsX3_copy) B.pre
  have hown : s.vm.findClass RX3 = some m.cls := findClass_of_methodNamed B.named
  have hlocks := B.notSynchronized
  subst hsz
  have hD := hD0.self (sz := s.heap.size)
  generalize hAe : va_A [(h0, .inr (7, [.ref h1, .ref z0, .ref z1, .ref z2, .ref z3, .ref z4, .int 0, .int 0, .int 0])), (h1, .inl (k0, 4, .inr (.inr (.inr (.inr (va_up (va_up (va_up (va_up (fun _ => none) 0 (some h2)) 1 (some h4)) 2 (some h6)) 3 (some h8))))))), (h2, .inr (6, [.ref h3, .int 0])), (h3, .inl (k1, 64, .inl (fun _ => 0))), (h4, .inr (6, [.ref h5, .int 0])), (h5, .inl (k2, 64, .inl (fun _ => 0))), (h6, .inr (6, [.ref h7, .int 0])), (h7, .inl (k3, 64, .inl (fun _ => 0))), (h8, .inr (6, [.ref h9, .int 0])), (h9, .inl (k4, 64, .inl (fun _ => 0)))] s.heap.size = A at hD ⊢
  have hA : ∀ q : Nat, s.heap.size ≤ q → A q := fun q h => by rw [← hAe]; exact Or.inr h
  have hS : va_S A s.heap s.heap [] := va_S.rf
  have hP : va_P (dC, dI) vwCl [(h0, .inr (7, [.ref h1, .ref z0, .ref z1, .ref z2, .ref z3, .ref z4, .int 0, .int 0, .int 0])), (h1, .inl (k0, 4, .inr (.inr (.inr (.inr (va_up (va_up (va_up (va_up (fun _ => none) 0 (some h2)) 1 (some h4)) 2 (some h6)) 3 (some h8))))))), (h2, .inr (6, [.ref h3, .int 0])), (h3, .inl (k1, 64, .inl (fun _ => 0))), (h4, .inr (6, [.ref h5, .int 0])), (h5, .inl (k2, 64, .inl (fun _ => 0))), (h6, .inr (6, [.ref h7, .int 0])), (h7, .inl (k3, 64, .inl (fun _ => 0))), (h8, .inr (6, [.ref h9, .int 0])), (h9, .inl (k4, 64, .inl (fun _ => 0)))] s.heap := hP
  have hl := lv_entry ([.ref h0, .int 1, .int 1]) (n := 3) (Nat.le_of_ble_eq_true rfl)
  rw [lg_entry_eq]
  generalize (lg_sl ([.ref h0, .int 1, .int 1]) ++ List.replicate (3 - (lg_sl ([.ref h0, .int 1, .int 1])).length) Slot.unset).toArray = ls at hl ⊢
  have hl : lv_has ls 3 [(0, .ref h0), (1, .int 1), (2, .int 1)] := hl
  refine lv_iload_n hx hb dX3_copy_0 rfl (lv_at hl 1 rfl) ?_
  have hPc := hP.sub (ws' := []) [] rfl
  have hDc := hD.sub (ws' := []) [] (by decide) rfl
  have hKc := hK.sub (tys' := []) [] rfl
  have hFc := va_free (wc := []) hD hS hA [] rfl
  refine va_callv (va_runS (As := [.int 1]) (rest := []) ⟨hx, hb, hml, hown, hts⟩ (kx_X3_needRope_1 l dC dI s.heap.size) (cwS 1 hts gX3_copy_X3_needRope rfl rfl rfl (by decide +kernel) ⟨Nat.le_of_ble_eq_true rfl, Nat.le_of_ble_eq_true rfl⟩) ⟨fun a U g mk q => by obtain ⟨q0, q1, qP, qK, qD⟩ := q; exact ⟨q0, q1, qP, va_K.moved (u := U) (U := U.calling g mk a) (Vm.Alike.refl U.vm) qK, qD⟩, fun U hU hW => ⟨rfl, by rw [hU], by rw [hU]; exact hPc, va_K.moved hW.alike hKc, hDc.weaken (fun _ _ _ _ => trivial)⟩⟩ rfl rfl hl.1 rfl (lv_room (Nat.le_of_ble_eq_true rfl)) dX3_copy_1 ⟨Nat.le_of_ble_eq_true rfl, Nat.le_of_ble_eq_true rfl⟩) hS (fun q _ h => hFc q h) hFc (fun u t H1 locs ht hvm hw hB hz1 hk1 hS => ?_)
  obtain ⟨hP1, hK1, hD1⟩ := hB
  rw [ht] at hP1
  have hK1 := va_K.moved hvm.symm hK1
  obtain ⟨hP, hD⟩ := va_join (wr := [(h0, .inr (7, [.ref h1, .ref z0, .ref z1, .ref z2, .ref z3, .ref z4, .int 0, .int 0, .int 0])), (h1, .inl (k0, 4, .inr (.inr (.inr (.inr (va_up (va_up (va_up (va_up (fun _ => none) 0 (some h2)) 1 (some h4)) 2 (some h6)) 3 (some h8))))))), (h2, .inr (6, [.ref h3, .int 0])), (h3, .inl (k1, 64, .inl (fun _ => 0))), (h4, .inr (6, [.ref h5, .int 0])), (h5, .inl (k2, 64, .inl (fun _ => 0))), (h6, .inr (6, [.ref h7, .int 0])), (h7, .inl (k3, 64, .inl (fun _ => 0))), (h8, .inr (6, [.ref h9, .int 0])), (h9, .inl (k4, 64, .inl (fun _ => 0)))]) (w1 := []) hP hD [] [0, 1, 2, 3, 4, 5, 6, 7, 8, 9] rfl rfl (by decide) (by decide) hk1 hFc hP1 hD1
  generalize H1 = H at hP hS ⊢
  have hP : va_P (dC, dI) vwCl [(h0, .inr (7, [.ref h1, .ref z0, .ref z1, .ref z2, .ref z3, .ref z4, .int 0, .int 0, .int 0])), (h1, .inl (k0, 4, .inr (.inr (.inr (.inr (va_up (va_up (va_up (va_up (fun _ => none) 0 (some h2)) 1 (some h4)) 2 (some h6)) 3 (some h8))))))), (h2, .inr (6, [.ref h3, .int 0])), (h3, .inl (k1, 64, .inl (fun _ => 0))), (h4, .inr (6, [.ref h5, .int 0])), (h5, .inl (k2, 64, .inl (fun _ => 0))), (h6, .inr (6, [.ref h7, .int 0])), (h7, .inl (k3, 64, .inl (fun _ => 0))), (h8, .inr (6, [.ref h9, .int 0])), (h9, .inl (k4, 64, .inl (fun _ => 0)))] H := hP
  have hD : va_D A [(h0, .inr (7, [.ref h1, .ref z0, .ref z1, .ref z2, .ref z3, .ref z4, .int 0, .int 0, .int 0])), (h1, .inl (k0, 4, .inr (.inr (.inr (.inr (va_up (va_up (va_up (va_up (fun _ => none) 0 (some h2)) 1 (some h4)) 2 (some h6)) 3 (some h8))))))), (h2, .inr (6, [.ref h3, .int 0])), (h3, .inl (k1, 64, .inl (fun _ => 0))), (h4, .inr (6, [.ref h5, .int 0])), (h5, .inl (k2, 64, .inl (fun _ => 0))), (h6, .inr (6, [.ref h7, .int 0])), (h7, .inl (k3, 64, .inl (fun _ => 0))), (h8, .inr (6, [.ref h9, .int 0])), (h9, .inl (k4, 64, .inl (fun _ => 0)))] := hD
  refine lv_iload_n hx hb dX3_copy_4 rfl (lv_at hl 2 rfl) ?_
  have hPc := hP.sub (ws' := []) [] rfl
  have hDc := hD.sub (ws' := []) [] (by decide) rfl
  have hKc := hK.sub (tys' := []) [] rfl
  have hFc := va_free (wc := []) hD hS hA [] rfl
  refine va_callv (va_runS (As := [.int 1]) (rest := []) ⟨hx, hb, hml, hown, hts⟩ (kx_X3_needRope_1 l dC dI H.size) (cwS 1 hts gX3_copy_X3_needRope rfl rfl rfl (by decide +kernel) ⟨Nat.le_of_ble_eq_true rfl, Nat.le_of_ble_eq_true rfl⟩) ⟨fun a U g mk q => by obtain ⟨q0, q1, qP, qK, qD⟩ := q; exact ⟨q0, q1, qP, va_K.moved (u := U) (U := U.calling g mk a) (Vm.Alike.refl U.vm) qK, qD⟩, fun U hU hW => ⟨rfl, by rw [hU], by rw [hU]; exact hPc, va_K.moved hW.alike hKc, hDc.weaken (fun _ _ _ _ => trivial)⟩⟩ rfl rfl hl.1 rfl (lv_room (Nat.le_of_ble_eq_true rfl)) dX3_copy_5 ⟨Nat.le_of_ble_eq_true rfl, Nat.le_of_ble_eq_true rfl⟩) hS (fun q _ h => hFc q h) hFc (fun u t H1 locs ht hvm hw hB hz1 hk1 hS => ?_)
  obtain ⟨hP1, hK1, hD1⟩ := hB
  rw [ht] at hP1
  have hK1 := va_K.moved hvm.symm hK1
  obtain ⟨hP, hD⟩ := va_join (wr := [(h0, .inr (7, [.ref h1, .ref z0, .ref z1, .ref z2, .ref z3, .ref z4, .int 0, .int 0, .int 0])), (h1, .inl (k0, 4, .inr (.inr (.inr (.inr (va_up (va_up (va_up (va_up (fun _ => none) 0 (some h2)) 1 (some h4)) 2 (some h6)) 3 (some h8))))))), (h2, .inr (6, [.ref h3, .int 0])), (h3, .inl (k1, 64, .inl (fun _ => 0))), (h4, .inr (6, [.ref h5, .int 0])), (h5, .inl (k2, 64, .inl (fun _ => 0))), (h6, .inr (6, [.ref h7, .int 0])), (h7, .inl (k3, 64, .inl (fun _ => 0))), (h8, .inr (6, [.ref h9, .int 0])), (h9, .inl (k4, 64, .inl (fun _ => 0)))]) (w1 := []) hP hD [] [0, 1, 2, 3, 4, 5, 6, 7, 8, 9] rfl rfl (by decide) (by decide) hk1 hFc hP1 hD1
  generalize H1 = H at hP hS ⊢
  have hP : va_P (dC, dI) vwCl [(h0, .inr (7, [.ref h1, .ref z0, .ref z1, .ref z2, .ref z3, .ref z4, .int 0, .int 0, .int 0])), (h1, .inl (k0, 4, .inr (.inr (.inr (.inr (va_up (va_up (va_up (va_up (fun _ => none) 0 (some h2)) 1 (some h4)) 2 (some h6)) 3 (some h8))))))), (h2, .inr (6, [.ref h3, .int 0])), (h3, .inl (k1, 64, .inl (fun _ => 0))), (h4, .inr (6, [.ref h5, .int 0])), (h5, .inl (k2, 64, .inl (fun _ => 0))), (h6, .inr (6, [.ref h7, .int 0])), (h7, .inl (k3, 64, .inl (fun _ => 0))), (h8, .inr (6, [.ref h9, .int 0])), (h9, .inl (k4, 64, .inl (fun _ => 0)))] H := hP
  have hD : va_D A [(h0, .inr (7, [.ref h1, .ref z0, .ref z1, .ref z2, .ref z3, .ref z4, .int 0, .int 0, .int 0])), (h1, .inl (k0, 4, .inr (.inr (.inr (.inr (va_up (va_up (va_up (va_up (fun _ => none) 0 (some h2)) 1 (some h4)) 2 (some h6)) 3 (some h8))))))), (h2, .inr (6, [.ref h3, .int 0])), (h3, .inl (k1, 64, .inl (fun _ => 0))), (h4, .inr (6, [.ref h5, .int 0])), (h5, .inl (k2, 64, .inl (fun _ => 0))), (h6, .inr (6, [.ref h7, .int 0])), (h7, .inl (k3, 64, .inl (fun _ => 0))), (h8, .inr (6, [.ref h9, .int 0])), (h9, .inl (k4, 64, .inl (fun _ => 0)))] := hD
  refine lv_aload_n hx hb dX3_copy_8 rfl (lv_at hl 0 rfl) ?_
  refine va_get (D := (dC, dI)) (ci := 7) (v := .ref h1) (C := RX3) (T := TX3) (N := 9) hx hb hts (by decide +kernel) hown hK hP 0 rfl rfl 0 (by decide) (hts (.fieldLink RX3 11 "Rewriterope" "ropes" "[LRewriterope$Text;") (by decide +kernel)) (fun _ h9 => h9) rfl dX3_copy_9 ?_
  refine lv_iload_n hx hb dX3_copy_12 rfl (lv_at hl 1 rfl) ?_
  refine va_aldq (D := (dC, dI)) hx hb hK hP 1 0 rfl rfl (by unfold vp_in; decide) dX3_copy_13 ?_
  refine W.eq (g2 := F0 m 14 ls [.ref h4]) rfl ?_
  refine lv_aload_n hx hb dX3_copy_14 rfl (lv_at hl 0 rfl) ?_
  refine va_get (D := (dC, dI)) (ci := 7) (v := .ref h1) (C := RX3) (T := TX3) (N := 9) hx hb hts (by decide +kernel) hown hK hP 0 rfl rfl 0 (by decide) (hts (.fieldLink RX3 11 "Rewriterope" "ropes" "[LRewriterope$Text;") (by decide +kernel)) (fun _ h9 => h9) rfl dX3_copy_15 ?_
  refine lv_iload_n hx hb dX3_copy_18 rfl (lv_at hl 2 rfl) ?_
  refine va_aldq (D := (dC, dI)) hx hb hK hP 1 0 rfl rfl (by unfold vp_in; decide) dX3_copy_19 ?_
  refine W.eq (g2 := F0 m 20 ls [.ref h4, .ref h4]) rfl ?_
  have hPc := hP.sub (ws' := [(h4, .inr (6, [.ref h5, .int 0])), (h5, .inl (k2, 64, .inl (fun _ => 0)))]) [4, 5] rfl
  have hDc := hD.sub (ws' := [(h4, .inr (6, [.ref h5, .int 0])), (h5, .inl (k2, 64, .inl (fun _ => 0)))]) [4, 5] (by decide) rfl
  have hKc := hK.sub (tys' := [(k2, .byte)]) [2] rfl
  have hFc := va_free (wc := [(h4, .inr (6, [.ref h5, .int 0])), (h5, .inl (k2, 64, .inl (fun _ => 0)))]) hD hS hA [4, 5] rfl
  refine va_callv (va_runV (As := [.ref h4]) (rest := []) ⟨hx, hb, hml, hown, hts⟩ (kx_X2_become_0 l dC dI h4 h5 k2 H.size) (cwV 1 hts gX3_copy_X2_become rfl rfl rfl (by decide +kernel) ⟨Nat.le_of_ble_eq_true rfl, Nat.le_of_ble_eq_true rfl⟩) ⟨fun a U g mk q => by obtain ⟨q0, q1, qP, qK, qD⟩ := q; exact ⟨q0, q1, qP, va_K.moved (u := U) (U := U.calling g mk a) (Vm.Alike.refl U.vm) qK, qD⟩, va_recv hKc hPc (ci := 6) (q0 := 0) rfl rfl, fun U hU hW => ⟨rfl, by rw [hU], by rw [hU]; exact hPc, va_K.moved hW.alike hKc, hDc.weaken (fun _ _ _ _ => trivial)⟩⟩ rfl rfl hl.1 rfl (lv_room (Nat.le_of_ble_eq_true rfl)) dX3_copy_20 ⟨Nat.le_of_ble_eq_true rfl, Nat.le_of_ble_eq_true rfl⟩) hS (fun q _ h => hFc q h) hFc (fun u t H1 locs ht hvm hw hB hz1 hk1 hS => ?_)
  obtain ⟨hP1, hK1, hD1⟩ := hB
  rw [ht] at hP1
  have hK1 := va_K.moved hvm.symm hK1
  obtain ⟨hP, hD⟩ := va_join (wr := [(h0, .inr (7, [.ref h1, .ref z0, .ref z1, .ref z2, .ref z3, .ref z4, .int 0, .int 0, .int 0])), (h1, .inl (k0, 4, .inr (.inr (.inr (.inr (va_up (va_up (va_up (va_up (fun _ => none) 0 (some h2)) 1 (some h4)) 2 (some h6)) 3 (some h8))))))), (h2, .inr (6, [.ref h3, .int 0])), (h3, .inl (k1, 64, .inl (fun _ => 0))), (h6, .inr (6, [.ref h7, .int 0])), (h7, .inl (k3, 64, .inl (fun _ => 0))), (h8, .inr (6, [.ref h9, .int 0])), (h9, .inl (k4, 64, .inl (fun _ => 0)))]) (w1 := [(h4, .inr (6, [.ref h5, .int 0])), (h5, .inl (k2, 64, .inl (fun _ => 0)))]) hP hD [4, 5] [0, 1, 2, 3, 6, 7, 8, 9] rfl rfl (by decide) (by decide) hk1 hFc hP1 hD1
  generalize H1 = H at hP hS ⊢
  have hP : va_P (dC, dI) vwCl [(h0, .inr (7, [.ref h1, .ref z0, .ref z1, .ref z2, .ref z3, .ref z4, .int 0, .int 0, .int 0])), (h1, .inl (k0, 4, .inr (.inr (.inr (.inr (va_up (va_up (va_up (va_up (fun _ => none) 0 (some h2)) 1 (some h4)) 2 (some h6)) 3 (some h8))))))), (h2, .inr (6, [.ref h3, .int 0])), (h3, .inl (k1, 64, .inl (fun _ => 0))), (h6, .inr (6, [.ref h7, .int 0])), (h7, .inl (k3, 64, .inl (fun _ => 0))), (h8, .inr (6, [.ref h9, .int 0])), (h9, .inl (k4, 64, .inl (fun _ => 0))), (h4, .inr (6, [.ref h5, .int 0])), (h5, .inl (k2, 64, .inl (fun _ => 0)))] H := hP
  have hD : va_D A [(h0, .inr (7, [.ref h1, .ref z0, .ref z1, .ref z2, .ref z3, .ref z4, .int 0, .int 0, .int 0])), (h1, .inl (k0, 4, .inr (.inr (.inr (.inr (va_up (va_up (va_up (va_up (fun _ => none) 0 (some h2)) 1 (some h4)) 2 (some h6)) 3 (some h8))))))), (h2, .inr (6, [.ref h3, .int 0])), (h3, .inl (k1, 64, .inl (fun _ => 0))), (h6, .inr (6, [.ref h7, .int 0])), (h7, .inl (k3, 64, .inl (fun _ => 0))), (h8, .inr (6, [.ref h9, .int 0])), (h9, .inl (k4, 64, .inl (fun _ => 0))), (h4, .inr (6, [.ref h5, .int 0])), (h5, .inl (k2, 64, .inl (fun _ => 0)))] := hD
  refine lv_aload_n hx hb dX3_copy_23 rfl (lv_at hl 0 rfl) ?_
  refine va_get (D := (dC, dI)) (ci := 7) (v := .ref h1) (C := RX3) (T := TX3) (N := 9) hx hb hts (by decide +kernel) hown hK hP 0 rfl rfl 0 (by decide) (hts (.fieldLink RX3 11 "Rewriterope" "ropes" "[LRewriterope$Text;") (by decide +kernel)) (fun _ h9 => h9) rfl dX3_copy_24 ?_
  refine lv_iload_n hx hb dX3_copy_27 rfl (lv_at hl 1 rfl) ?_
  refine va_aldq (D := (dC, dI)) hx hb hK hP 1 0 rfl rfl (by unfold vp_in; decide) dX3_copy_28 ?_
  refine W.eq (g2 := F0 m 29 ls [.ref h4]) rfl ?_
  refine va_get (D := (dC, dI)) (ci := 6) (v := .int 0) (C := RX2) (T := TX2) (N := 2) hx hb hts (by decide +kernel) hown hK hP 8 rfl rfl 1 (by decide) (hts (.fieldLink RX3 65 "Rewriterope$Text" "length" "I") (by decide +kernel)) (fun _ h9 => h9) rfl dX3_copy_29 ?_
  have hP := hP.sub (ws' := [(h0, .inr (7, [.ref h1, .ref z0, .ref z1, .ref z2, .ref z3, .ref z4, .int 0, .int 0, .int 0])), (h1, .inl (k0, 4, .inr (.inr (.inr (.inr (va_up (va_up (va_up (va_up (fun _ => none) 0 (some h2)) 1 (some h4)) 2 (some h6)) 3 (some h8))))))), (h2, .inr (6, [.ref h3, .int 0])), (h3, .inl (k1, 64, .inl (fun _ => 0))), (h4, .inr (6, [.ref h5, .int 0])), (h5, .inl (k2, 64, .inl (fun _ => 0))), (h6, .inr (6, [.ref h7, .int 0])), (h7, .inl (k3, 64, .inl (fun _ => 0))), (h8, .inr (6, [.ref h9, .int 0])), (h9, .inl (k4, 64, .inl (fun _ => 0)))]) [0, 1, 2, 3, 8, 9, 4, 5, 6, 7] rfl
  have hD := hD.sub (ws' := [(h0, .inr (7, [.ref h1, .ref z0, .ref z1, .ref z2, .ref z3, .ref z4, .int 0, .int 0, .int 0])), (h1, .inl (k0, 4, .inr (.inr (.inr (.inr (va_up (va_up (va_up (va_up (fun _ => none) 0 (some h2)) 1 (some h4)) 2 (some h6)) 3 (some h8))))))), (h2, .inr (6, [.ref h3, .int 0])), (h3, .inl (k1, 64, .inl (fun _ => 0))), (h4, .inr (6, [.ref h5, .int 0])), (h5, .inl (k2, 64, .inl (fun _ => 0))), (h6, .inr (6, [.ref h7, .int 0])), (h7, .inl (k3, 64, .inl (fun _ => 0))), (h8, .inr (6, [.ref h9, .int 0])), (h9, .inl (k4, 64, .inl (fun _ => 0)))]) [0, 1, 2, 3, 8, 9, 4, 5, 6, 7] (by decide) rfl
  exact W.iret (v := 0) hx hb hr (fun t ht hW => ⟨⟨0, (), rfl, rfl, by rw [ht]; exact hP, va_K.moved hW.alike hK, hD⟩, hS.F ht⟩) hS.2.2 dX3_copy_32
set_option maxHeartbeats 4000000 in
set_option maxRecDepth 100000 in
theorem kx_X3_copy_6 (l : Launch) (dC : Nat → ClassId) (dI : Nat → Nat → Nat) (h0 : Nat) (h1 : Nat) (h2 : Nat) (h3 : Nat) (h4 : Nat) (h5 : Nat) (h6 : Nat) (h7 : Nat) (h8 : Nat) (h9 : Nat) (z0 : Nat) (z1 : Nat) (z2 : Nat) (z3 : Nat) (z4 : Nat) (k0 : ClassId) (k1 : ClassId) (k2 : ClassId) (k3 : ClassId) (k4 : ClassId) (sz : Nat) : Met l yX3_copy wsX3_copy ({ frames := 2, cells := 0, slots := 0, locals := 81 }) (va_Pc [.ref h0, .int 1, .int 2] (fun U => U.heap.size = sz ∧ va_P (dC, dI) vwCl [(h0, .inr (7, [.ref h1, .ref z0, .ref z1, .ref z2, .ref z3, .ref z4, .int 0, .int 0, .int 0])), (h1, .inl (k0, 4, .inr (.inr (.inr (.inr (va_up (va_up (va_up (va_up (fun _ => none) 0 (some h2)) 1 (some h4)) 2 (some h6)) 3 (some h8))))))), (h2, .inr (6, [.ref h3, .int 0])), (h3, .inl (k1, 64, .inl (fun _ => 0))), (h4, .inr (6, [.ref h5, .int 0])), (h5, .inl (k2, 64, .inl (fun _ => 0))), (h6, .inr (6, [.ref h7, .int 0])), (h7, .inl (k3, 64, .inl (fun _ => 0))), (h8, .inr (6, [.ref h9, .int 0])), (h9, .inl (k4, 64, .inl (fun _ => 0)))] U.heap ∧ va_K (dC, dI) vwCl [(k0, .object "Rewriterope$Text"), (k1, .byte), (k2, .byte), (k3, .byte), (k4, .byte)] U ∧ va_D (fun _ => True) [(h0, .inr (7, [.ref h1, .ref z0, .ref z1, .ref z2, .ref z3, .ref z4, .int 0, .int 0, .int 0])), (h1, .inl (k0, 4, .inr (.inr (.inr (.inr (va_up (va_up (va_up (va_up (fun _ => none) 0 (some h2)) 1 (some h4)) 2 (some h6)) 3 (some h8))))))), (h2, .inr (6, [.ref h3, .int 0])), (h3, .inl (k1, 64, .inl (fun _ => 0))), (h4, .inr (6, [.ref h5, .int 0])), (h5, .inl (k2, 64, .inl (fun _ => 0))), (h6, .inr (6, [.ref h7, .int 0])), (h7, .inl (k3, 64, .inl (fun _ => 0))), (h8, .inr (6, [.ref h9, .int 0])), (h9, .inl (k4, 64, .inl (fun _ => 0)))])) (va_Qi (fun (r : Int32) (_ : Unit) => r = 0) (fun (_ : Unit) (t : State) => va_P (dC, dI) vwCl [(h0, .inr (7, [.ref h1, .ref z0, .ref z1, .ref z2, .ref z3, .ref z4, .int 0, .int 0, .int 0])), (h1, .inl (k0, 4, .inr (.inr (.inr (.inr (va_up (va_up (va_up (va_up (fun _ => none) 0 (some h2)) 1 (some h4)) 2 (some h6)) 3 (some h8))))))), (h2, .inr (6, [.ref h3, .int 0])), (h3, .inl (k1, 64, .inl (fun _ => 0))), (h4, .inr (6, [.ref h5, .int 0])), (h5, .inl (k2, 64, .inl (fun _ => 0))), (h6, .inr (6, [.ref h7, .int 0])), (h7, .inl (k3, 64, .inl (fun _ => 0))), (h8, .inr (6, [.ref h9, .int 0])), (h9, .inl (k4, 64, .inl (fun _ => 0)))] t.heap ∧ va_K (dC, dI) vwCl [(k0, .object "Rewriterope$Text"), (k1, .byte), (k2, .byte), (k3, .byte), (k4, .byte)] t ∧ va_D (va_A [(h0, .inr (7, [.ref h1, .ref z0, .ref z1, .ref z2, .ref z3, .ref z4, .int 0, .int 0, .int 0])), (h1, .inl (k0, 4, .inr (.inr (.inr (.inr (va_up (va_up (va_up (va_up (fun _ => none) 0 (some h2)) 1 (some h4)) 2 (some h6)) 3 (some h8))))))), (h2, .inr (6, [.ref h3, .int 0])), (h3, .inl (k1, 64, .inl (fun _ => 0))), (h4, .inr (6, [.ref h5, .int 0])), (h5, .inl (k2, 64, .inl (fun _ => 0))), (h6, .inr (6, [.ref h7, .int 0])), (h7, .inl (k3, 64, .inl (fun _ => 0))), (h8, .inr (6, [.ref h9, .int 0])), (h9, .inl (k4, 64, .inl (fun _ => 0)))] sz) [(h0, .inr (7, [.ref h1, .ref z0, .ref z1, .ref z2, .ref z3, .ref z4, .int 0, .int 0, .int 0])), (h1, .inl (k0, 4, .inr (.inr (.inr (.inr (va_up (va_up (va_up (va_up (fun _ => none) 0 (some h2)) 1 (some h4)) 2 (some h6)) 3 (some h8))))))), (h2, .inr (6, [.ref h3, .int 0])), (h3, .inl (k1, 64, .inl (fun _ => 0))), (h4, .inr (6, [.ref h5, .int 0])), (h5, .inl (k2, 64, .inl (fun _ => 0))), (h6, .inr (6, [.ref h7, .int 0])), (h7, .inl (k3, 64, .inl (fun _ => 0))), (h8, .inr (6, [.ref h9, .int 0])), (h9, .inl (k4, 64, .inl (fun _ => 0)))]) (va_A [(h0, .inr (7, [.ref h1, .ref z0, .ref z1, .ref z2, .ref z3, .ref z4, .int 0, .int 0, .int 0])), (h1, .inl (k0, 4, .inr (.inr (.inr (.inr (va_up (va_up (va_up (va_up (fun _ => none) 0 (some h2)) 1 (some h4)) 2 (some h6)) 3 (some h8))))))), (h2, .inr (6, [.ref h3, .int 0])), (h3, .inl (k1, 64, .inl (fun _ => 0))), (h4, .inr (6, [.ref h5, .int 0])), (h5, .inl (k2, 64, .inl (fun _ => 0))), (h6, .inr (6, [.ref h7, .int 0])), (h7, .inl (k3, 64, .inl (fun _ => 0))), (h8, .inr (6, [.ref h9, .int 0])), (h9, .inl (k4, 64, .inl (fun _ => 0)))] sz)) 0 0 (va_A [(h0, .inr (7, [.ref h1, .ref z0, .ref z1, .ref z2, .ref z3, .ref z4, .int 0, .int 0, .int 0])), (h1, .inl (k0, 4, .inr (.inr (.inr (.inr (va_up (va_up (va_up (va_up (fun _ => none) 0 (some h2)) 1 (some h4)) 2 (some h6)) 3 (some h8))))))), (h2, .inr (6, [.ref h3, .int 0])), (h3, .inl (k1, 64, .inl (fun _ => 0))), (h4, .inr (6, [.ref h5, .int 0])), (h5, .inl (k2, 64, .inl (fun _ => 0))), (h6, .inr (6, [.ref h7, .int 0])), (h7, .inl (k3, 64, .inl (fun _ => 0))), (h8, .inr (6, [.ref h9, .int 0])), (h9, .inl (k4, 64, .inl (fun _ => 0)))] sz) := by
  refine Met.ofW (cc := cX3_copy) (maxL := 3) (ret := (some .int)) (by decide) rfl ?_
  intro p e s m args below meth c s₁ B hml hv
  obtain ⟨rfl, hsz, hP, hK, hD0⟩ := hv
  have hx := B.exec
  have hb := B.bytes
  have hr := B.returns
  have hts := atoms_spec (ws := wsX3_copy) B.pre
  have hown : s.vm.findClass RX3 = some m.cls := findClass_of_methodNamed B.named
  have hlocks := B.notSynchronized
  subst hsz
  have hD := hD0.self (sz := s.heap.size)
  generalize hAe : va_A [(h0, .inr (7, [.ref h1, .ref z0, .ref z1, .ref z2, .ref z3, .ref z4, .int 0, .int 0, .int 0])), (h1, .inl (k0, 4, .inr (.inr (.inr (.inr (va_up (va_up (va_up (va_up (fun _ => none) 0 (some h2)) 1 (some h4)) 2 (some h6)) 3 (some h8))))))), (h2, .inr (6, [.ref h3, .int 0])), (h3, .inl (k1, 64, .inl (fun _ => 0))), (h4, .inr (6, [.ref h5, .int 0])), (h5, .inl (k2, 64, .inl (fun _ => 0))), (h6, .inr (6, [.ref h7, .int 0])), (h7, .inl (k3, 64, .inl (fun _ => 0))), (h8, .inr (6, [.ref h9, .int 0])), (h9, .inl (k4, 64, .inl (fun _ => 0)))] s.heap.size = A at hD ⊢
  have hA : ∀ q : Nat, s.heap.size ≤ q → A q := fun q h => by rw [← hAe]; exact Or.inr h
  have hS : va_S A s.heap s.heap [] := va_S.rf
  have hP : va_P (dC, dI) vwCl [(h0, .inr (7, [.ref h1, .ref z0, .ref z1, .ref z2, .ref z3, .ref z4, .int 0, .int 0, .int 0])), (h1, .inl (k0, 4, .inr (.inr (.inr (.inr (va_up (va_up (va_up (va_up (fun _ => none) 0 (some h2)) 1 (some h4)) 2 (some h6)) 3 (some h8))))))), (h2, .inr (6, [.ref h3, .int 0])), (h3, .inl (k1, 64, .inl (fun _ => 0))), (h4, .inr (6, [.ref h5, .int 0])), (h5, .inl (k2, 64, .inl (fun _ => 0))), (h6, .inr (6, [.ref h7, .int 0])), (h7, .inl (k3, 64, .inl (fun _ => 0))), (h8, .inr (6, [.ref h9, .int 0])), (h9, .inl (k4, 64, .inl (fun _ => 0)))] s.heap := hP
  have hl := lv_entry ([.ref h0, .int 1, .int 2]) (n := 3) (Nat.le_of_ble_eq_true rfl)
  rw [lg_entry_eq]
  generalize (lg_sl ([.ref h0, .int 1, .int 2]) ++ List.replicate (3 - (lg_sl ([.ref h0, .int 1, .int 2])).length) Slot.unset).toArray = ls at hl ⊢
  have hl : lv_has ls 3 [(0, .ref h0), (1, .int 1), (2, .int 2)] := hl
  refine lv_iload_n hx hb dX3_copy_0 rfl (lv_at hl 1 rfl) ?_
  have hPc := hP.sub (ws' := []) [] rfl
  have hDc := hD.sub (ws' := []) [] (by decide) rfl
  have hKc := hK.sub (tys' := []) [] rfl
  have hFc := va_free (wc := []) hD hS hA [] rfl
  refine va_callv (va_runS (As := [.int 1]) (rest := []) ⟨hx, hb, hml, hown, hts⟩ (kx_X3_needRope_1 l dC dI s.heap.size) (cwS 1 hts gX3_copy_X3_needRope rfl rfl rfl (by decide +kernel) ⟨Nat.le_of_ble_eq_true rfl, Nat.le_of_ble_eq_true rfl⟩) ⟨fun a U g mk q => by obtain ⟨q0, q1, qP, qK, qD⟩ := q; exact ⟨q0, q1, qP, va_K.moved (u := U) (U := U.calling g mk a) (Vm.Alike.refl U.vm) qK, qD⟩, fun U hU hW => ⟨rfl, by rw [hU], by rw [hU]; exact hPc, va_K.moved hW.alike hKc, hDc.weaken (fun _ _ _ _ => trivial)⟩⟩ rfl rfl hl.1 rfl (lv_room (Nat.le_of_ble_eq_true rfl)) dX3_copy_1 ⟨Nat.le_of_ble_eq_true rfl, Nat.le_of_ble_eq_true rfl⟩) hS (fun q _ h => hFc q h) hFc (fun u t H1 locs ht hvm hw hB hz1 hk1 hS => ?_)
  obtain ⟨hP1, hK1, hD1⟩ := hB
  rw [ht] at hP1
  have hK1 := va_K.moved hvm.symm hK1
  obtain ⟨hP, hD⟩ := va_join (wr := [(h0, .inr (7, [.ref h1, .ref z0, .ref z1, .ref z2, .ref z3, .ref z4, .int 0, .int 0, .int 0])), (h1, .inl (k0, 4, .inr (.inr (.inr (.inr (va_up (va_up (va_up (va_up (fun _ => none) 0 (some h2)) 1 (some h4)) 2 (some h6)) 3 (some h8))))))), (h2, .inr (6, [.ref h3, .int 0])), (h3, .inl (k1, 64, .inl (fun _ => 0))), (h4, .inr (6, [.ref h5, .int 0])), (h5, .inl (k2, 64, .inl (fun _ => 0))), (h6, .inr (6, [.ref h7, .int 0])), (h7, .inl (k3, 64, .inl (fun _ => 0))), (h8, .inr (6, [.ref h9, .int 0])), (h9, .inl (k4, 64, .inl (fun _ => 0)))]) (w1 := []) hP hD [] [0, 1, 2, 3, 4, 5, 6, 7, 8, 9] rfl rfl (by decide) (by decide) hk1 hFc hP1 hD1
  generalize H1 = H at hP hS ⊢
  have hP : va_P (dC, dI) vwCl [(h0, .inr (7, [.ref h1, .ref z0, .ref z1, .ref z2, .ref z3, .ref z4, .int 0, .int 0, .int 0])), (h1, .inl (k0, 4, .inr (.inr (.inr (.inr (va_up (va_up (va_up (va_up (fun _ => none) 0 (some h2)) 1 (some h4)) 2 (some h6)) 3 (some h8))))))), (h2, .inr (6, [.ref h3, .int 0])), (h3, .inl (k1, 64, .inl (fun _ => 0))), (h4, .inr (6, [.ref h5, .int 0])), (h5, .inl (k2, 64, .inl (fun _ => 0))), (h6, .inr (6, [.ref h7, .int 0])), (h7, .inl (k3, 64, .inl (fun _ => 0))), (h8, .inr (6, [.ref h9, .int 0])), (h9, .inl (k4, 64, .inl (fun _ => 0)))] H := hP
  have hD : va_D A [(h0, .inr (7, [.ref h1, .ref z0, .ref z1, .ref z2, .ref z3, .ref z4, .int 0, .int 0, .int 0])), (h1, .inl (k0, 4, .inr (.inr (.inr (.inr (va_up (va_up (va_up (va_up (fun _ => none) 0 (some h2)) 1 (some h4)) 2 (some h6)) 3 (some h8))))))), (h2, .inr (6, [.ref h3, .int 0])), (h3, .inl (k1, 64, .inl (fun _ => 0))), (h4, .inr (6, [.ref h5, .int 0])), (h5, .inl (k2, 64, .inl (fun _ => 0))), (h6, .inr (6, [.ref h7, .int 0])), (h7, .inl (k3, 64, .inl (fun _ => 0))), (h8, .inr (6, [.ref h9, .int 0])), (h9, .inl (k4, 64, .inl (fun _ => 0)))] := hD
  refine lv_iload_n hx hb dX3_copy_4 rfl (lv_at hl 2 rfl) ?_
  have hPc := hP.sub (ws' := []) [] rfl
  have hDc := hD.sub (ws' := []) [] (by decide) rfl
  have hKc := hK.sub (tys' := []) [] rfl
  have hFc := va_free (wc := []) hD hS hA [] rfl
  refine va_callv (va_runS (As := [.int 2]) (rest := []) ⟨hx, hb, hml, hown, hts⟩ (kx_X3_needRope_2 l dC dI H.size) (cwS 1 hts gX3_copy_X3_needRope rfl rfl rfl (by decide +kernel) ⟨Nat.le_of_ble_eq_true rfl, Nat.le_of_ble_eq_true rfl⟩) ⟨fun a U g mk q => by obtain ⟨q0, q1, qP, qK, qD⟩ := q; exact ⟨q0, q1, qP, va_K.moved (u := U) (U := U.calling g mk a) (Vm.Alike.refl U.vm) qK, qD⟩, fun U hU hW => ⟨rfl, by rw [hU], by rw [hU]; exact hPc, va_K.moved hW.alike hKc, hDc.weaken (fun _ _ _ _ => trivial)⟩⟩ rfl rfl hl.1 rfl (lv_room (Nat.le_of_ble_eq_true rfl)) dX3_copy_5 ⟨Nat.le_of_ble_eq_true rfl, Nat.le_of_ble_eq_true rfl⟩) hS (fun q _ h => hFc q h) hFc (fun u t H1 locs ht hvm hw hB hz1 hk1 hS => ?_)
  obtain ⟨hP1, hK1, hD1⟩ := hB
  rw [ht] at hP1
  have hK1 := va_K.moved hvm.symm hK1
  obtain ⟨hP, hD⟩ := va_join (wr := [(h0, .inr (7, [.ref h1, .ref z0, .ref z1, .ref z2, .ref z3, .ref z4, .int 0, .int 0, .int 0])), (h1, .inl (k0, 4, .inr (.inr (.inr (.inr (va_up (va_up (va_up (va_up (fun _ => none) 0 (some h2)) 1 (some h4)) 2 (some h6)) 3 (some h8))))))), (h2, .inr (6, [.ref h3, .int 0])), (h3, .inl (k1, 64, .inl (fun _ => 0))), (h4, .inr (6, [.ref h5, .int 0])), (h5, .inl (k2, 64, .inl (fun _ => 0))), (h6, .inr (6, [.ref h7, .int 0])), (h7, .inl (k3, 64, .inl (fun _ => 0))), (h8, .inr (6, [.ref h9, .int 0])), (h9, .inl (k4, 64, .inl (fun _ => 0)))]) (w1 := []) hP hD [] [0, 1, 2, 3, 4, 5, 6, 7, 8, 9] rfl rfl (by decide) (by decide) hk1 hFc hP1 hD1
  generalize H1 = H at hP hS ⊢
  have hP : va_P (dC, dI) vwCl [(h0, .inr (7, [.ref h1, .ref z0, .ref z1, .ref z2, .ref z3, .ref z4, .int 0, .int 0, .int 0])), (h1, .inl (k0, 4, .inr (.inr (.inr (.inr (va_up (va_up (va_up (va_up (fun _ => none) 0 (some h2)) 1 (some h4)) 2 (some h6)) 3 (some h8))))))), (h2, .inr (6, [.ref h3, .int 0])), (h3, .inl (k1, 64, .inl (fun _ => 0))), (h4, .inr (6, [.ref h5, .int 0])), (h5, .inl (k2, 64, .inl (fun _ => 0))), (h6, .inr (6, [.ref h7, .int 0])), (h7, .inl (k3, 64, .inl (fun _ => 0))), (h8, .inr (6, [.ref h9, .int 0])), (h9, .inl (k4, 64, .inl (fun _ => 0)))] H := hP
  have hD : va_D A [(h0, .inr (7, [.ref h1, .ref z0, .ref z1, .ref z2, .ref z3, .ref z4, .int 0, .int 0, .int 0])), (h1, .inl (k0, 4, .inr (.inr (.inr (.inr (va_up (va_up (va_up (va_up (fun _ => none) 0 (some h2)) 1 (some h4)) 2 (some h6)) 3 (some h8))))))), (h2, .inr (6, [.ref h3, .int 0])), (h3, .inl (k1, 64, .inl (fun _ => 0))), (h4, .inr (6, [.ref h5, .int 0])), (h5, .inl (k2, 64, .inl (fun _ => 0))), (h6, .inr (6, [.ref h7, .int 0])), (h7, .inl (k3, 64, .inl (fun _ => 0))), (h8, .inr (6, [.ref h9, .int 0])), (h9, .inl (k4, 64, .inl (fun _ => 0)))] := hD
  refine lv_aload_n hx hb dX3_copy_8 rfl (lv_at hl 0 rfl) ?_
  refine va_get (D := (dC, dI)) (ci := 7) (v := .ref h1) (C := RX3) (T := TX3) (N := 9) hx hb hts (by decide +kernel) hown hK hP 0 rfl rfl 0 (by decide) (hts (.fieldLink RX3 11 "Rewriterope" "ropes" "[LRewriterope$Text;") (by decide +kernel)) (fun _ h9 => h9) rfl dX3_copy_9 ?_
  refine lv_iload_n hx hb dX3_copy_12 rfl (lv_at hl 1 rfl) ?_
  refine va_aldq (D := (dC, dI)) hx hb hK hP 1 0 rfl rfl (by unfold vp_in; decide) dX3_copy_13 ?_
  refine W.eq (g2 := F0 m 14 ls [.ref h4]) rfl ?_
  refine lv_aload_n hx hb dX3_copy_14 rfl (lv_at hl 0 rfl) ?_
  refine va_get (D := (dC, dI)) (ci := 7) (v := .ref h1) (C := RX3) (T := TX3) (N := 9) hx hb hts (by decide +kernel) hown hK hP 0 rfl rfl 0 (by decide) (hts (.fieldLink RX3 11 "Rewriterope" "ropes" "[LRewriterope$Text;") (by decide +kernel)) (fun _ h9 => h9) rfl dX3_copy_15 ?_
  refine lv_iload_n hx hb dX3_copy_18 rfl (lv_at hl 2 rfl) ?_
  refine va_aldq (D := (dC, dI)) hx hb hK hP 1 0 rfl rfl (by unfold vp_in; decide) dX3_copy_19 ?_
  refine W.eq (g2 := F0 m 20 ls [.ref h6, .ref h4]) rfl ?_
  have hPc := hP.sub (ws' := [(h4, .inr (6, [.ref h5, .int 0])), (h5, .inl (k2, 64, .inl (fun _ => 0))), (h6, .inr (6, [.ref h7, .int 0])), (h7, .inl (k3, 64, .inl (fun _ => 0)))]) [4, 5, 6, 7] rfl
  have hDc := hD.sub (ws' := [(h4, .inr (6, [.ref h5, .int 0])), (h5, .inl (k2, 64, .inl (fun _ => 0))), (h6, .inr (6, [.ref h7, .int 0])), (h7, .inl (k3, 64, .inl (fun _ => 0)))]) [4, 5, 6, 7] (by decide) rfl
  have hKc := hK.sub (tys' := [(k2, .byte), (k3, .byte)]) [2, 3] rfl
  have hFc := va_free (wc := [(h4, .inr (6, [.ref h5, .int 0])), (h5, .inl (k2, 64, .inl (fun _ => 0))), (h6, .inr (6, [.ref h7, .int 0])), (h7, .inl (k3, 64, .inl (fun _ => 0)))]) hD hS hA [4, 5, 6, 7] rfl
  refine va_callv (va_runV (As := [.ref h6]) (rest := []) ⟨hx, hb, hml, hown, hts⟩ (kx_X2_become_1 l dC dI h4 h5 h6 h7 k2 k3 H.size) (cwV 1 hts gX3_copy_X2_become rfl rfl rfl (by decide +kernel) ⟨Nat.le_of_ble_eq_true rfl, Nat.le_of_ble_eq_true rfl⟩) ⟨fun a U g mk q => by obtain ⟨q0, q1, qP, qK, qD⟩ := q; exact ⟨q0, q1, qP, va_K.moved (u := U) (U := U.calling g mk a) (Vm.Alike.refl U.vm) qK, qD⟩, va_recv hKc hPc (ci := 6) (q0 := 0) rfl rfl, fun U hU hW => ⟨rfl, by rw [hU], by rw [hU]; exact hPc, va_K.moved hW.alike hKc, hDc.weaken (fun _ _ _ _ => trivial)⟩⟩ rfl rfl hl.1 rfl (lv_room (Nat.le_of_ble_eq_true rfl)) dX3_copy_20 ⟨Nat.le_of_ble_eq_true rfl, Nat.le_of_ble_eq_true rfl⟩) hS (fun q _ h => hFc q h) hFc (fun u t H1 locs ht hvm hw hB hz1 hk1 hS => ?_)
  obtain ⟨hP1, hK1, hD1⟩ := hB
  rw [ht] at hP1
  have hK1 := va_K.moved hvm.symm hK1
  obtain ⟨hP, hD⟩ := va_join (wr := [(h0, .inr (7, [.ref h1, .ref z0, .ref z1, .ref z2, .ref z3, .ref z4, .int 0, .int 0, .int 0])), (h1, .inl (k0, 4, .inr (.inr (.inr (.inr (va_up (va_up (va_up (va_up (fun _ => none) 0 (some h2)) 1 (some h4)) 2 (some h6)) 3 (some h8))))))), (h2, .inr (6, [.ref h3, .int 0])), (h3, .inl (k1, 64, .inl (fun _ => 0))), (h8, .inr (6, [.ref h9, .int 0])), (h9, .inl (k4, 64, .inl (fun _ => 0)))]) (w1 := [(h4, .inr (6, [.ref h5, .int 0])), (h5, .inl (k2, 64, .inl (fun _ => 0))), (h6, .inr (6, [.ref h7, .int 0])), (h7, .inl (k3, 64, .inl (fun _ => 0)))]) hP hD [4, 5, 6, 7] [0, 1, 2, 3, 8, 9] rfl rfl (by decide) (by decide) hk1 hFc hP1 hD1
  generalize H1 = H at hP hS ⊢
  have hP : va_P (dC, dI) vwCl [(h0, .inr (7, [.ref h1, .ref z0, .ref z1, .ref z2, .ref z3, .ref z4, .int 0, .int 0, .int 0])), (h1, .inl (k0, 4, .inr (.inr (.inr (.inr (va_up (va_up (va_up (va_up (fun _ => none) 0 (some h2)) 1 (some h4)) 2 (some h6)) 3 (some h8))))))), (h2, .inr (6, [.ref h3, .int 0])), (h3, .inl (k1, 64, .inl (fun _ => 0))), (h8, .inr (6, [.ref h9, .int 0])), (h9, .inl (k4, 64, .inl (fun _ => 0))), (h4, .inr (6, [.ref h5, .int 0])), (h5, .inl (k2, 64, .inl (fun _ => 0))), (h6, .inr (6, [.ref h7, .int 0])), (h7, .inl (k3, 64, .inl (fun _ => 0)))] H := hP
  have hD : va_D A [(h0, .inr (7, [.ref h1, .ref z0, .ref z1, .ref z2, .ref z3, .ref z4, .int 0, .int 0, .int 0])), (h1, .inl (k0, 4, .inr (.inr (.inr (.inr (va_up (va_up (va_up (va_up (fun _ => none) 0 (some h2)) 1 (some h4)) 2 (some h6)) 3 (some h8))))))), (h2, .inr (6, [.ref h3, .int 0])), (h3, .inl (k1, 64, .inl (fun _ => 0))), (h8, .inr (6, [.ref h9, .int 0])), (h9, .inl (k4, 64, .inl (fun _ => 0))), (h4, .inr (6, [.ref h5, .int 0])), (h5, .inl (k2, 64, .inl (fun _ => 0))), (h6, .inr (6, [.ref h7, .int 0])), (h7, .inl (k3, 64, .inl (fun _ => 0)))] := hD
  refine lv_aload_n hx hb dX3_copy_23 rfl (lv_at hl 0 rfl) ?_
  refine va_get (D := (dC, dI)) (ci := 7) (v := .ref h1) (C := RX3) (T := TX3) (N := 9) hx hb hts (by decide +kernel) hown hK hP 0 rfl rfl 0 (by decide) (hts (.fieldLink RX3 11 "Rewriterope" "ropes" "[LRewriterope$Text;") (by decide +kernel)) (fun _ h9 => h9) rfl dX3_copy_24 ?_
  refine lv_iload_n hx hb dX3_copy_27 rfl (lv_at hl 1 rfl) ?_
  refine va_aldq (D := (dC, dI)) hx hb hK hP 1 0 rfl rfl (by unfold vp_in; decide) dX3_copy_28 ?_
  refine W.eq (g2 := F0 m 29 ls [.ref h4]) rfl ?_
  refine va_get (D := (dC, dI)) (ci := 6) (v := .int 0) (C := RX2) (T := TX2) (N := 2) hx hb hts (by decide +kernel) hown hK hP 6 rfl rfl 1 (by decide) (hts (.fieldLink RX3 65 "Rewriterope$Text" "length" "I") (by decide +kernel)) (fun _ h9 => h9) rfl dX3_copy_29 ?_
  have hP := hP.sub (ws' := [(h0, .inr (7, [.ref h1, .ref z0, .ref z1, .ref z2, .ref z3, .ref z4, .int 0, .int 0, .int 0])), (h1, .inl (k0, 4, .inr (.inr (.inr (.inr (va_up (va_up (va_up (va_up (fun _ => none) 0 (some h2)) 1 (some h4)) 2 (some h6)) 3 (some h8))))))), (h2, .inr (6, [.ref h3, .int 0])), (h3, .inl (k1, 64, .inl (fun _ => 0))), (h4, .inr (6, [.ref h5, .int 0])), (h5, .inl (k2, 64, .inl (fun _ => 0))), (h6, .inr (6, [.ref h7, .int 0])), (h7, .inl (k3, 64, .inl (fun _ => 0))), (h8, .inr (6, [.ref h9, .int 0])), (h9, .inl (k4, 64, .inl (fun _ => 0)))]) [0, 1, 2, 3, 6, 7, 8, 9, 4, 5] rfl
  have hD := hD.sub (ws' := [(h0, .inr (7, [.ref h1, .ref z0, .ref z1, .ref z2, .ref z3, .ref z4, .int 0, .int 0, .int 0])), (h1, .inl (k0, 4, .inr (.inr (.inr (.inr (va_up (va_up (va_up (va_up (fun _ => none) 0 (some h2)) 1 (some h4)) 2 (some h6)) 3 (some h8))))))), (h2, .inr (6, [.ref h3, .int 0])), (h3, .inl (k1, 64, .inl (fun _ => 0))), (h4, .inr (6, [.ref h5, .int 0])), (h5, .inl (k2, 64, .inl (fun _ => 0))), (h6, .inr (6, [.ref h7, .int 0])), (h7, .inl (k3, 64, .inl (fun _ => 0))), (h8, .inr (6, [.ref h9, .int 0])), (h9, .inl (k4, 64, .inl (fun _ => 0)))]) [0, 1, 2, 3, 6, 7, 8, 9, 4, 5] (by decide) rfl
  exact W.iret (v := 0) hx hb hr (fun t ht hW => ⟨⟨0, (), rfl, rfl, by rw [ht]; exact hP, va_K.moved hW.alike hK, hD⟩, hS.F ht⟩) hS.2.2 dX3_copy_32
set_option maxHeartbeats 4000000 in
set_option maxRecDepth 100000 in
theorem kx_X3_copy_7 (l : Launch) (dC : Nat → ClassId) (dI : Nat → Nat → Nat) (h0 : Nat) (h1 : Nat) (h2 : Nat) (h3 : Nat) (h4 : Nat) (h5 : Nat) (h6 : Nat) (h7 : Nat) (h8 : Nat) (h9 : Nat) (z0 : Nat) (z1 : Nat) (z2 : Nat) (z3 : Nat) (z4 : Nat) (k0 : ClassId) (k1 : ClassId) (k2 : ClassId) (k3 : ClassId) (k4 : ClassId) (sz : Nat) : Met l yX3_copy wsX3_copy ({ frames := 2, cells := 0, slots := 0, locals := 81 }) (va_Pc [.ref h0, .int 1, .int 3] (fun U => U.heap.size = sz ∧ va_P (dC, dI) vwCl [(h0, .inr (7, [.ref h1, .ref z0, .ref z1, .ref z2, .ref z3, .ref z4, .int 0, .int 0, .int 0])), (h1, .inl (k0, 4, .inr (.inr (.inr (.inr (va_up (va_up (va_up (va_up (fun _ => none) 0 (some h2)) 1 (some h4)) 2 (some h6)) 3 (some h8))))))), (h2, .inr (6, [.ref h3, .int 0])), (h3, .inl (k1, 64, .inl (fun _ => 0))), (h4, .inr (6, [.ref h5, .int 0])), (h5, .inl (k2, 64, .inl (fun _ => 0))), (h6, .inr (6, [.ref h7, .int 0])), (h7, .inl (k3, 64, .inl (fun _ => 0))), (h8, .inr (6, [.ref h9, .int 0])), (h9, .inl (k4, 64, .inl (fun _ => 0)))] U.heap ∧ va_K (dC, dI) vwCl [(k0, .object "Rewriterope$Text"), (k1, .byte), (k2, .byte), (k3, .byte), (k4, .byte)] U ∧ va_D (fun _ => True) [(h0, .inr (7, [.ref h1, .ref z0, .ref z1, .ref z2, .ref z3, .ref z4, .int 0, .int 0, .int 0])), (h1, .inl (k0, 4, .inr (.inr (.inr (.inr (va_up (va_up (va_up (va_up (fun _ => none) 0 (some h2)) 1 (some h4)) 2 (some h6)) 3 (some h8))))))), (h2, .inr (6, [.ref h3, .int 0])), (h3, .inl (k1, 64, .inl (fun _ => 0))), (h4, .inr (6, [.ref h5, .int 0])), (h5, .inl (k2, 64, .inl (fun _ => 0))), (h6, .inr (6, [.ref h7, .int 0])), (h7, .inl (k3, 64, .inl (fun _ => 0))), (h8, .inr (6, [.ref h9, .int 0])), (h9, .inl (k4, 64, .inl (fun _ => 0)))])) (va_Qi (fun (r : Int32) (_ : Unit) => r = 0) (fun (_ : Unit) (t : State) => va_P (dC, dI) vwCl [(h0, .inr (7, [.ref h1, .ref z0, .ref z1, .ref z2, .ref z3, .ref z4, .int 0, .int 0, .int 0])), (h1, .inl (k0, 4, .inr (.inr (.inr (.inr (va_up (va_up (va_up (va_up (fun _ => none) 0 (some h2)) 1 (some h4)) 2 (some h6)) 3 (some h8))))))), (h2, .inr (6, [.ref h3, .int 0])), (h3, .inl (k1, 64, .inl (fun _ => 0))), (h4, .inr (6, [.ref h5, .int 0])), (h5, .inl (k2, 64, .inl (fun _ => 0))), (h6, .inr (6, [.ref h7, .int 0])), (h7, .inl (k3, 64, .inl (fun _ => 0))), (h8, .inr (6, [.ref h9, .int 0])), (h9, .inl (k4, 64, .inl (fun _ => 0)))] t.heap ∧ va_K (dC, dI) vwCl [(k0, .object "Rewriterope$Text"), (k1, .byte), (k2, .byte), (k3, .byte), (k4, .byte)] t ∧ va_D (va_A [(h0, .inr (7, [.ref h1, .ref z0, .ref z1, .ref z2, .ref z3, .ref z4, .int 0, .int 0, .int 0])), (h1, .inl (k0, 4, .inr (.inr (.inr (.inr (va_up (va_up (va_up (va_up (fun _ => none) 0 (some h2)) 1 (some h4)) 2 (some h6)) 3 (some h8))))))), (h2, .inr (6, [.ref h3, .int 0])), (h3, .inl (k1, 64, .inl (fun _ => 0))), (h4, .inr (6, [.ref h5, .int 0])), (h5, .inl (k2, 64, .inl (fun _ => 0))), (h6, .inr (6, [.ref h7, .int 0])), (h7, .inl (k3, 64, .inl (fun _ => 0))), (h8, .inr (6, [.ref h9, .int 0])), (h9, .inl (k4, 64, .inl (fun _ => 0)))] sz) [(h0, .inr (7, [.ref h1, .ref z0, .ref z1, .ref z2, .ref z3, .ref z4, .int 0, .int 0, .int 0])), (h1, .inl (k0, 4, .inr (.inr (.inr (.inr (va_up (va_up (va_up (va_up (fun _ => none) 0 (some h2)) 1 (some h4)) 2 (some h6)) 3 (some h8))))))), (h2, .inr (6, [.ref h3, .int 0])), (h3, .inl (k1, 64, .inl (fun _ => 0))), (h4, .inr (6, [.ref h5, .int 0])), (h5, .inl (k2, 64, .inl (fun _ => 0))), (h6, .inr (6, [.ref h7, .int 0])), (h7, .inl (k3, 64, .inl (fun _ => 0))), (h8, .inr (6, [.ref h9, .int 0])), (h9, .inl (k4, 64, .inl (fun _ => 0)))]) (va_A [(h0, .inr (7, [.ref h1, .ref z0, .ref z1, .ref z2, .ref z3, .ref z4, .int 0, .int 0, .int 0])), (h1, .inl (k0, 4, .inr (.inr (.inr (.inr (va_up (va_up (va_up (va_up (fun _ => none) 0 (some h2)) 1 (some h4)) 2 (some h6)) 3 (some h8))))))), (h2, .inr (6, [.ref h3, .int 0])), (h3, .inl (k1, 64, .inl (fun _ => 0))), (h4, .inr (6, [.ref h5, .int 0])), (h5, .inl (k2, 64, .inl (fun _ => 0))), (h6, .inr (6, [.ref h7, .int 0])), (h7, .inl (k3, 64, .inl (fun _ => 0))), (h8, .inr (6, [.ref h9, .int 0])), (h9, .inl (k4, 64, .inl (fun _ => 0)))] sz)) 0 0 (va_A [(h0, .inr (7, [.ref h1, .ref z0, .ref z1, .ref z2, .ref z3, .ref z4, .int 0, .int 0, .int 0])), (h1, .inl (k0, 4, .inr (.inr (.inr (.inr (va_up (va_up (va_up (va_up (fun _ => none) 0 (some h2)) 1 (some h4)) 2 (some h6)) 3 (some h8))))))), (h2, .inr (6, [.ref h3, .int 0])), (h3, .inl (k1, 64, .inl (fun _ => 0))), (h4, .inr (6, [.ref h5, .int 0])), (h5, .inl (k2, 64, .inl (fun _ => 0))), (h6, .inr (6, [.ref h7, .int 0])), (h7, .inl (k3, 64, .inl (fun _ => 0))), (h8, .inr (6, [.ref h9, .int 0])), (h9, .inl (k4, 64, .inl (fun _ => 0)))] sz) := by
  refine Met.ofW (cc := cX3_copy) (maxL := 3) (ret := (some .int)) (by decide) rfl ?_
  intro p e s m args below meth c s₁ B hml hv
  obtain ⟨rfl, hsz, hP, hK, hD0⟩ := hv
  have hx := B.exec
  have hb := B.bytes
  have hr := B.returns
  have hts := atoms_spec (ws := wsX3_copy) B.pre
  have hown : s.vm.findClass RX3 = some m.cls := findClass_of_methodNamed B.named
  have hlocks := B.notSynchronized
  subst hsz
  have hD := hD0.self (sz := s.heap.size)
  generalize hAe : va_A [(h0, .inr (7, [.ref h1, .ref z0, .ref z1, .ref z2, .ref z3, .ref z4, .int 0, .int 0, .int 0])), (h1, .inl (k0, 4, .inr (.inr (.inr (.inr (va_up (va_up (va_up (va_up (fun _ => none) 0 (some h2)) 1 (some h4)) 2 (some h6)) 3 (some h8))))))), (h2, .inr (6, [.ref h3, .int 0])), (h3, .inl (k1, 64, .inl (fun _ => 0))), (h4, .inr (6, [.ref h5, .int 0])), (h5, .inl (k2, 64, .inl (fun _ => 0))), (h6, .inr (6, [.ref h7, .int 0])), (h7, .inl (k3, 64, .inl (fun _ => 0))), (h8, .inr (6, [.ref h9, .int 0])), (h9, .inl (k4, 64, .inl (fun _ => 0)))] s.heap.size = A at hD ⊢
  have hA : ∀ q : Nat, s.heap.size ≤ q → A q := fun q h => by rw [← hAe]; exact Or.inr h
  have hS : va_S A s.heap s.heap [] := va_S.rf
  have hP : va_P (dC, dI) vwCl [(h0, .inr (7, [.ref h1, .ref z0, .ref z1, .ref z2, .ref z3, .ref z4, .int 0, .int 0, .int 0])), (h1, .inl (k0, 4, .inr (.inr (.inr (.inr (va_up (va_up (va_up (va_up (fun _ => none) 0 (some h2)) 1 (some h4)) 2 (some h6)) 3 (some h8))))))), (h2, .inr (6, [.ref h3, .int 0])), (h3, .inl (k1, 64, .inl (fun _ => 0))), (h4, .inr (6, [.ref h5, .int 0])), (h5, .inl (k2, 64, .inl (fun _ => 0))), (h6, .inr (6, [.ref h7, .int 0])), (h7, .inl (k3, 64, .inl (fun _ => 0))), (h8, .inr (6, [.ref h9, .int 0])), (h9, .inl (k4, 64, .inl (fun _ => 0)))] s.heap := hP
  have hl := lv_entry ([.ref h0, .int 1, .int 3]) (n := 3) (Nat.le_of_ble_eq_true rfl)
  rw [lg_entry_eq]
  generalize (lg_sl ([.ref h0, .int 1, .int 3]) ++ List.replicate (3 - (lg_sl ([.ref h0, .int 1, .int 3])).length) Slot.unset).toArray = ls at hl ⊢
  have hl : lv_has ls 3 [(0, .ref h0), (1, .int 1), (2, .int 3)] := hl
  refine lv_iload_n hx hb dX3_copy_0 rfl (lv_at hl 1 rfl) ?_
  have hPc := hP.sub (ws' := []) [] rfl
  have hDc := hD.sub (ws' := []) [] (by decide) rfl
  have hKc := hK.sub (tys' := []) [] rfl
  have hFc := va_free (wc := []) hD hS hA [] rfl
  refine va_callv (va_runS (As := [.int 1]) (rest := []) ⟨hx, hb, hml, hown, hts⟩ (kx_X3_needRope_1 l dC dI s.heap.size) (cwS 1 hts gX3_copy_X3_needRope rfl rfl rfl (by decide +kernel) ⟨Nat.le_of_ble_eq_true rfl, Nat.le_of_ble_eq_true rfl⟩) ⟨fun a U g mk q => by obtain ⟨q0, q1, qP, qK, qD⟩ := q; exact ⟨q0, q1, qP, va_K.moved (u := U) (U := U.calling g mk a) (Vm.Alike.refl U.vm) qK, qD⟩, fun U hU hW => ⟨rfl, by rw [hU], by rw [hU]; exact hPc, va_K.moved hW.alike hKc, hDc.weaken (fun _ _ _ _ => trivial)⟩⟩ rfl rfl hl.1 rfl (lv_room (Nat.le_of_ble_eq_true rfl)) dX3_copy_1 ⟨Nat.le_of_ble_eq_true rfl, Nat.le_of_ble_eq_true rfl⟩) hS (fun q _ h => hFc q h) hFc (fun u t H1 locs ht hvm hw hB hz1 hk1 hS => ?_)
  obtain ⟨hP1, hK1, hD1⟩ := hB
  rw [ht] at hP1
  have hK1 := va_K.moved hvm.symm hK1
  obtain ⟨hP, hD⟩ := va_join (wr := [(h0, .inr (7, [.ref h1, .ref z0, .ref z1, .ref z2, .ref z3, .ref z4, .int 0, .int 0, .int 0])), (h1, .inl (k0, 4, .inr (.inr (.inr (.inr (va_up (va_up (va_up (va_up (fun _ => none) 0 (some h2)) 1 (some h4)) 2 (some h6)) 3 (some h8))))))), (h2, .inr (6, [.ref h3, .int 0])), (h3, .inl (k1, 64, .inl (fun _ => 0))), (h4, .inr (6, [.ref h5, .int 0])), (h5, .inl (k2, 64, .inl (fun _ => 0))), (h6, .inr (6, [.ref h7, .int 0])), (h7, .inl (k3, 64, .inl (fun _ => 0))), (h8, .inr (6, [.ref h9, .int 0])), (h9, .inl (k4, 64, .inl (fun _ => 0)))]) (w1 := []) hP hD [] [0, 1, 2, 3, 4, 5, 6, 7, 8, 9] rfl rfl (by decide) (by decide) hk1 hFc hP1 hD1
  generalize H1 = H at hP hS ⊢
  have hP : va_P (dC, dI) vwCl [(h0, .inr (7, [.ref h1, .ref z0, .ref z1, .ref z2, .ref z3, .ref z4, .int 0, .int 0, .int 0])), (h1, .inl (k0, 4, .inr (.inr (.inr (.inr (va_up (va_up (va_up (va_up (fun _ => none) 0 (some h2)) 1 (some h4)) 2 (some h6)) 3 (some h8))))))), (h2, .inr (6, [.ref h3, .int 0])), (h3, .inl (k1, 64, .inl (fun _ => 0))), (h4, .inr (6, [.ref h5, .int 0])), (h5, .inl (k2, 64, .inl (fun _ => 0))), (h6, .inr (6, [.ref h7, .int 0])), (h7, .inl (k3, 64, .inl (fun _ => 0))), (h8, .inr (6, [.ref h9, .int 0])), (h9, .inl (k4, 64, .inl (fun _ => 0)))] H := hP
  have hD : va_D A [(h0, .inr (7, [.ref h1, .ref z0, .ref z1, .ref z2, .ref z3, .ref z4, .int 0, .int 0, .int 0])), (h1, .inl (k0, 4, .inr (.inr (.inr (.inr (va_up (va_up (va_up (va_up (fun _ => none) 0 (some h2)) 1 (some h4)) 2 (some h6)) 3 (some h8))))))), (h2, .inr (6, [.ref h3, .int 0])), (h3, .inl (k1, 64, .inl (fun _ => 0))), (h4, .inr (6, [.ref h5, .int 0])), (h5, .inl (k2, 64, .inl (fun _ => 0))), (h6, .inr (6, [.ref h7, .int 0])), (h7, .inl (k3, 64, .inl (fun _ => 0))), (h8, .inr (6, [.ref h9, .int 0])), (h9, .inl (k4, 64, .inl (fun _ => 0)))] := hD
  refine lv_iload_n hx hb dX3_copy_4 rfl (lv_at hl 2 rfl) ?_
  have hPc := hP.sub (ws' := []) [] rfl
  have hDc := hD.sub (ws' := []) [] (by decide) rfl
  have hKc := hK.sub (tys' := []) [] rfl
  have hFc := va_free (wc := []) hD hS hA [] rfl
  refine va_callv (va_runS (As := [.int 3]) (rest := []) ⟨hx, hb, hml, hown, hts⟩ (kx_X3_needRope_3 l dC dI H.size) (cwS 1 hts gX3_copy_X3_needRope rfl rfl rfl (by decide +kernel) ⟨Nat.le_of_ble_eq_true rfl, Nat.le_of_ble_eq_true rfl⟩) ⟨fun a U g mk q => by obtain ⟨q0, q1, qP, qK, qD⟩ := q; exact ⟨q0, q1, qP, va_K.moved (u := U) (U := U.calling g mk a) (Vm.Alike.refl U.vm) qK, qD⟩, fun U hU hW => ⟨rfl, by rw [hU], by rw [hU]; exact hPc, va_K.moved hW.alike hKc, hDc.weaken (fun _ _ _ _ => trivial)⟩⟩ rfl rfl hl.1 rfl (lv_room (Nat.le_of_ble_eq_true rfl)) dX3_copy_5 ⟨Nat.le_of_ble_eq_true rfl, Nat.le_of_ble_eq_true rfl⟩) hS (fun q _ h => hFc q h) hFc (fun u t H1 locs ht hvm hw hB hz1 hk1 hS => ?_)
  obtain ⟨hP1, hK1, hD1⟩ := hB
  rw [ht] at hP1
  have hK1 := va_K.moved hvm.symm hK1
  obtain ⟨hP, hD⟩ := va_join (wr := [(h0, .inr (7, [.ref h1, .ref z0, .ref z1, .ref z2, .ref z3, .ref z4, .int 0, .int 0, .int 0])), (h1, .inl (k0, 4, .inr (.inr (.inr (.inr (va_up (va_up (va_up (va_up (fun _ => none) 0 (some h2)) 1 (some h4)) 2 (some h6)) 3 (some h8))))))), (h2, .inr (6, [.ref h3, .int 0])), (h3, .inl (k1, 64, .inl (fun _ => 0))), (h4, .inr (6, [.ref h5, .int 0])), (h5, .inl (k2, 64, .inl (fun _ => 0))), (h6, .inr (6, [.ref h7, .int 0])), (h7, .inl (k3, 64, .inl (fun _ => 0))), (h8, .inr (6, [.ref h9, .int 0])), (h9, .inl (k4, 64, .inl (fun _ => 0)))]) (w1 := []) hP hD [] [0, 1, 2, 3, 4, 5, 6, 7, 8, 9] rfl rfl (by decide) (by decide) hk1 hFc hP1 hD1
  generalize H1 = H at hP hS ⊢
  have hP : va_P (dC, dI) vwCl [(h0, .inr (7, [.ref h1, .ref z0, .ref z1, .ref z2, .ref z3, .ref z4, .int 0, .int 0, .int 0])), (h1, .inl (k0, 4, .inr (.inr (.inr (.inr (va_up (va_up (va_up (va_up (fun _ => none) 0 (some h2)) 1 (some h4)) 2 (some h6)) 3 (some h8))))))), (h2, .inr (6, [.ref h3, .int 0])), (h3, .inl (k1, 64, .inl (fun _ => 0))), (h4, .inr (6, [.ref h5, .int 0])), (h5, .inl (k2, 64, .inl (fun _ => 0))), (h6, .inr (6, [.ref h7, .int 0])), (h7, .inl (k3, 64, .inl (fun _ => 0))), (h8, .inr (6, [.ref h9, .int 0])), (h9, .inl (k4, 64, .inl (fun _ => 0)))] H := hP
  have hD : va_D A [(h0, .inr (7, [.ref h1, .ref z0, .ref z1, .ref z2, .ref z3, .ref z4, .int 0, .int 0, .int 0])), (h1, .inl (k0, 4, .inr (.inr (.inr (.inr (va_up (va_up (va_up (va_up (fun _ => none) 0 (some h2)) 1 (some h4)) 2 (some h6)) 3 (some h8))))))), (h2, .inr (6, [.ref h3, .int 0])), (h3, .inl (k1, 64, .inl (fun _ => 0))), (h4, .inr (6, [.ref h5, .int 0])), (h5, .inl (k2, 64, .inl (fun _ => 0))), (h6, .inr (6, [.ref h7, .int 0])), (h7, .inl (k3, 64, .inl (fun _ => 0))), (h8, .inr (6, [.ref h9, .int 0])), (h9, .inl (k4, 64, .inl (fun _ => 0)))] := hD
  refine lv_aload_n hx hb dX3_copy_8 rfl (lv_at hl 0 rfl) ?_
  refine va_get (D := (dC, dI)) (ci := 7) (v := .ref h1) (C := RX3) (T := TX3) (N := 9) hx hb hts (by decide +kernel) hown hK hP 0 rfl rfl 0 (by decide) (hts (.fieldLink RX3 11 "Rewriterope" "ropes" "[LRewriterope$Text;") (by decide +kernel)) (fun _ h9 => h9) rfl dX3_copy_9 ?_
  refine lv_iload_n hx hb dX3_copy_12 rfl (lv_at hl 1 rfl) ?_
  refine va_aldq (D := (dC, dI)) hx hb hK hP 1 0 rfl rfl (by unfold vp_in; decide) dX3_copy_13 ?_
  refine W.eq (g2 := F0 m 14 ls [.ref h4]) rfl ?_
  refine lv_aload_n hx hb dX3_copy_14 rfl (lv_at hl 0 rfl) ?_
  refine va_get (D := (dC, dI)) (ci := 7) (v := .ref h1) (C := RX3) (T := TX3) (N := 9) hx hb hts (by decide +kernel) hown hK hP 0 rfl rfl 0 (by decide) (hts (.fieldLink RX3 11 "Rewriterope" "ropes" "[LRewriterope$Text;") (by decide +kernel)) (fun _ h9 => h9) rfl dX3_copy_15 ?_
  refine lv_iload_n hx hb dX3_copy_18 rfl (lv_at hl 2 rfl) ?_
  refine va_aldq (D := (dC, dI)) hx hb hK hP 1 0 rfl rfl (by unfold vp_in; decide) dX3_copy_19 ?_
  refine W.eq (g2 := F0 m 20 ls [.ref h8, .ref h4]) rfl ?_
  have hPc := hP.sub (ws' := [(h4, .inr (6, [.ref h5, .int 0])), (h5, .inl (k2, 64, .inl (fun _ => 0))), (h8, .inr (6, [.ref h9, .int 0])), (h9, .inl (k4, 64, .inl (fun _ => 0)))]) [4, 5, 8, 9] rfl
  have hDc := hD.sub (ws' := [(h4, .inr (6, [.ref h5, .int 0])), (h5, .inl (k2, 64, .inl (fun _ => 0))), (h8, .inr (6, [.ref h9, .int 0])), (h9, .inl (k4, 64, .inl (fun _ => 0)))]) [4, 5, 8, 9] (by decide) rfl
  have hKc := hK.sub (tys' := [(k2, .byte), (k4, .byte)]) [2, 4] rfl
  have hFc := va_free (wc := [(h4, .inr (6, [.ref h5, .int 0])), (h5, .inl (k2, 64, .inl (fun _ => 0))), (h8, .inr (6, [.ref h9, .int 0])), (h9, .inl (k4, 64, .inl (fun _ => 0)))]) hD hS hA [4, 5, 8, 9] rfl
  refine va_callv (va_runV (As := [.ref h8]) (rest := []) ⟨hx, hb, hml, hown, hts⟩ (kx_X2_become_1 l dC dI h4 h5 h8 h9 k2 k4 H.size) (cwV 1 hts gX3_copy_X2_become rfl rfl rfl (by decide +kernel) ⟨Nat.le_of_ble_eq_true rfl, Nat.le_of_ble_eq_true rfl⟩) ⟨fun a U g mk q => by obtain ⟨q0, q1, qP, qK, qD⟩ := q; exact ⟨q0, q1, qP, va_K.moved (u := U) (U := U.calling g mk a) (Vm.Alike.refl U.vm) qK, qD⟩, va_recv hKc hPc (ci := 6) (q0 := 0) rfl rfl, fun U hU hW => ⟨rfl, by rw [hU], by rw [hU]; exact hPc, va_K.moved hW.alike hKc, hDc.weaken (fun _ _ _ _ => trivial)⟩⟩ rfl rfl hl.1 rfl (lv_room (Nat.le_of_ble_eq_true rfl)) dX3_copy_20 ⟨Nat.le_of_ble_eq_true rfl, Nat.le_of_ble_eq_true rfl⟩) hS (fun q _ h => hFc q h) hFc (fun u t H1 locs ht hvm hw hB hz1 hk1 hS => ?_)
  obtain ⟨hP1, hK1, hD1⟩ := hB
  rw [ht] at hP1
  have hK1 := va_K.moved hvm.symm hK1
  obtain ⟨hP, hD⟩ := va_join (wr := [(h0, .inr (7, [.ref h1, .ref z0, .ref z1, .ref z2, .ref z3, .ref z4, .int 0, .int 0, .int 0])), (h1, .inl (k0, 4, .inr (.inr (.inr (.inr (va_up (va_up (va_up (va_up (fun _ => none) 0 (some h2)) 1 (some h4)) 2 (some h6)) 3 (some h8))))))), (h2, .inr (6, [.ref h3, .int 0])), (h3, .inl (k1, 64, .inl (fun _ => 0))), (h6, .inr (6, [.ref h7, .int 0])), (h7, .inl (k3, 64, .inl (fun _ => 0)))]) (w1 := [(h4, .inr (6, [.ref h5, .int 0])), (h5, .inl (k2, 64, .inl (fun _ => 0))), (h8, .inr (6, [.ref h9, .int 0])), (h9, .inl (k4, 64, .inl (fun _ => 0)))]) hP hD [4, 5, 8, 9] [0, 1, 2, 3, 6, 7] rfl rfl (by decide) (by decide) hk1 hFc hP1 hD1
  generalize H1 = H at hP hS ⊢
  have hP : va_P (dC, dI) vwCl [(h0, .inr (7, [.ref h1, .ref z0, .ref z1, .ref z2, .ref z3, .ref z4, .int 0, .int 0, .int 0])), (h1, .inl (k0, 4, .inr (.inr (.inr (.inr (va_up (va_up (va_up (va_up (fun _ => none) 0 (some h2)) 1 (some h4)) 2 (some h6)) 3 (some h8))))))), (h2, .inr (6, [.ref h3, .int 0])), (h3, .inl (k1, 64, .inl (fun _ => 0))), (h6, .inr (6, [.ref h7, .int 0])), (h7, .inl (k3, 64, .inl (fun _ => 0))), (h4, .inr (6, [.ref h5, .int 0])), (h5, .inl (k2, 64, .inl (fun _ => 0))), (h8, .inr (6, [.ref h9, .int 0])), (h9, .inl (k4, 64, .inl (fun _ => 0)))] H := hP
  have hD : va_D A [(h0, .inr (7, [.ref h1, .ref z0, .ref z1, .ref z2, .ref z3, .ref z4, .int 0, .int 0, .int 0])), (h1, .inl (k0, 4, .inr (.inr (.inr (.inr (va_up (va_up (va_up (va_up (fun _ => none) 0 (some h2)) 1 (some h4)) 2 (some h6)) 3 (some h8))))))), (h2, .inr (6, [.ref h3, .int 0])), (h3, .inl (k1, 64, .inl (fun _ => 0))), (h6, .inr (6, [.ref h7, .int 0])), (h7, .inl (k3, 64, .inl (fun _ => 0))), (h4, .inr (6, [.ref h5, .int 0])), (h5, .inl (k2, 64, .inl (fun _ => 0))), (h8, .inr (6, [.ref h9, .int 0])), (h9, .inl (k4, 64, .inl (fun _ => 0)))] := hD
  refine lv_aload_n hx hb dX3_copy_23 rfl (lv_at hl 0 rfl) ?_
  refine va_get (D := (dC, dI)) (ci := 7) (v := .ref h1) (C := RX3) (T := TX3) (N := 9) hx hb hts (by decide +kernel) hown hK hP 0 rfl rfl 0 (by decide) (hts (.fieldLink RX3 11 "Rewriterope" "ropes" "[LRewriterope$Text;") (by decide +kernel)) (fun _ h9 => h9) rfl dX3_copy_24 ?_
  refine lv_iload_n hx hb dX3_copy_27 rfl (lv_at hl 1 rfl) ?_
  refine va_aldq (D := (dC, dI)) hx hb hK hP 1 0 rfl rfl (by unfold vp_in; decide) dX3_copy_28 ?_
  refine W.eq (g2 := F0 m 29 ls [.ref h4]) rfl ?_
  refine va_get (D := (dC, dI)) (ci := 6) (v := .int 0) (C := RX2) (T := TX2) (N := 2) hx hb hts (by decide +kernel) hown hK hP 6 rfl rfl 1 (by decide) (hts (.fieldLink RX3 65 "Rewriterope$Text" "length" "I") (by decide +kernel)) (fun _ h9 => h9) rfl dX3_copy_29 ?_
  have hP := hP.sub (ws' := [(h0, .inr (7, [.ref h1, .ref z0, .ref z1, .ref z2, .ref z3, .ref z4, .int 0, .int 0, .int 0])), (h1, .inl (k0, 4, .inr (.inr (.inr (.inr (va_up (va_up (va_up (va_up (fun _ => none) 0 (some h2)) 1 (some h4)) 2 (some h6)) 3 (some h8))))))), (h2, .inr (6, [.ref h3, .int 0])), (h3, .inl (k1, 64, .inl (fun _ => 0))), (h4, .inr (6, [.ref h5, .int 0])), (h5, .inl (k2, 64, .inl (fun _ => 0))), (h6, .inr (6, [.ref h7, .int 0])), (h7, .inl (k3, 64, .inl (fun _ => 0))), (h8, .inr (6, [.ref h9, .int 0])), (h9, .inl (k4, 64, .inl (fun _ => 0)))]) [0, 1, 2, 3, 6, 7, 4, 5, 8, 9] rfl
  have hD := hD.sub (ws' := [(h0, .inr (7, [.ref h1, .ref z0, .ref z1, .ref z2, .ref z3, .ref z4, .int 0, .int 0, .int 0])), (h1, .inl (k0, 4, .inr (.inr (.inr (.inr (va_up (va_up (va_up (va_up (fun _ => none) 0 (some h2)) 1 (some h4)) 2 (some h6)) 3 (some h8))))))), (h2, .inr (6, [.ref h3, .int 0])), (h3, .inl (k1, 64, .inl (fun _ => 0))), (h4, .inr (6, [.ref h5, .int 0])), (h5, .inl (k2, 64, .inl (fun _ => 0))), (h6, .inr (6, [.ref h7, .int 0])), (h7, .inl (k3, 64, .inl (fun _ => 0))), (h8, .inr (6, [.ref h9, .int 0])), (h9, .inl (k4, 64, .inl (fun _ => 0)))]) [0, 1, 2, 3, 6, 7, 4, 5, 8, 9] (by decide) rfl
  exact W.iret (v := 0) hx hb hr (fun t ht hW => ⟨⟨0, (), rfl, rfl, by rw [ht]; exact hP, va_K.moved hW.alike hK, hD⟩, hS.F ht⟩) hS.2.2 dX3_copy_32
set_option maxHeartbeats 4000000 in
set_option maxRecDepth 100000 in
theorem kx_X3_copy_s1 (l : Launch) (dC : Nat → ClassId) (dI : Nat → Nat → Nat) (h0 : Nat) (h1 : Nat) (h2 : Nat) (h3 : Nat) (h4 : Nat) (h5 : Nat) (h6 : Nat) (h7 : Nat) (h8 : Nat) (h9 : Nat) (z0 : Nat) (z1 : Nat) (z2 : Nat) (z3 : Nat) (z4 : Nat) (k0 : ClassId) (k1 : ClassId) (k2 : ClassId) (k3 : ClassId) (k4 : ClassId) (sz : Nat) (j0 : Int32) (j0_l : (0 : Int) ≤ j0.toInt) (j0_u : j0.toInt ≤ (3 : Int)) : Met l yX3_copy wsX3_copy ({ frames := 2, cells := 0, slots := 0, locals := 81 }) (va_Pc [.ref h0, .int 1, .int j0] (fun U => U.heap.size = sz ∧ va_P (dC, dI) vwCl [(h0, .inr (7, [.ref h1, .ref z0, .ref z1, .ref z2, .ref z3, .ref z4, .int 0, .int 0, .int 0])), (h1, .inl (k0, 4, .inr (.inr (.inr (.inr (va_up (va_up (va_up (va_up (fun _ => none) 0 (some h2)) 1 (some h4)) 2 (some h6)) 3 (some h8))))))), (h2, .inr (6, [.ref h3, .int 0])), (h3, .inl (k1, 64, .inl (fun _ => 0))), (h4, .inr (6, [.ref h5, .int 0])), (h5, .inl (k2, 64, .inl (fun _ => 0))), (h6, .inr (6, [.ref h7, .int 0])), (h7, .inl (k3, 64, .inl (fun _ => 0))), (h8, .inr (6, [.ref h9, .int 0])), (h9, .inl (k4, 64, .inl (fun _ => 0)))] U.heap ∧ va_K (dC, dI) vwCl [(k0, .object "Rewriterope$Text"), (k1, .byte), (k2, .byte), (k3, .byte), (k4, .byte)] U ∧ va_D (fun _ => True) [(h0, .inr (7, [.ref h1, .ref z0, .ref z1, .ref z2, .ref z3, .ref z4, .int 0, .int 0, .int 0])), (h1, .inl (k0, 4, .inr (.inr (.inr (.inr (va_up (va_up (va_up (va_up (fun _ => none) 0 (some h2)) 1 (some h4)) 2 (some h6)) 3 (some h8))))))), (h2, .inr (6, [.ref h3, .int 0])), (h3, .inl (k1, 64, .inl (fun _ => 0))), (h4, .inr (6, [.ref h5, .int 0])), (h5, .inl (k2, 64, .inl (fun _ => 0))), (h6, .inr (6, [.ref h7, .int 0])), (h7, .inl (k3, 64, .inl (fun _ => 0))), (h8, .inr (6, [.ref h9, .int 0])), (h9, .inl (k4, 64, .inl (fun _ => 0)))])) (va_Qi (fun (r : Int32) (_ : Unit) => r = 0) (fun (_ : Unit) (t : State) => va_P (dC, dI) vwCl [(h0, .inr (7, [.ref h1, .ref z0, .ref z1, .ref z2, .ref z3, .ref z4, .int 0, .int 0, .int 0])), (h1, .inl (k0, 4, .inr (.inr (.inr (.inr (va_up (va_up (va_up (va_up (fun _ => none) 0 (some h2)) 1 (some h4)) 2 (some h6)) 3 (some h8))))))), (h2, .inr (6, [.ref h3, .int 0])), (h3, .inl (k1, 64, .inl (fun _ => 0))), (h4, .inr (6, [.ref h5, .int 0])), (h5, .inl (k2, 64, .inl (fun _ => 0))), (h6, .inr (6, [.ref h7, .int 0])), (h7, .inl (k3, 64, .inl (fun _ => 0))), (h8, .inr (6, [.ref h9, .int 0])), (h9, .inl (k4, 64, .inl (fun _ => 0)))] t.heap ∧ va_K (dC, dI) vwCl [(k0, .object "Rewriterope$Text"), (k1, .byte), (k2, .byte), (k3, .byte), (k4, .byte)] t ∧ va_D (va_A [(h0, .inr (7, [.ref h1, .ref z0, .ref z1, .ref z2, .ref z3, .ref z4, .int 0, .int 0, .int 0])), (h1, .inl (k0, 4, .inr (.inr (.inr (.inr (va_up (va_up (va_up (va_up (fun _ => none) 0 (some h2)) 1 (some h4)) 2 (some h6)) 3 (some h8))))))), (h2, .inr (6, [.ref h3, .int 0])), (h3, .inl (k1, 64, .inl (fun _ => 0))), (h4, .inr (6, [.ref h5, .int 0])), (h5, .inl (k2, 64, .inl (fun _ => 0))), (h6, .inr (6, [.ref h7, .int 0])), (h7, .inl (k3, 64, .inl (fun _ => 0))), (h8, .inr (6, [.ref h9, .int 0])), (h9, .inl (k4, 64, .inl (fun _ => 0)))] sz) [(h0, .inr (7, [.ref h1, .ref z0, .ref z1, .ref z2, .ref z3, .ref z4, .int 0, .int 0, .int 0])), (h1, .inl (k0, 4, .inr (.inr (.inr (.inr (va_up (va_up (va_up (va_up (fun _ => none) 0 (some h2)) 1 (some h4)) 2 (some h6)) 3 (some h8))))))), (h2, .inr (6, [.ref h3, .int 0])), (h3, .inl (k1, 64, .inl (fun _ => 0))), (h4, .inr (6, [.ref h5, .int 0])), (h5, .inl (k2, 64, .inl (fun _ => 0))), (h6, .inr (6, [.ref h7, .int 0])), (h7, .inl (k3, 64, .inl (fun _ => 0))), (h8, .inr (6, [.ref h9, .int 0])), (h9, .inl (k4, 64, .inl (fun _ => 0)))]) (va_A [(h0, .inr (7, [.ref h1, .ref z0, .ref z1, .ref z2, .ref z3, .ref z4, .int 0, .int 0, .int 0])), (h1, .inl (k0, 4, .inr (.inr (.inr (.inr (va_up (va_up (va_up (va_up (fun _ => none) 0 (some h2)) 1 (some h4)) 2 (some h6)) 3 (some h8))))))), (h2, .inr (6, [.ref h3, .int 0])), (h3, .inl (k1, 64, .inl (fun _ => 0))), (h4, .inr (6, [.ref h5, .int 0])), (h5, .inl (k2, 64, .inl (fun _ => 0))), (h6, .inr (6, [.ref h7, .int 0])), (h7, .inl (k3, 64, .inl (fun _ => 0))), (h8, .inr (6, [.ref h9, .int 0])), (h9, .inl (k4, 64, .inl (fun _ => 0)))] sz)) 0 0 (va_A [(h0, .inr (7, [.ref h1, .ref z0, .ref z1, .ref z2, .ref z3, .ref z4, .int 0, .int 0, .int 0])), (h1, .inl (k0, 4, .inr (.inr (.inr (.inr (va_up (va_up (va_up (va_up (fun _ => none) 0 (some h2)) 1 (some h4)) 2 (some h6)) 3 (some h8))))))), (h2, .inr (6, [.ref h3, .int 0])), (h3, .inl (k1, 64, .inl (fun _ => 0))), (h4, .inr (6, [.ref h5, .int 0])), (h5, .inl (k2, 64, .inl (fun _ => 0))), (h6, .inr (6, [.ref h7, .int 0])), (h7, .inl (k3, 64, .inl (fun _ => 0))), (h8, .inr (6, [.ref h9, .int 0])), (h9, .inl (k4, 64, .inl (fun _ => 0)))] sz) := by
  have e9 : j0 = 0 ∨ j0 = 1 ∨ j0 = 2 ∨ j0 = 3 := by
    have h9 : j0.toInt = 0 ∨ j0.toInt = 1 ∨ j0.toInt = 2 ∨ j0.toInt = 3 := by omega
    rcases h9 with h9 | h9 | h9 | h9
    · exact Or.inl (Int32.toInt_inj.mp (h9.trans (by decide)))
    · exact Or.inr (Or.inl (Int32.toInt_inj.mp (h9.trans (by decide))))
    · exact Or.inr (Or.inr (Or.inl (Int32.toInt_inj.mp (h9.trans (by decide)))))
    · exact Or.inr (Or.inr (Or.inr (Int32.toInt_inj.mp (h9.trans (by decide)))))
  rcases e9 with rfl | rfl | rfl | rfl
  · exact kx_X3_copy_4 l dC dI h0 h1 h2 h3 h4 h5 h6 h7 h8 h9 z0 z1 z2 z3 z4 k0 k1 k2 k3 k4 sz
  · exact kx_X3_copy_5 l dC dI h0 h1 h2 h3 h4 h5 h6 h7 h8 h9 z0 z1 z2 z3 z4 k0 k1 k2 k3 k4 sz
  · exact kx_X3_copy_6 l dC dI h0 h1 h2 h3 h4 h5 h6 h7 h8 h9 z0 z1 z2 z3 z4 k0 k1 k2 k3 k4 sz
  · exact kx_X3_copy_7 l dC dI h0 h1 h2 h3 h4 h5 h6 h7 h8 h9 z0 z1 z2 z3 z4 k0 k1 k2 k3 k4 sz
set_option maxHeartbeats 4000000 in
set_option maxRecDepth 100000 in
theorem kx_X3_copy_8 (l : Launch) (dC : Nat → ClassId) (dI : Nat → Nat → Nat) (h0 : Nat) (h1 : Nat) (h2 : Nat) (h3 : Nat) (h4 : Nat) (h5 : Nat) (h6 : Nat) (h7 : Nat) (h8 : Nat) (h9 : Nat) (z0 : Nat) (z1 : Nat) (z2 : Nat) (z3 : Nat) (z4 : Nat) (k0 : ClassId) (k1 : ClassId) (k2 : ClassId) (k3 : ClassId) (k4 : ClassId) (sz : Nat) : Met l yX3_copy wsX3_copy ({ frames := 2, cells := 0, slots := 0, locals := 81 }) (va_Pc [.ref h0, .int 2, .int 0] (fun U => U.heap.size = sz ∧ va_P (dC, dI) vwCl [(h0, .inr (7, [.ref h1, .ref z0, .ref z1, .ref z2, .ref z3, .ref z4, .int 0, .int 0, .int 0])), (h1, .inl (k0, 4, .inr (.inr (.inr (.inr (va_up (va_up (va_up (va_up (fun _ => none) 0 (some h2)) 1 (some h4)) 2 (some h6)) 3 (some h8))))))), (h2, .inr (6, [.ref h3, .int 0])), (h3, .inl (k1, 64, .inl (fun _ => 0))), (h4, .inr (6, [.ref h5, .int 0])), (h5, .inl (k2, 64, .inl (fun _ => 0))), (h6, .inr (6, [.ref h7, .int 0])), (h7, .inl (k3, 64, .inl (fun _ => 0))), (h8, .inr (6, [.ref h9, .int 0])), (h9, .inl (k4, 64, .inl (fun _ => 0)))] U.heap ∧ va_K (dC, dI) vwCl [(k0, .object "Rewriterope$Text"), (k1, .byte), (k2, .byte), (k3, .byte), (k4, .byte)] U ∧ va_D (fun _ => True) [(h0, .inr (7, [.ref h1, .ref z0, .ref z1, .ref z2, .ref z3, .ref z4, .int 0, .int 0, .int 0])), (h1, .inl (k0, 4, .inr (.inr (.inr (.inr (va_up (va_up (va_up (va_up (fun _ => none) 0 (some h2)) 1 (some h4)) 2 (some h6)) 3 (some h8))))))), (h2, .inr (6, [.ref h3, .int 0])), (h3, .inl (k1, 64, .inl (fun _ => 0))), (h4, .inr (6, [.ref h5, .int 0])), (h5, .inl (k2, 64, .inl (fun _ => 0))), (h6, .inr (6, [.ref h7, .int 0])), (h7, .inl (k3, 64, .inl (fun _ => 0))), (h8, .inr (6, [.ref h9, .int 0])), (h9, .inl (k4, 64, .inl (fun _ => 0)))])) (va_Qi (fun (r : Int32) (_ : Unit) => r = 0) (fun (_ : Unit) (t : State) => va_P (dC, dI) vwCl [(h0, .inr (7, [.ref h1, .ref z0, .ref z1, .ref z2, .ref z3, .ref z4, .int 0, .int 0, .int 0])), (h1, .inl (k0, 4, .inr (.inr (.inr (.inr (va_up (va_up (va_up (va_up (fun _ => none) 0 (some h2)) 1 (some h4)) 2 (some h6)) 3 (some h8))))))), (h2, .inr (6, [.ref h3, .int 0])), (h3, .inl (k1, 64, .inl (fun _ => 0))), (h4, .inr (6, [.ref h5, .int 0])), (h5, .inl (k2, 64, .inl (fun _ => 0))), (h6, .inr (6, [.ref h7, .int 0])), (h7, .inl (k3, 64, .inl (fun _ => 0))), (h8, .inr (6, [.ref h9, .int 0])), (h9, .inl (k4, 64, .inl (fun _ => 0)))] t.heap ∧ va_K (dC, dI) vwCl [(k0, .object "Rewriterope$Text"), (k1, .byte), (k2, .byte), (k3, .byte), (k4, .byte)] t ∧ va_D (va_A [(h0, .inr (7, [.ref h1, .ref z0, .ref z1, .ref z2, .ref z3, .ref z4, .int 0, .int 0, .int 0])), (h1, .inl (k0, 4, .inr (.inr (.inr (.inr (va_up (va_up (va_up (va_up (fun _ => none) 0 (some h2)) 1 (some h4)) 2 (some h6)) 3 (some h8))))))), (h2, .inr (6, [.ref h3, .int 0])), (h3, .inl (k1, 64, .inl (fun _ => 0))), (h4, .inr (6, [.ref h5, .int 0])), (h5, .inl (k2, 64, .inl (fun _ => 0))), (h6, .inr (6, [.ref h7, .int 0])), (h7, .inl (k3, 64, .inl (fun _ => 0))), (h8, .inr (6, [.ref h9, .int 0])), (h9, .inl (k4, 64, .inl (fun _ => 0)))] sz) [(h0, .inr (7, [.ref h1, .ref z0, .ref z1, .ref z2, .ref z3, .ref z4, .int 0, .int 0, .int 0])), (h1, .inl (k0, 4, .inr (.inr (.inr (.inr (va_up (va_up (va_up (va_up (fun _ => none) 0 (some h2)) 1 (some h4)) 2 (some h6)) 3 (some h8))))))), (h2, .inr (6, [.ref h3, .int 0])), (h3, .inl (k1, 64, .inl (fun _ => 0))), (h4, .inr (6, [.ref h5, .int 0])), (h5, .inl (k2, 64, .inl (fun _ => 0))), (h6, .inr (6, [.ref h7, .int 0])), (h7, .inl (k3, 64, .inl (fun _ => 0))), (h8, .inr (6, [.ref h9, .int 0])), (h9, .inl (k4, 64, .inl (fun _ => 0)))]) (va_A [(h0, .inr (7, [.ref h1, .ref z0, .ref z1, .ref z2, .ref z3, .ref z4, .int 0, .int 0, .int 0])), (h1, .inl (k0, 4, .inr (.inr (.inr (.inr (va_up (va_up (va_up (va_up (fun _ => none) 0 (some h2)) 1 (some h4)) 2 (some h6)) 3 (some h8))))))), (h2, .inr (6, [.ref h3, .int 0])), (h3, .inl (k1, 64, .inl (fun _ => 0))), (h4, .inr (6, [.ref h5, .int 0])), (h5, .inl (k2, 64, .inl (fun _ => 0))), (h6, .inr (6, [.ref h7, .int 0])), (h7, .inl (k3, 64, .inl (fun _ => 0))), (h8, .inr (6, [.ref h9, .int 0])), (h9, .inl (k4, 64, .inl (fun _ => 0)))] sz)) 0 0 (va_A [(h0, .inr (7, [.ref h1, .ref z0, .ref z1, .ref z2, .ref z3, .ref z4, .int 0, .int 0, .int 0])), (h1, .inl (k0, 4, .inr (.inr (.inr (.inr (va_up (va_up (va_up (va_up (fun _ => none) 0 (some h2)) 1 (some h4)) 2 (some h6)) 3 (some h8))))))), (h2, .inr (6, [.ref h3, .int 0])), (h3, .inl (k1, 64, .inl (fun _ => 0))), (h4, .inr (6, [.ref h5, .int 0])), (h5, .inl (k2, 64, .inl (fun _ => 0))), (h6, .inr (6, [.ref h7, .int 0])), (h7, .inl (k3, 64, .inl (fun _ => 0))), (h8, .inr (6, [.ref h9, .int 0])), (h9, .inl (k4, 64, .inl (fun _ => 0)))] sz) := by
  refine Met.ofW (cc := cX3_copy) (maxL := 3) (ret := (some .int)) (by decide) rfl ?_
  intro p e s m args below meth c s₁ B hml hv
  obtain ⟨rfl, hsz, hP, hK, hD0⟩ := hv
  have hx := B.exec
  have hb := B.bytes
  have hr := B.returns
  have hts := atoms_spec (ws := wsX3_copy) B.pre
  have hown : s.vm.findClass RX3 = some m.cls := findClass_of_methodNamed B.named
  have hlocks := B.notSynchronized
  subst hsz
  have hD := hD0.self (sz := s.heap.size)
  generalize hAe : va_A [(h0, .inr (7, [.ref h1, .ref z0, .ref z1, .ref z2, .ref z3, .ref z4, .int 0, .int 0, .int 0])), (h1, .inl (k0, 4, .inr (.inr (.inr (.inr (va_up (va_up (va_up (va_up (fun _ => none) 0 (some h2)) 1 (some h4)) 2 (some h6)) 3 (some h8))))))), (h2, .inr (6, [.ref h3, .int 0])), (h3, .inl (k1, 64, .inl (fun _ => 0))), (h4, .inr (6, [.ref h5, .int 0])), (h5, .inl (k2, 64, .inl (fun _ => 0))), (h6, .inr (6, [.ref h7, .int 0])), (h7, .inl (k3, 64, .inl (fun _ => 0))), (h8, .inr (6, [.ref h9, .int 0])), (h9, .inl (k4, 64, .inl (fun _ => 0)))] s.heap.size = A at hD ⊢
  have hA : ∀ q : Nat, s.heap.size ≤ q → A q := fun q h => by rw [← hAe]; exact Or.inr h
  have hS : va_S A s.heap s.heap [] := va_S.rf
  have hP : va_P (dC, dI) vwCl [(h0, .inr (7, [.ref h1, .ref z0, .ref z1, .ref z2, .ref z3, .ref z4, .int 0, .int 0, .int 0])), (h1, .inl (k0, 4, .inr (.inr (.inr (.inr (va_up (va_up (va_up (va_up (fun _ => none) 0 (some h2)) 1 (some h4)) 2 (some h6)) 3 (some h8))))))), (h2, .inr (6, [.ref h3, .int 0])), (h3, .inl (k1, 64, .inl (fun _ => 0))), (h4, .inr (6, [.ref h5, .int 0])), (h5, .inl (k2, 64, .inl (fun _ => 0))), (h6, .inr (6, [.ref h7, .int 0])), (h7, .inl (k3, 64, .inl (fun _ => 0))), (h8, .inr (6, [.ref h9, .int 0])), (h9, .inl (k4, 64, .inl (fun _ => 0)))] s.heap := hP
  have hl := lv_entry ([.ref h0, .int 2, .int 0]) (n := 3) (Nat.le_of_ble_eq_true rfl)
  rw [lg_entry_eq]
  generalize (lg_sl ([.ref h0, .int 2, .int 0]) ++ List.replicate (3 - (lg_sl ([.ref h0, .int 2, .int 0])).length) Slot.unset).toArray = ls at hl ⊢
  have hl : lv_has ls 3 [(0, .ref h0), (1, .int 2), (2, .int 0)] := hl
  refine lv_iload_n hx hb dX3_copy_0 rfl (lv_at hl 1 rfl) ?_
  have hPc := hP.sub (ws' := []) [] rfl
  have hDc := hD.sub (ws' := []) [] (by decide) rfl
  have hKc := hK.sub (tys' := []) [] rfl
  have hFc := va_free (wc := []) hD hS hA [] rfl
  refine va_callv (va_runS (As := [.int 2]) (rest := []) ⟨hx, hb, hml, hown, hts⟩ (kx_X3_needRope_2 l dC dI s.heap.size) (cwS 1 hts gX3_copy_X3_needRope rfl rfl rfl (by decide +kernel) ⟨Nat.le_of_ble_eq_true rfl, Nat.le_of_ble_eq_true rfl⟩) ⟨fun a U g mk q => by obtain ⟨q0, q1, qP, qK, qD⟩ := q; exact ⟨q0, q1, qP, va_K.moved (u := U) (U := U.calling g mk a) (Vm.Alike.refl U.vm) qK, qD⟩, fun U hU hW => ⟨rfl, by rw [hU], by rw [hU]; exact hPc, va_K.moved hW.alike hKc, hDc.weaken (fun _ _ _ _ => trivial)⟩⟩ rfl rfl hl.1 rfl (lv_room (Nat.le_of_ble_eq_true rfl)) dX3_copy_1 ⟨Nat.le_of_ble_eq_true rfl, Nat.le_of_ble_eq_true rfl⟩) hS (fun q _ h => hFc q h) hFc (fun u t H1 locs ht hvm hw hB hz1 hk1 hS => ?_)
  obtain ⟨hP1, hK1, hD1⟩ := hB
  rw [ht] at hP1
  have hK1 := va_K.moved hvm.symm hK1
  obtain ⟨hP, hD⟩ := va_join (wr := [(h0, .inr (7, [.ref h1, .ref z0, .ref z1, .ref z2, .ref z3, .ref z4, .int 0, .int 0, .int 0])), (h1, .inl (k0, 4, .inr (.inr (.inr (.inr (va_up (va_up (va_up (va_up (fun _ => none) 0 (some h2)) 1 (some h4)) 2 (some h6)) 3 (some h8))))))), (h2, .inr (6, [.ref h3, .int 0])), (h3, .inl (k1, 64, .inl (fun _ => 0))), (h4, .inr (6, [.ref h5, .int 0])), (h5, .inl (k2, 64, .inl (fun _ => 0))), (h6, .inr (6, [.ref h7, .int 0])), (h7, .inl (k3, 64, .inl (fun _ => 0))), (h8, .inr (6, [.ref h9, .int 0])), (h9, .inl (k4, 64, .inl (fun _ => 0)))]) (w1 := []) hP hD [] [0, 1, 2, 3, 4, 5, 6, 7, 8, 9] rfl rfl (by decide) (by decide) hk1 hFc hP1 hD1
  generalize H1 = H at hP hS ⊢
  have hP : va_P (dC, dI) vwCl [(h0, .inr (7, [.ref h1, .ref z0, .ref z1, .ref z2, .ref z3, .ref z4, .int 0, .int 0, .int 0])), (h1, .inl (k0, 4, .inr (.inr (.inr (.inr (va_up (va_up (va_up (va_up (fun _ => none) 0 (some h2)) 1 (some h4)) 2 (some h6)) 3 (some h8))))))), (h2, .inr (6, [.ref h3, .int 0])), (h3, .inl (k1, 64, .inl (fun _ => 0))), (h4, .inr (6, [.ref h5, .int 0])), (h5, .inl (k2, 64, .inl (fun _ => 0))), (h6, .inr (6, [.ref h7, .int 0])), (h7, .inl (k3, 64, .inl (fun _ => 0))), (h8, .inr (6, [.ref h9, .int 0])), (h9, .inl (k4, 64, .inl (fun _ => 0)))] H := hP
  have hD : va_D A [(h0, .inr (7, [.ref h1, .ref z0, .ref z1, .ref z2, .ref z3, .ref z4, .int 0, .int 0, .int 0])), (h1, .inl (k0, 4, .inr (.inr (.inr (.inr (va_up (va_up (va_up (va_up (fun _ => none) 0 (some h2)) 1 (some h4)) 2 (some h6)) 3 (some h8))))))), (h2, .inr (6, [.ref h3, .int 0])), (h3, .inl (k1, 64, .inl (fun _ => 0))), (h4, .inr (6, [.ref h5, .int 0])), (h5, .inl (k2, 64, .inl (fun _ => 0))), (h6, .inr (6, [.ref h7, .int 0])), (h7, .inl (k3, 64, .inl (fun _ => 0))), (h8, .inr (6, [.ref h9, .int 0])), (h9, .inl (k4, 64, .inl (fun _ => 0)))] := hD
  refine lv_iload_n hx hb dX3_copy_4 rfl (lv_at hl 2 rfl) ?_
  have hPc := hP.sub (ws' := []) [] rfl
  have hDc := hD.sub (ws' := []) [] (by decide) rfl
  have hKc := hK.sub (tys' := []) [] rfl
  have hFc := va_free (wc := []) hD hS hA [] rfl
  refine va_callv (va_runS (As := [.int 0]) (rest := []) ⟨hx, hb, hml, hown, hts⟩ (kx_X3_needRope_0 l dC dI H.size) (cwS 1 hts gX3_copy_X3_needRope rfl rfl rfl (by decide +kernel) ⟨Nat.le_of_ble_eq_true rfl, Nat.le_of_ble_eq_true rfl⟩) ⟨fun a U g mk q => by obtain ⟨q0, q1, qP, qK, qD⟩ := q; exact ⟨q0, q1, qP, va_K.moved (u := U) (U := U.calling g mk a) (Vm.Alike.refl U.vm) qK, qD⟩, fun U hU hW => ⟨rfl, by rw [hU], by rw [hU]; exact hPc, va_K.moved hW.alike hKc, hDc.weaken (fun _ _ _ _ => trivial)⟩⟩ rfl rfl hl.1 rfl (lv_room (Nat.le_of_ble_eq_true rfl)) dX3_copy_5 ⟨Nat.le_of_ble_eq_true rfl, Nat.le_of_ble_eq_true rfl⟩) hS (fun q _ h => hFc q h) hFc (fun u t H1 locs ht hvm hw hB hz1 hk1 hS => ?_)
  obtain ⟨hP1, hK1, hD1⟩ := hB
  rw [ht] at hP1
  have hK1 := va_K.moved hvm.symm hK1
  obtain ⟨hP, hD⟩ := va_join (wr := [(h0, .inr (7, [.ref h1, .ref z0, .ref z1, .ref z2, .ref z3, .ref z4, .int 0, .int 0, .int 0])), (h1, .inl (k0, 4, .inr (.inr (.inr (.inr (va_up (va_up (va_up (va_up (fun _ => none) 0 (some h2)) 1 (some h4)) 2 (some h6)) 3 (some h8))))))), (h2, .inr (6, [.ref h3, .int 0])), (h3, .inl (k1, 64, .inl (fun _ => 0))), (h4, .inr (6, [.ref h5, .int 0])), (h5, .inl (k2, 64, .inl (fun _ => 0))), (h6, .inr (6, [.ref h7, .int 0])), (h7, .inl (k3, 64, .inl (fun _ => 0))), (h8, .inr (6, [.ref h9, .int 0])), (h9, .inl (k4, 64, .inl (fun _ => 0)))]) (w1 := []) hP hD [] [0, 1, 2, 3, 4, 5, 6, 7, 8, 9] rfl rfl (by decide) (by decide) hk1 hFc hP1 hD1
  generalize H1 = H at hP hS ⊢
  have hP : va_P (dC, dI) vwCl [(h0, .inr (7, [.ref h1, .ref z0, .ref z1, .ref z2, .ref z3, .ref z4, .int 0, .int 0, .int 0])), (h1, .inl (k0, 4, .inr (.inr (.inr (.inr (va_up (va_up (va_up (va_up (fun _ => none) 0 (some h2)) 1 (some h4)) 2 (some h6)) 3 (some h8))))))), (h2, .inr (6, [.ref h3, .int 0])), (h3, .inl (k1, 64, .inl (fun _ => 0))), (h4, .inr (6, [.ref h5, .int 0])), (h5, .inl (k2, 64, .inl (fun _ => 0))), (h6, .inr (6, [.ref h7, .int 0])), (h7, .inl (k3, 64, .inl (fun _ => 0))), (h8, .inr (6, [.ref h9, .int 0])), (h9, .inl (k4, 64, .inl (fun _ => 0)))] H := hP
  have hD : va_D A [(h0, .inr (7, [.ref h1, .ref z0, .ref z1, .ref z2, .ref z3, .ref z4, .int 0, .int 0, .int 0])), (h1, .inl (k0, 4, .inr (.inr (.inr (.inr (va_up (va_up (va_up (va_up (fun _ => none) 0 (some h2)) 1 (some h4)) 2 (some h6)) 3 (some h8))))))), (h2, .inr (6, [.ref h3, .int 0])), (h3, .inl (k1, 64, .inl (fun _ => 0))), (h4, .inr (6, [.ref h5, .int 0])), (h5, .inl (k2, 64, .inl (fun _ => 0))), (h6, .inr (6, [.ref h7, .int 0])), (h7, .inl (k3, 64, .inl (fun _ => 0))), (h8, .inr (6, [.ref h9, .int 0])), (h9, .inl (k4, 64, .inl (fun _ => 0)))] := hD
  refine lv_aload_n hx hb dX3_copy_8 rfl (lv_at hl 0 rfl) ?_
  refine va_get (D := (dC, dI)) (ci := 7) (v := .ref h1) (C := RX3) (T := TX3) (N := 9) hx hb hts (by decide +kernel) hown hK hP 0 rfl rfl 0 (by decide) (hts (.fieldLink RX3 11 "Rewriterope" "ropes" "[LRewriterope$Text;") (by decide +kernel)) (fun _ h9 => h9) rfl dX3_copy_9 ?_
  refine lv_iload_n hx hb dX3_copy_12 rfl (lv_at hl 1 rfl) ?_
  refine va_aldq (D := (dC, dI)) hx hb hK hP 1 0 rfl rfl (by unfold vp_in; decide) dX3_copy_13 ?_
  refine W.eq (g2 := F0 m 14 ls [.ref h6]) rfl ?_
  refine lv_aload_n hx hb dX3_copy_14 rfl (lv_at hl 0 rfl) ?_
  refine va_get (D := (dC, dI)) (ci := 7) (v := .ref h1) (C := RX3) (T := TX3) (N := 9) hx hb hts (by decide +kernel) hown hK hP 0 rfl rfl 0 (by decide) (hts (.fieldLink RX3 11 "Rewriterope" "ropes" "[LRewriterope$Text;") (by decide +kernel)) (fun _ h9 => h9) rfl dX3_copy_15 ?_
  refine lv_iload_n hx hb dX3_copy_18 rfl (lv_at hl 2 rfl) ?_
  refine va_aldq (D := (dC, dI)) hx hb hK hP 1 0 rfl rfl (by unfold vp_in; decide) dX3_copy_19 ?_
  refine W.eq (g2 := F0 m 20 ls [.ref h2, .ref h6]) rfl ?_
  have hPc := hP.sub (ws' := [(h2, .inr (6, [.ref h3, .int 0])), (h3, .inl (k1, 64, .inl (fun _ => 0))), (h6, .inr (6, [.ref h7, .int 0])), (h7, .inl (k3, 64, .inl (fun _ => 0)))]) [2, 3, 6, 7] rfl
  have hDc := hD.sub (ws' := [(h2, .inr (6, [.ref h3, .int 0])), (h3, .inl (k1, 64, .inl (fun _ => 0))), (h6, .inr (6, [.ref h7, .int 0])), (h7, .inl (k3, 64, .inl (fun _ => 0)))]) [2, 3, 6, 7] (by decide) rfl
  have hKc := hK.sub (tys' := [(k1, .byte), (k3, .byte)]) [1, 3] rfl
  have hFc := va_free (wc := [(h2, .inr (6, [.ref h3, .int 0])), (h3, .inl (k1, 64, .inl (fun _ => 0))), (h6, .inr (6, [.ref h7, .int 0])), (h7, .inl (k3, 64, .inl (fun _ => 0)))]) hD hS hA [2, 3, 6, 7] rfl
  refine va_callv (va_runV (As := [.ref h2]) (rest := []) ⟨hx, hb, hml, hown, hts⟩ (kx_X2_become_2 l dC dI h2 h3 h6 h7 k1 k3 H.size) (cwV 1 hts gX3_copy_X2_become rfl rfl rfl (by decide +kernel) ⟨Nat.le_of_ble_eq_true rfl, Nat.le_of_ble_eq_true rfl⟩) ⟨fun a U g mk q => by obtain ⟨q0, q1, qP, qK, qD⟩ := q; exact ⟨q0, q1, qP, va_K.moved (u := U) (U := U.calling g mk a) (Vm.Alike.refl U.vm) qK, qD⟩, va_recv hKc hPc (ci := 6) (q0 := 2) rfl rfl, fun U hU hW => ⟨rfl, by rw [hU], by rw [hU]; exact hPc, va_K.moved hW.alike hKc, hDc.weaken (fun _ _ _ _ => trivial)⟩⟩ rfl rfl hl.1 rfl (lv_room (Nat.le_of_ble_eq_true rfl)) dX3_copy_20 ⟨Nat.le_of_ble_eq_true rfl, Nat.le_of_ble_eq_true rfl⟩) hS (fun q _ h => hFc q h) hFc (fun u t H1 locs ht hvm hw hB hz1 hk1 hS => ?_)
  obtain ⟨hP1, hK1, hD1⟩ := hB
  rw [ht] at hP1
  have hK1 := va_K.moved hvm.symm hK1
  obtain ⟨hP, hD⟩ := va_join (wr := [(h0, .inr (7, [.ref h1, .ref z0, .ref z1, .ref z2, .ref z3, .ref z4, .int 0, .int 0, .int 0])), (h1, .inl (k0, 4, .inr (.inr (.inr (.inr (va_up (va_up (va_up (va_up (fun _ => none) 0 (some h2)) 1 (some h4)) 2 (some h6)) 3 (some h8))))))), (h4, .inr (6, [.ref h5, .int 0])), (h5, .inl (k2, 64, .inl (fun _ => 0))), (h8, .inr (6, [.ref h9, .int 0])), (h9, .inl (k4, 64, .inl (fun _ => 0)))]) (w1 := [(h2, .inr (6, [.ref h3, .int 0])), (h3, .inl (k1, 64, .inl (fun _ => 0))), (h6, .inr (6, [.ref h7, .int 0])), (h7, .inl (k3, 64, .inl (fun _ => 0)))]) hP hD [2, 3, 6, 7] [0, 1, 4, 5, 8, 9] rfl rfl (by decide) (by decide) hk1 hFc hP1 hD1
  generalize H1 = H at hP hS ⊢
  have hP : va_P (dC, dI) vwCl [(h0, .inr (7, [.ref h1, .ref z0, .ref z1, .ref z2, .ref z3, .ref z4, .int 0, .int 0, .int 0])), (h1, .inl (k0, 4, .inr (.inr (.inr (.inr (va_up (va_up (va_up (va_up (fun _ => none) 0 (some h2)) 1 (some h4)) 2 (some h6)) 3 (some h8))))))), (h4, .inr (6, [.ref h5, .int 0])), (h5, .inl (k2, 64, .inl (fun _ => 0))), (h8, .inr (6, [.ref h9, .int 0])), (h9, .inl (k4, 64, .inl (fun _ => 0))), (h2, .inr (6, [.ref h3, .int 0])), (h3, .inl (k1, 64, .inl (fun _ => 0))), (h6, .inr (6, [.ref h7, .int 0])), (h7, .inl (k3, 64, .inl (fun _ => 0)))] H := hP
  have hD : va_D A [(h0, .inr (7, [.ref h1, .ref z0, .ref z1, .ref z2, .ref z3, .ref z4, .int 0, .int 0, .int 0])), (h1, .inl (k0, 4, .inr (.inr (.inr (.inr (va_up (va_up (va_up (va_up (fun _ => none) 0 (some h2)) 1 (some h4)) 2 (some h6)) 3 (some h8))))))), (h4, .inr (6, [.ref h5, .int 0])), (h5, .inl (k2, 64, .inl (fun _ => 0))), (h8, .inr (6, [.ref h9, .int 0])), (h9, .inl (k4, 64, .inl (fun _ => 0))), (h2, .inr (6, [.ref h3, .int 0])), (h3, .inl (k1, 64, .inl (fun _ => 0))), (h6, .inr (6, [.ref h7, .int 0])), (h7, .inl (k3, 64, .inl (fun _ => 0)))] := hD
  refine lv_aload_n hx hb dX3_copy_23 rfl (lv_at hl 0 rfl) ?_
  refine va_get (D := (dC, dI)) (ci := 7) (v := .ref h1) (C := RX3) (T := TX3) (N := 9) hx hb hts (by decide +kernel) hown hK hP 0 rfl rfl 0 (by decide) (hts (.fieldLink RX3 11 "Rewriterope" "ropes" "[LRewriterope$Text;") (by decide +kernel)) (fun _ h9 => h9) rfl dX3_copy_24 ?_
  refine lv_iload_n hx hb dX3_copy_27 rfl (lv_at hl 1 rfl) ?_
  refine va_aldq (D := (dC, dI)) hx hb hK hP 1 0 rfl rfl (by unfold vp_in; decide) dX3_copy_28 ?_
  refine W.eq (g2 := F0 m 29 ls [.ref h6]) rfl ?_
  refine va_get (D := (dC, dI)) (ci := 6) (v := .int 0) (C := RX2) (T := TX2) (N := 2) hx hb hts (by decide +kernel) hown hK hP 8 rfl rfl 1 (by decide) (hts (.fieldLink RX3 65 "Rewriterope$Text" "length" "I") (by decide +kernel)) (fun _ h9 => h9) rfl dX3_copy_29 ?_
  have hP := hP.sub (ws' := [(h0, .inr (7, [.ref h1, .ref z0, .ref z1, .ref z2, .ref z3, .ref z4, .int 0, .int 0, .int 0])), (h1, .inl (k0, 4, .inr (.inr (.inr (.inr (va_up (va_up (va_up (va_up (fun _ => none) 0 (some h2)) 1 (some h4)) 2 (some h6)) 3 (some h8))))))), (h2, .inr (6, [.ref h3, .int 0])), (h3, .inl (k1, 64, .inl (fun _ => 0))), (h4, .inr (6, [.ref h5, .int 0])), (h5, .inl (k2, 64, .inl (fun _ => 0))), (h6, .inr (6, [.ref h7, .int 0])), (h7, .inl (k3, 64, .inl (fun _ => 0))), (h8, .inr (6, [.ref h9, .int 0])), (h9, .inl (k4, 64, .inl (fun _ => 0)))]) [0, 1, 6, 7, 2, 3, 8, 9, 4, 5] rfl
  have hD := hD.sub (ws' := [(h0, .inr (7, [.ref h1, .ref z0, .ref z1, .ref z2, .ref z3, .ref z4, .int 0, .int 0, .int 0])), (h1, .inl (k0, 4, .inr (.inr (.inr (.inr (va_up (va_up (va_up (va_up (fun _ => none) 0 (some h2)) 1 (some h4)) 2 (some h6)) 3 (some h8))))))), (h2, .inr (6, [.ref h3, .int 0])), (h3, .inl (k1, 64, .inl (fun _ => 0))), (h4, .inr (6, [.ref h5, .int 0])), (h5, .inl (k2, 64, .inl (fun _ => 0))), (h6, .inr (6, [.ref h7, .int 0])), (h7, .inl (k3, 64, .inl (fun _ => 0))), (h8, .inr (6, [.ref h9, .int 0])), (h9, .inl (k4, 64, .inl (fun _ => 0)))]) [0, 1, 6, 7, 2, 3, 8, 9, 4, 5] (by decide) rfl
  exact W.iret (v := 0) hx hb hr (fun t ht hW => ⟨⟨0, (), rfl, rfl, by rw [ht]; exact hP, va_K.moved hW.alike hK, hD⟩, hS.F ht⟩) hS.2.2 dX3_copy_32
set_option maxHeartbeats 4000000 in
set_option maxRecDepth 100000 in
theorem kx_X3_copy_9 (l : Launch) (dC : Nat → ClassId) (dI : Nat → Nat → Nat) (h0 : Nat) (h1 : Nat) (h2 : Nat) (h3 : Nat) (h4 : Nat) (h5 : Nat) (h6 : Nat) (h7 : Nat) (h8 : Nat) (h9 : Nat) (z0 : Nat) (z1 : Nat) (z2 : Nat) (z3 : Nat) (z4 : Nat) (k0 : ClassId) (k1 : ClassId) (k2 : ClassId) (k3 : ClassId) (k4 : ClassId) (sz : Nat) : Met l yX3_copy wsX3_copy ({ frames := 2, cells := 0, slots := 0, locals := 81 }) (va_Pc [.ref h0, .int 2, .int 1] (fun U => U.heap.size = sz ∧ va_P (dC, dI) vwCl [(h0, .inr (7, [.ref h1, .ref z0, .ref z1, .ref z2, .ref z3, .ref z4, .int 0, .int 0, .int 0])), (h1, .inl (k0, 4, .inr (.inr (.inr (.inr (va_up (va_up (va_up (va_up (fun _ => none) 0 (some h2)) 1 (some h4)) 2 (some h6)) 3 (some h8))))))), (h2, .inr (6, [.ref h3, .int 0])), (h3, .inl (k1, 64, .inl (fun _ => 0))), (h4, .inr (6, [.ref h5, .int 0])), (h5, .inl (k2, 64, .inl (fun _ => 0))), (h6, .inr (6, [.ref h7, .int 0])), (h7, .inl (k3, 64, .inl (fun _ => 0))), (h8, .inr (6, [.ref h9, .int 0])), (h9, .inl (k4, 64, .inl (fun _ => 0)))] U.heap ∧ va_K (dC, dI) vwCl [(k0, .object "Rewriterope$Text"), (k1, .byte), (k2, .byte), (k3, .byte), (k4, .byte)] U ∧ va_D (fun _ => True) [(h0, .inr (7, [.ref h1, .ref z0, .ref z1, .ref z2, .ref z3, .ref z4, .int 0, .int 0, .int 0])), (h1, .inl (k0, 4, .inr (.inr (.inr (.inr (va_up (va_up (va_up (va_up (fun _ => none) 0 (some h2)) 1 (some h4)) 2 (some h6)) 3 (some h8))))))), (h2, .inr (6, [.ref h3, .int 0])), (h3, .inl (k1, 64, .inl (fun _ => 0))), (h4, .inr (6, [.ref h5, .int 0])), (h5, .inl (k2, 64, .inl (fun _ => 0))), (h6, .inr (6, [.ref h7, .int 0])), (h7, .inl (k3, 64, .inl (fun _ => 0))), (h8, .inr (6, [.ref h9, .int 0])), (h9, .inl (k4, 64, .inl (fun _ => 0)))])) (va_Qi (fun (r : Int32) (_ : Unit) => r = 0) (fun (_ : Unit) (t : State) => va_P (dC, dI) vwCl [(h0, .inr (7, [.ref h1, .ref z0, .ref z1, .ref z2, .ref z3, .ref z4, .int 0, .int 0, .int 0])), (h1, .inl (k0, 4, .inr (.inr (.inr (.inr (va_up (va_up (va_up (va_up (fun _ => none) 0 (some h2)) 1 (some h4)) 2 (some h6)) 3 (some h8))))))), (h2, .inr (6, [.ref h3, .int 0])), (h3, .inl (k1, 64, .inl (fun _ => 0))), (h4, .inr (6, [.ref h5, .int 0])), (h5, .inl (k2, 64, .inl (fun _ => 0))), (h6, .inr (6, [.ref h7, .int 0])), (h7, .inl (k3, 64, .inl (fun _ => 0))), (h8, .inr (6, [.ref h9, .int 0])), (h9, .inl (k4, 64, .inl (fun _ => 0)))] t.heap ∧ va_K (dC, dI) vwCl [(k0, .object "Rewriterope$Text"), (k1, .byte), (k2, .byte), (k3, .byte), (k4, .byte)] t ∧ va_D (va_A [(h0, .inr (7, [.ref h1, .ref z0, .ref z1, .ref z2, .ref z3, .ref z4, .int 0, .int 0, .int 0])), (h1, .inl (k0, 4, .inr (.inr (.inr (.inr (va_up (va_up (va_up (va_up (fun _ => none) 0 (some h2)) 1 (some h4)) 2 (some h6)) 3 (some h8))))))), (h2, .inr (6, [.ref h3, .int 0])), (h3, .inl (k1, 64, .inl (fun _ => 0))), (h4, .inr (6, [.ref h5, .int 0])), (h5, .inl (k2, 64, .inl (fun _ => 0))), (h6, .inr (6, [.ref h7, .int 0])), (h7, .inl (k3, 64, .inl (fun _ => 0))), (h8, .inr (6, [.ref h9, .int 0])), (h9, .inl (k4, 64, .inl (fun _ => 0)))] sz) [(h0, .inr (7, [.ref h1, .ref z0, .ref z1, .ref z2, .ref z3, .ref z4, .int 0, .int 0, .int 0])), (h1, .inl (k0, 4, .inr (.inr (.inr (.inr (va_up (va_up (va_up (va_up (fun _ => none) 0 (some h2)) 1 (some h4)) 2 (some h6)) 3 (some h8))))))), (h2, .inr (6, [.ref h3, .int 0])), (h3, .inl (k1, 64, .inl (fun _ => 0))), (h4, .inr (6, [.ref h5, .int 0])), (h5, .inl (k2, 64, .inl (fun _ => 0))), (h6, .inr (6, [.ref h7, .int 0])), (h7, .inl (k3, 64, .inl (fun _ => 0))), (h8, .inr (6, [.ref h9, .int 0])), (h9, .inl (k4, 64, .inl (fun _ => 0)))]) (va_A [(h0, .inr (7, [.ref h1, .ref z0, .ref z1, .ref z2, .ref z3, .ref z4, .int 0, .int 0, .int 0])), (h1, .inl (k0, 4, .inr (.inr (.inr (.inr (va_up (va_up (va_up (va_up (fun _ => none) 0 (some h2)) 1 (some h4)) 2 (some h6)) 3 (some h8))))))), (h2, .inr (6, [.ref h3, .int 0])), (h3, .inl (k1, 64, .inl (fun _ => 0))), (h4, .inr (6, [.ref h5, .int 0])), (h5, .inl (k2, 64, .inl (fun _ => 0))), (h6, .inr (6, [.ref h7, .int 0])), (h7, .inl (k3, 64, .inl (fun _ => 0))), (h8, .inr (6, [.ref h9, .int 0])), (h9, .inl (k4, 64, .inl (fun _ => 0)))] sz)) 0 0 (va_A [(h0, .inr (7, [.ref h1, .ref z0, .ref z1, .ref z2, .ref z3, .ref z4, .int 0, .int 0, .int 0])), (h1, .inl (k0, 4, .inr (.inr (.inr (.inr (va_up (va_up (va_up (va_up (fun _ => none) 0 (some h2)) 1 (some h4)) 2 (some h6)) 3 (some h8))))))), (h2, .inr (6, [.ref h3, .int 0])), (h3, .inl (k1, 64, .inl (fun _ => 0))), (h4, .inr (6, [.ref h5, .int 0])), (h5, .inl (k2, 64, .inl (fun _ => 0))), (h6, .inr (6, [.ref h7, .int 0])), (h7, .inl (k3, 64, .inl (fun _ => 0))), (h8, .inr (6, [.ref h9, .int 0])), (h9, .inl (k4, 64, .inl (fun _ => 0)))] sz) := by
  refine Met.ofW (cc := cX3_copy) (maxL := 3) (ret := (some .int)) (by decide) rfl ?_
  intro p e s m args below meth c s₁ B hml hv
  obtain ⟨rfl, hsz, hP, hK, hD0⟩ := hv
  have hx := B.exec
  have hb := B.bytes
  have hr := B.returns
  have hts := atoms_spec (ws := wsX3_copy) B.pre
  have hown : s.vm.findClass RX3 = some m.cls := findClass_of_methodNamed B.named
  have hlocks := B.notSynchronized
  subst hsz
  have hD := hD0.self (sz := s.heap.size)
  generalize hAe : va_A [(h0, .inr (7, [.ref h1, .ref z0, .ref z1, .ref z2, .ref z3, .ref z4, .int 0, .int 0, .int 0])), (h1, .inl (k0, 4, .inr (.inr (.inr (.inr (va_up (va_up (va_up (va_up (fun _ => none) 0 (some h2)) 1 (some h4)) 2 (some h6)) 3 (some h8))))))), (h2, .inr (6, [.ref h3, .int 0])), (h3, .inl (k1, 64, .inl (fun _ => 0))), (h4, .inr (6, [.ref h5, .int 0])), (h5, .inl (k2, 64, .inl (fun _ => 0))), (h6, .inr (6, [.ref h7, .int 0])), (h7, .inl (k3, 64, .inl (fun _ => 0))), (h8, .inr (6, [.ref h9, .int 0])), (h9, .inl (k4, 64, .inl (fun _ => 0)))] s.heap.size = A at hD ⊢
  have hA : ∀ q : Nat, s.heap.size ≤ q → A q := fun q h => by rw [← hAe]; exact Or.inr h
  have hS : va_S A s.heap s.heap [] := va_S.rf
  have hP : va_P (dC, dI) vwCl [(h0, .inr (7, [.ref h1, .ref z0, .ref z1, .ref z2, .ref z3, .ref z4, .int 0, .int 0, .int 0])), (h1, .inl (k0, 4, .inr (.inr (.inr (.inr (va_up (va_up (va_up (va_up (fun _ => none) 0 (some h2)) 1 (some h4)) 2 (some h6)) 3 (some h8))))))), (h2, .inr (6, [.ref h3, .int 0])), (h3, .inl (k1, 64, .inl (fun _ => 0))), (h4, .inr (6, [.ref h5, .int 0])), (h5, .inl (k2, 64, .inl (fun _ => 0))), (h6, .inr (6, [.ref h7, .int 0])), (h7, .inl (k3, 64, .inl (fun _ => 0))), (h8, .inr (6, [.ref h9, .int 0])), (h9, .inl (k4, 64, .inl (fun _ => 0)))] s.heap := hP
  have hl := lv_entry ([.ref h0, .int 2, .int 1]) (n := 3) (Nat.le_of_ble_eq_true rfl)
  rw [lg_entry_eq]
  generalize (lg_sl ([.ref h0, .int 2, .int 1]) ++ List.replicate (3 - (lg_sl ([.ref h0, .int 2, .int 1])).length) Slot.unset).toArray = ls at hl ⊢
  have hl : lv_has ls 3 [(0, .ref h0), (1, .int 2), (2, .int 1)] := hl
  refine lv_iload_n hx hb dX3_copy_0 rfl (lv_at hl 1 rfl) ?_
  have hPc := hP.sub (ws' := []) [] rfl
  have hDc := hD.sub (ws' := []) [] (by decide) rfl
  have hKc := hK.sub (tys' := []) [] rfl
  have hFc := va_free (wc := []) hD hS hA [] rfl
  refine va_callv (va_runS (As := [.int 2]) (rest := []) ⟨hx, hb, hml, hown, hts⟩ (kx_X3_needRope_2 l dC dI s.heap.size) (cwS 1 hts gX3_copy_X3_needRope rfl rfl rfl (by decide +kernel) ⟨Nat.le_of_ble_eq_true rfl, Nat.le_of_ble_eq_true rfl⟩) ⟨fun a U g mk q => by obtain ⟨q0, q1, qP, qK, qD⟩ := q; exact ⟨q0, q1, qP, va_K.moved (u := U) (U := U.calling g mk a) (Vm.Alike.refl U.vm) qK, qD⟩, fun U hU hW => ⟨rfl, by rw [hU], by rw [hU]; exact hPc, va_K.moved hW.alike hKc, hDc.weaken (fun _ _ _ _ => trivial)⟩⟩ rfl rfl hl.1 rfl (lv_room (Nat.le_of_ble_eq_true rfl)) dX3_copy_1 ⟨Nat.le_of_ble_eq_true rfl, Nat.le_of_ble_eq_true rfl⟩) hS (fun q _ h => hFc q h) hFc (fun u t H1 locs ht hvm hw hB hz1 hk1 hS => ?_)
  obtain ⟨hP1, hK1, hD1⟩ := hB
  rw [ht] at hP1
  have hK1 := va_K.moved hvm.symm hK1
  obtain ⟨hP, hD⟩ := va_join (wr := [(h0, .inr (7, [.ref h1, .ref z0, .ref z1, .ref z2, .ref z3, .ref z4, .int 0, .int 0, .int 0])), (h1, .inl (k0, 4, .inr (.inr (.inr (.inr (va_up (va_up (va_up (va_up (fun _ => none) 0 (some h2)) 1 (some h4)) 2 (some h6)) 3 (some h8))))))), (h2, .inr (6, [.ref h3, .int 0])), (h3, .inl (k1, 64, .inl (fun _ => 0))), (h4, .inr (6, [.ref h5, .int 0])), (h5, .inl (k2, 64, .inl (fun _ => 0))), (h6, .inr (6, [.ref h7, .int 0])), (h7, .inl (k3, 64, .inl (fun _ => 0))), (h8, .inr (6, [.ref h9, .int 0])), (h9, .inl (k4, 64, .inl (fun _ => 0)))]) (w1 := []) hP hD [] [0, 1, 2, 3, 4, 5, 6, 7, 8, 9] rfl rfl (by decide) (by decide) hk1 hFc hP1 hD1
  generalize H1 = H at hP hS ⊢
  have hP : va_P (dC, dI) vwCl [(h0, .inr (7, [.ref h1, .ref z0, .ref z1, .ref z2, .ref z3, .ref z4, .int 0, .int 0, .int 0])), (h1, .inl (k0, 4, .inr (.inr (.inr (.inr (va_up (va_up (va_up (va_up (fun _ => none) 0 (some h2)) 1 (some h4)) 2 (some h6)) 3 (some h8))))))), (h2, .inr (6, [.ref h3, .int 0])), (h3, .inl (k1, 64, .inl (fun _ => 0))), (h4, .inr (6, [.ref h5, .int 0])), (h5, .inl (k2, 64, .inl (fun _ => 0))), (h6, .inr (6, [.ref h7, .int 0])), (h7, .inl (k3, 64, .inl (fun _ => 0))), (h8, .inr (6, [.ref h9, .int 0])), (h9, .inl (k4, 64, .inl (fun _ => 0)))] H := hP
  have hD : va_D A [(h0, .inr (7, [.ref h1, .ref z0, .ref z1, .ref z2, .ref z3, .ref z4, .int 0, .int 0, .int 0])), (h1, .inl (k0, 4, .inr (.inr (.inr (.inr (va_up (va_up (va_up (va_up (fun _ => none) 0 (some h2)) 1 (some h4)) 2 (some h6)) 3 (some h8))))))), (h2, .inr (6, [.ref h3, .int 0])), (h3, .inl (k1, 64, .inl (fun _ => 0))), (h4, .inr (6, [.ref h5, .int 0])), (h5, .inl (k2, 64, .inl (fun _ => 0))), (h6, .inr (6, [.ref h7, .int 0])), (h7, .inl (k3, 64, .inl (fun _ => 0))), (h8, .inr (6, [.ref h9, .int 0])), (h9, .inl (k4, 64, .inl (fun _ => 0)))] := hD
  refine lv_iload_n hx hb dX3_copy_4 rfl (lv_at hl 2 rfl) ?_
  have hPc := hP.sub (ws' := []) [] rfl
  have hDc := hD.sub (ws' := []) [] (by decide) rfl
  have hKc := hK.sub (tys' := []) [] rfl
  have hFc := va_free (wc := []) hD hS hA [] rfl
  refine va_callv (va_runS (As := [.int 1]) (rest := []) ⟨hx, hb, hml, hown, hts⟩ (kx_X3_needRope_1 l dC dI H.size) (cwS 1 hts gX3_copy_X3_needRope rfl rfl rfl (by decide +kernel) ⟨Nat.le_of_ble_eq_true rfl, Nat.le_of_ble_eq_true rfl⟩) ⟨fun a U g mk q => by obtain ⟨q0, q1, qP, qK, qD⟩ := q; exact ⟨q0, q1, qP, va_K.moved (u := U) (U := U.calling g mk a) (Vm.Alike.refl U.vm) qK, qD⟩, fun U hU hW => ⟨rfl, by rw [hU], by rw [hU]; exact hPc, va_K.moved hW.alike hKc, hDc.weaken (fun _ _ _ _ => trivial)⟩⟩ rfl rfl hl.1 rfl (lv_room (Nat.le_of_ble_eq_true rfl)) dX3_copy_5 ⟨Nat.le_of_ble_eq_true rfl, Nat.le_of_ble_eq_true rfl⟩) hS (fun q _ h => hFc q h) hFc (fun u t H1 locs ht hvm hw hB hz1 hk1 hS => ?_)
  obtain ⟨hP1, hK1, hD1⟩ := hB
  rw [ht] at hP1
  have hK1 := va_K.moved hvm.symm hK1
  obtain ⟨hP, hD⟩ := va_join (wr := [(h0, .inr (7, [.ref h1, .ref z0, .ref z1, .ref z2, .ref z3, .ref z4, .int 0, .int 0, .int 0])), (h1, .inl (k0, 4, .inr (.inr (.inr (.inr (va_up (va_up (va_up (va_up (fun _ => none) 0 (some h2)) 1 (some h4)) 2 (some h6)) 3 (some h8))))))), (h2, .inr (6, [.ref h3, .int 0])), (h3, .inl (k1, 64, .inl (fun _ => 0))), (h4, .inr (6, [.ref h5, .int 0])), (h5, .inl (k2, 64, .inl (fun _ => 0))), (h6, .inr (6, [.ref h7, .int 0])), (h7, .inl (k3, 64, .inl (fun _ => 0))), (h8, .inr (6, [.ref h9, .int 0])), (h9, .inl (k4, 64, .inl (fun _ => 0)))]) (w1 := []) hP hD [] [0, 1, 2, 3, 4, 5, 6, 7, 8, 9] rfl rfl (by decide) (by decide) hk1 hFc hP1 hD1
  generalize H1 = H at hP hS ⊢
  have hP : va_P (dC, dI) vwCl [(h0, .inr (7, [.ref h1, .ref z0, .ref z1, .ref z2, .ref z3, .ref z4, .int 0, .int 0, .int 0])), (h1, .inl (k0, 4, .inr (.inr (.inr (.inr (va_up (va_up (va_up (va_up (fun _ => none) 0 (some h2)) 1 (some h4)) 2 (some h6)) 3 (some h8))))))), (h2, .inr (6, [.ref h3, .int 0])), (h3, .inl (k1, 64, .inl (fun _ => 0))), (h4, .inr (6, [.ref h5, .int 0])), (h5, .inl (k2, 64, .inl (fun _ => 0))), (h6, .inr (6, [.ref h7, .int 0])), (h7, .inl (k3, 64, .inl (fun _ => 0))), (h8, .inr (6, [.ref h9, .int 0])), (h9, .inl (k4, 64, .inl (fun _ => 0)))] H := hP
  have hD : va_D A [(h0, .inr (7, [.ref h1, .ref z0, .ref z1, .ref z2, .ref z3, .ref z4, .int 0, .int 0, .int 0])), (h1, .inl (k0, 4, .inr (.inr (.inr (.inr (va_up (va_up (va_up (va_up (fun _ => none) 0 (some h2)) 1 (some h4)) 2 (some h6)) 3 (some h8))))))), (h2, .inr (6, [.ref h3, .int 0])), (h3, .inl (k1, 64, .inl (fun _ => 0))), (h4, .inr (6, [.ref h5, .int 0])), (h5, .inl (k2, 64, .inl (fun _ => 0))), (h6, .inr (6, [.ref h7, .int 0])), (h7, .inl (k3, 64, .inl (fun _ => 0))), (h8, .inr (6, [.ref h9, .int 0])), (h9, .inl (k4, 64, .inl (fun _ => 0)))] := hD
  refine lv_aload_n hx hb dX3_copy_8 rfl (lv_at hl 0 rfl) ?_
  refine va_get (D := (dC, dI)) (ci := 7) (v := .ref h1) (C := RX3) (T := TX3) (N := 9) hx hb hts (by decide +kernel) hown hK hP 0 rfl rfl 0 (by decide) (hts (.fieldLink RX3 11 "Rewriterope" "ropes" "[LRewriterope$Text;") (by decide +kernel)) (fun _ h9 => h9) rfl dX3_copy_9 ?_
  refine lv_iload_n hx hb dX3_copy_12 rfl (lv_at hl 1 rfl) ?_
  refine va_aldq (D := (dC, dI)) hx hb hK hP 1 0 rfl rfl (by unfold vp_in; decide) dX3_copy_13 ?_
  refine W.eq (g2 := F0 m 14 ls [.ref h6]) rfl ?_
  refine lv_aload_n hx hb dX3_copy_14 rfl (lv_at hl 0 rfl) ?_
  refine va_get (D := (dC, dI)) (ci := 7) (v := .ref h1) (C := RX3) (T := TX3) (N := 9) hx hb hts (by decide +kernel) hown hK hP 0 rfl rfl 0 (by decide) (hts (.fieldLink RX3 11 "Rewriterope" "ropes" "[LRewriterope$Text;") (by decide +kernel)) (fun _ h9 => h9) rfl dX3_copy_15 ?_
  refine lv_iload_n hx hb dX3_copy_18 rfl (lv_at hl 2 rfl) ?_
  refine va_aldq (D := (dC, dI)) hx hb hK hP 1 0 rfl rfl (by unfold vp_in; decide) dX3_copy_19 ?_
  refine W.eq (g2 := F0 m 20 ls [.ref h4, .ref h6]) rfl ?_
  have hPc := hP.sub (ws' := [(h4, .inr (6, [.ref h5, .int 0])), (h5, .inl (k2, 64, .inl (fun _ => 0))), (h6, .inr (6, [.ref h7, .int 0])), (h7, .inl (k3, 64, .inl (fun _ => 0)))]) [4, 5, 6, 7] rfl
  have hDc := hD.sub (ws' := [(h4, .inr (6, [.ref h5, .int 0])), (h5, .inl (k2, 64, .inl (fun _ => 0))), (h6, .inr (6, [.ref h7, .int 0])), (h7, .inl (k3, 64, .inl (fun _ => 0)))]) [4, 5, 6, 7] (by decide) rfl
  have hKc := hK.sub (tys' := [(k2, .byte), (k3, .byte)]) [2, 3] rfl
  have hFc := va_free (wc := [(h4, .inr (6, [.ref h5, .int 0])), (h5, .inl (k2, 64, .inl (fun _ => 0))), (h6, .inr (6, [.ref h7, .int 0])), (h7, .inl (k3, 64, .inl (fun _ => 0)))]) hD hS hA [4, 5, 6, 7] rfl
  refine va_callv (va_runV (As := [.ref h4]) (rest := []) ⟨hx, hb, hml, hown, hts⟩ (kx_X2_become_2 l dC dI h4 h5 h6 h7 k2 k3 H.size) (cwV 1 hts gX3_copy_X2_become rfl rfl rfl (by decide +kernel) ⟨Nat.le_of_ble_eq_true rfl, Nat.le_of_ble_eq_true rfl⟩) ⟨fun a U g mk q => by obtain ⟨q0, q1, qP, qK, qD⟩ := q; exact ⟨q0, q1, qP, va_K.moved (u := U) (U := U.calling g mk a) (Vm.Alike.refl U.vm) qK, qD⟩, va_recv hKc hPc (ci := 6) (q0 := 2) rfl rfl, fun U hU hW => ⟨rfl, by rw [hU], by rw [hU]; exact hPc, va_K.moved hW.alike hKc, hDc.weaken (fun _ _ _ _ => trivial)⟩⟩ rfl rfl hl.1 rfl (lv_room (Nat.le_of_ble_eq_true rfl)) dX3_copy_20 ⟨Nat.le_of_ble_eq_true rfl, Nat.le_of_ble_eq_true rfl⟩) hS (fun q _ h => hFc q h) hFc (fun u t H1 locs ht hvm hw hB hz1 hk1 hS => ?_)
  obtain ⟨hP1, hK1, hD1⟩ := hB
  rw [ht] at hP1
  have hK1 := va_K.moved hvm.symm hK1
  obtain ⟨hP, hD⟩ := va_join (wr := [(h0, .inr (7, [.ref h1, .ref z0, .ref z1, .ref z2, .ref z3, .ref z4, .int 0, .int 0, .int 0])), (h1, .inl (k0, 4, .inr (.inr (.inr (.inr (va_up (va_up (va_up (va_up (fun _ => none) 0 (some h2)) 1 (some h4)) 2 (some h6)) 3 (some h8))))))), (h2, .inr (6, [.ref h3, .int 0])), (h3, .inl (k1, 64, .inl (fun _ => 0))), (h8, .inr (6, [.ref h9, .int 0])), (h9, .inl (k4, 64, .inl (fun _ => 0)))]) (w1 := [(h4, .inr (6, [.ref h5, .int 0])), (h5, .inl (k2, 64, .inl (fun _ => 0))), (h6, .inr (6, [.ref h7, .int 0])), (h7, .inl (k3, 64, .inl (fun _ => 0)))]) hP hD [4, 5, 6, 7] [0, 1, 2, 3, 8, 9] rfl rfl (by decide) (by decide) hk1 hFc hP1 hD1
  generalize H1 = H at hP hS ⊢
  have hP : va_P (dC, dI) vwCl [(h0, .inr (7, [.ref h1, .ref z0, .ref z1, .ref z2, .ref z3, .ref z4, .int 0, .int 0, .int 0])), (h1, .inl (k0, 4, .inr (.inr (.inr (.inr (va_up (va_up (va_up (va_up (fun _ => none) 0 (some h2)) 1 (some h4)) 2 (some h6)) 3 (some h8))))))), (h2, .inr (6, [.ref h3, .int 0])), (h3, .inl (k1, 64, .inl (fun _ => 0))), (h8, .inr (6, [.ref h9, .int 0])), (h9, .inl (k4, 64, .inl (fun _ => 0))), (h4, .inr (6, [.ref h5, .int 0])), (h5, .inl (k2, 64, .inl (fun _ => 0))), (h6, .inr (6, [.ref h7, .int 0])), (h7, .inl (k3, 64, .inl (fun _ => 0)))] H := hP
  have hD : va_D A [(h0, .inr (7, [.ref h1, .ref z0, .ref z1, .ref z2, .ref z3, .ref z4, .int 0, .int 0, .int 0])), (h1, .inl (k0, 4, .inr (.inr (.inr (.inr (va_up (va_up (va_up (va_up (fun _ => none) 0 (some h2)) 1 (some h4)) 2 (some h6)) 3 (some h8))))))), (h2, .inr (6, [.ref h3, .int 0])), (h3, .inl (k1, 64, .inl (fun _ => 0))), (h8, .inr (6, [.ref h9, .int 0])), (h9, .inl (k4, 64, .inl (fun _ => 0))), (h4, .inr (6, [.ref h5, .int 0])), (h5, .inl (k2, 64, .inl (fun _ => 0))), (h6, .inr (6, [.ref h7, .int 0])), (h7, .inl (k3, 64, .inl (fun _ => 0)))] := hD
  refine lv_aload_n hx hb dX3_copy_23 rfl (lv_at hl 0 rfl) ?_
  refine va_get (D := (dC, dI)) (ci := 7) (v := .ref h1) (C := RX3) (T := TX3) (N := 9) hx hb hts (by decide +kernel) hown hK hP 0 rfl rfl 0 (by decide) (hts (.fieldLink RX3 11 "Rewriterope" "ropes" "[LRewriterope$Text;") (by decide +kernel)) (fun _ h9 => h9) rfl dX3_copy_24 ?_
  refine lv_iload_n hx hb dX3_copy_27 rfl (lv_at hl 1 rfl) ?_
  refine va_aldq (D := (dC, dI)) hx hb hK hP 1 0 rfl rfl (by unfold vp_in; decide) dX3_copy_28 ?_
  refine W.eq (g2 := F0 m 29 ls [.ref h6]) rfl ?_
  refine va_get (D := (dC, dI)) (ci := 6) (v := .int 0) (C := RX2) (T := TX2) (N := 2) hx hb hts (by decide +kernel) hown hK hP 8 rfl rfl 1 (by decide) (hts (.fieldLink RX3 65 "Rewriterope$Text" "length" "I") (by decide +kernel)) (fun _ h9 => h9) rfl dX3_copy_29 ?_
  have hP := hP.sub (ws' := [(h0, .inr (7, [.ref h1, .ref z0, .ref z1, .ref z2, .ref z3, .ref z4, .int 0, .int 0, .int 0])), (h1, .inl (k0, 4, .inr (.inr (.inr (.inr (va_up (va_up (va_up (va_up (fun _ => none) 0 (some h2)) 1 (some h4)) 2 (some h6)) 3 (some h8))))))), (h2, .inr (6, [.ref h3, .int 0])), (h3, .inl (k1, 64, .inl (fun _ => 0))), (h4, .inr (6, [.ref h5, .int 0])), (h5, .inl (k2, 64, .inl (fun _ => 0))), (h6, .inr (6, [.ref h7, .int 0])), (h7, .inl (k3, 64, .inl (fun _ => 0))), (h8, .inr (6, [.ref h9, .int 0])), (h9, .inl (k4, 64, .inl (fun _ => 0)))]) [0, 1, 2, 3, 6, 7, 8, 9, 4, 5] rfl
  have hD := hD.sub (ws' := [(h0, .inr (7, [.ref h1, .ref z0, .ref z1, .ref z2, .ref z3, .ref z4, .int 0, .int 0, .int 0])), (h1, .inl (k0, 4, .inr (.inr (.inr (.inr (va_up (va_up (va_up (va_up (fun _ => none) 0 (some h2)) 1 (some h4)) 2 (some h6)) 3 (some h8))))))), (h2, .inr (6, [.ref h3, .int 0])), (h3, .inl (k1, 64, .inl (fun _ => 0))), (h4, .inr (6, [.ref h5, .int 0])), (h5, .inl (k2, 64, .inl (fun _ => 0))), (h6, .inr (6, [.ref h7, .int 0])), (h7, .inl (k3, 64, .inl (fun _ => 0))), (h8, .inr (6, [.ref h9, .int 0])), (h9, .inl (k4, 64, .inl (fun _ => 0)))]) [0, 1, 2, 3, 6, 7, 8, 9, 4, 5] (by decide) rfl
  exact W.iret (v := 0) hx hb hr (fun t ht hW => ⟨⟨0, (), rfl, rfl, by rw [ht]; exact hP, va_K.moved hW.alike hK, hD⟩, hS.F ht⟩) hS.2.2 dX3_copy_32
set_option maxHeartbeats 4000000 in
set_option maxRecDepth 100000 in
theorem kx_X3_copy_10 (l : Launch) (dC : Nat → ClassId) (dI : Nat → Nat → Nat) (h0 : Nat) (h1 : Nat) (h2 : Nat) (h3 : Nat) (h4 : Nat) (h5 : Nat) (h6 : Nat) (h7 : Nat) (h8 : Nat) (h9 : Nat) (z0 : Nat) (z1 : Nat) (z2 : Nat) (z3 : Nat) (z4 : Nat) (k0 : ClassId) (k1 : ClassId) (k2 : ClassId) (k3 : ClassId) (k4 : ClassId) (sz : Nat) : Met l yX3_copy wsX3_copy ({ frames := 2, cells := 0, slots := 0, locals := 81 }) (va_Pc [.ref h0, .int 2, .int 2] (fun U => U.heap.size = sz ∧ va_P (dC, dI) vwCl [(h0, .inr (7, [.ref h1, .ref z0, .ref z1, .ref z2, .ref z3, .ref z4, .int 0, .int 0, .int 0])), (h1, .inl (k0, 4, .inr (.inr (.inr (.inr (va_up (va_up (va_up (va_up (fun _ => none) 0 (some h2)) 1 (some h4)) 2 (some h6)) 3 (some h8))))))), (h2, .inr (6, [.ref h3, .int 0])), (h3, .inl (k1, 64, .inl (fun _ => 0))), (h4, .inr (6, [.ref h5, .int 0])), (h5, .inl (k2, 64, .inl (fun _ => 0))), (h6, .inr (6, [.ref h7, .int 0])), (h7, .inl (k3, 64, .inl (fun _ => 0))), (h8, .inr (6, [.ref h9, .int 0])), (h9, .inl (k4, 64, .inl (fun _ => 0)))] U.heap ∧ va_K (dC, dI) vwCl [(k0, .object "Rewriterope$Text"), (k1, .byte), (k2, .byte), (k3, .byte), (k4, .byte)] U ∧ va_D (fun _ => True) [(h0, .inr (7, [.ref h1, .ref z0, .ref z1, .ref z2, .ref z3, .ref z4, .int 0, .int 0, .int 0])), (h1, .inl (k0, 4, .inr (.inr (.inr (.inr (va_up (va_up (va_up (va_up (fun _ => none) 0 (some h2)) 1 (some h4)) 2 (some h6)) 3 (some h8))))))), (h2, .inr (6, [.ref h3, .int 0])), (h3, .inl (k1, 64, .inl (fun _ => 0))), (h4, .inr (6, [.ref h5, .int 0])), (h5, .inl (k2, 64, .inl (fun _ => 0))), (h6, .inr (6, [.ref h7, .int 0])), (h7, .inl (k3, 64, .inl (fun _ => 0))), (h8, .inr (6, [.ref h9, .int 0])), (h9, .inl (k4, 64, .inl (fun _ => 0)))])) (va_Qi (fun (r : Int32) (_ : Unit) => r = 0) (fun (_ : Unit) (t : State) => va_P (dC, dI) vwCl [(h0, .inr (7, [.ref h1, .ref z0, .ref z1, .ref z2, .ref z3, .ref z4, .int 0, .int 0, .int 0])), (h1, .inl (k0, 4, .inr (.inr (.inr (.inr (va_up (va_up (va_up (va_up (fun _ => none) 0 (some h2)) 1 (some h4)) 2 (some h6)) 3 (some h8))))))), (h2, .inr (6, [.ref h3, .int 0])), (h3, .inl (k1, 64, .inl (fun _ => 0))), (h4, .inr (6, [.ref h5, .int 0])), (h5, .inl (k2, 64, .inl (fun _ => 0))), (h6, .inr (6, [.ref h7, .int 0])), (h7, .inl (k3, 64, .inl (fun _ => 0))), (h8, .inr (6, [.ref h9, .int 0])), (h9, .inl (k4, 64, .inl (fun _ => 0)))] t.heap ∧ va_K (dC, dI) vwCl [(k0, .object "Rewriterope$Text"), (k1, .byte), (k2, .byte), (k3, .byte), (k4, .byte)] t ∧ va_D (va_A [(h0, .inr (7, [.ref h1, .ref z0, .ref z1, .ref z2, .ref z3, .ref z4, .int 0, .int 0, .int 0])), (h1, .inl (k0, 4, .inr (.inr (.inr (.inr (va_up (va_up (va_up (va_up (fun _ => none) 0 (some h2)) 1 (some h4)) 2 (some h6)) 3 (some h8))))))), (h2, .inr (6, [.ref h3, .int 0])), (h3, .inl (k1, 64, .inl (fun _ => 0))), (h4, .inr (6, [.ref h5, .int 0])), (h5, .inl (k2, 64, .inl (fun _ => 0))), (h6, .inr (6, [.ref h7, .int 0])), (h7, .inl (k3, 64, .inl (fun _ => 0))), (h8, .inr (6, [.ref h9, .int 0])), (h9, .inl (k4, 64, .inl (fun _ => 0)))] sz) [(h0, .inr (7, [.ref h1, .ref z0, .ref z1, .ref z2, .ref z3, .ref z4, .int 0, .int 0, .int 0])), (h1, .inl (k0, 4, .inr (.inr (.inr (.inr (va_up (va_up (va_up (va_up (fun _ => none) 0 (some h2)) 1 (some h4)) 2 (some h6)) 3 (some h8))))))), (h2, .inr (6, [.ref h3, .int 0])), (h3, .inl (k1, 64, .inl (fun _ => 0))), (h4, .inr (6, [.ref h5, .int 0])), (h5, .inl (k2, 64, .inl (fun _ => 0))), (h6, .inr (6, [.ref h7, .int 0])), (h7, .inl (k3, 64, .inl (fun _ => 0))), (h8, .inr (6, [.ref h9, .int 0])), (h9, .inl (k4, 64, .inl (fun _ => 0)))]) (va_A [(h0, .inr (7, [.ref h1, .ref z0, .ref z1, .ref z2, .ref z3, .ref z4, .int 0, .int 0, .int 0])), (h1, .inl (k0, 4, .inr (.inr (.inr (.inr (va_up (va_up (va_up (va_up (fun _ => none) 0 (some h2)) 1 (some h4)) 2 (some h6)) 3 (some h8))))))), (h2, .inr (6, [.ref h3, .int 0])), (h3, .inl (k1, 64, .inl (fun _ => 0))), (h4, .inr (6, [.ref h5, .int 0])), (h5, .inl (k2, 64, .inl (fun _ => 0))), (h6, .inr (6, [.ref h7, .int 0])), (h7, .inl (k3, 64, .inl (fun _ => 0))), (h8, .inr (6, [.ref h9, .int 0])), (h9, .inl (k4, 64, .inl (fun _ => 0)))] sz)) 0 0 (va_A [(h0, .inr (7, [.ref h1, .ref z0, .ref z1, .ref z2, .ref z3, .ref z4, .int 0, .int 0, .int 0])), (h1, .inl (k0, 4, .inr (.inr (.inr (.inr (va_up (va_up (va_up (va_up (fun _ => none) 0 (some h2)) 1 (some h4)) 2 (some h6)) 3 (some h8))))))), (h2, .inr (6, [.ref h3, .int 0])), (h3, .inl (k1, 64, .inl (fun _ => 0))), (h4, .inr (6, [.ref h5, .int 0])), (h5, .inl (k2, 64, .inl (fun _ => 0))), (h6, .inr (6, [.ref h7, .int 0])), (h7, .inl (k3, 64, .inl (fun _ => 0))), (h8, .inr (6, [.ref h9, .int 0])), (h9, .inl (k4, 64, .inl (fun _ => 0)))] sz) := by
  refine Met.ofW (cc := cX3_copy) (maxL := 3) (ret := (some .int)) (by decide) rfl ?_
  intro p e s m args below meth c s₁ B hml hv
  obtain ⟨rfl, hsz, hP, hK, hD0⟩ := hv
  have hx := B.exec
  have hb := B.bytes
  have hr := B.returns
  have hts := atoms_spec (ws := wsX3_copy) B.pre
  have hown : s.vm.findClass RX3 = some m.cls := findClass_of_methodNamed B.named
  have hlocks := B.notSynchronized
  subst hsz
  have hD := hD0.self (sz := s.heap.size)
  generalize hAe : va_A [(h0, .inr (7, [.ref h1, .ref z0, .ref z1, .ref z2, .ref z3, .ref z4, .int 0, .int 0, .int 0])), (h1, .inl (k0, 4, .inr (.inr (.inr (.inr (va_up (va_up (va_up (va_up (fun _ => none) 0 (some h2)) 1 (some h4)) 2 (some h6)) 3 (some h8))))))), (h2, .inr (6, [.ref h3, .int 0])), (h3, .inl (k1, 64, .inl (fun _ => 0))), (h4, .inr (6, [.ref h5, .int 0])), (h5, .inl (k2, 64, .inl (fun _ => 0))), (h6, .inr (6, [.ref h7, .int 0])), (h7, .inl (k3, 64, .inl (fun _ => 0))), (h8, .inr (6, [.ref h9, .int 0])), (h9, .inl (k4, 64, .inl (fun _ => 0)))] s.heap.size = A at hD ⊢
  have hA : ∀ q : Nat, s.heap.size ≤ q → A q := fun q h => by rw [← hAe]; exact Or.inr h
  have hS : va_S A s.heap s.heap [] := va_S.rf
  have hP : va_P (dC, dI) vwCl [(h0, .inr (7, [.ref h1, .ref z0, .ref z1, .ref z2, .ref z3, .ref z4, .int 0, .int 0, .int 0])), (h1, .inl (k0, 4, .inr (.inr (.inr (.inr (va_up (va_up (va_up (va_up (fun _ => none) 0 (some h2)) 1 (some h4)) 2 (some h6)) 3 (some h8))))))), (h2, .inr (6, [.ref h3, .int 0])), (h3, .inl (k1, 64, .inl (fun _ => 0))), (h4, .inr (6, [.ref h5, .int 0])), (h5, .inl (k2, 64, .inl (fun _ => 0))), (h6, .inr (6, [.ref h7, .int 0])), (h7, .inl (k3, 64, .inl (fun _ => 0))), (h8, .inr (6, [.ref h9, .int 0])), (h9, .inl (k4, 64, .inl (fun _ => 0)))] s.heap := hP
  have hl := lv_entry ([.ref h0, .int 2, .int 2]) (n := 3) (Nat.le_of_ble_eq_true rfl)
  rw [lg_entry_eq]
  generalize (lg_sl ([.ref h0, .int 2, .int 2]) ++ List.replicate (3 - (lg_sl ([.ref h0, .int 2, .int 2])).length) Slot.unset).toArray = ls at hl ⊢
  have hl : lv_has ls 3 [(0, .ref h0), (1, .int 2), (2, .int 2)] := hl
  refine lv_iload_n hx hb dX3_copy_0 rfl (lv_at hl 1 rfl) ?_
  have hPc := hP.sub (ws' := []) [] rfl
  have hDc := hD.sub (ws' := []) [] (by decide) rfl
  have hKc := hK.sub (tys' := []) [] rfl
  have hFc := va_free (wc := []) hD hS hA [] rfl
  refine va_callv (va_runS (As := [.int 2]) (rest := []) ⟨hx, hb, hml, hown, hts⟩ (kx_X3_needRope_2 l dC dI s.heap.size) (cwS 1 hts gX3_copy_X3_needRope rfl rfl rfl (by decide +kernel) ⟨Nat.le_of_ble_eq_true rfl, Nat.le_of_ble_eq_true rfl⟩) ⟨fun a U g mk q => by obtain ⟨q0, q1, qP, qK, qD⟩ := q; exact ⟨q0, q1, qP, va_K.moved (u := U) (U := U.calling g mk a) (Vm.Alike.refl U.vm) qK, qD⟩, fun U hU hW => ⟨rfl, by rw [hU], by rw [hU]; exact hPc, va_K.moved hW.alike hKc, hDc.weaken (fun _ _ _ _ => trivial)⟩⟩ rfl rfl hl.1 rfl (lv_room (Nat.le_of_ble_eq_true rfl)) dX3_copy_1 ⟨Nat.le_of_ble_eq_true rfl, Nat.le_of_ble_eq_true rfl⟩) hS (fun q _ h => hFc q h) hFc (fun u t H1 locs ht hvm hw hB hz1 hk1 hS => ?_)
  obtain ⟨hP1, hK1, hD1⟩ := hB
  rw [ht] at hP1
  have hK1 := va_K.moved hvm.symm hK1
  obtain ⟨hP, hD⟩ := va_join (wr := [(h0, .inr (7, [.ref h1, .ref z0, .ref z1, .ref z2, .ref z3, .ref z4, .int 0, .int 0, .int 0])), (h1, .inl (k0, 4, .inr (.inr (.inr (.inr (va_up (va_up (va_up (va_up (fun _ => none) 0 (some h2)) 1 (some h4)) 2 (some h6)) 3 (some h8))))))), (h2, .inr (6, [.ref h3, .int 0])), (h3, .inl (k1, 64, .inl (fun _ => 0))), (h4, .inr (6, [.ref h5, .int 0])), (h5, .inl (k2, 64, .inl (fun _ => 0))), (h6, .inr (6, [.ref h7, .int 0])), (h7, .inl (k3, 64, .inl (fun _ => 0))), (h8, .inr (6, [.ref h9, .int 0])), (h9, .inl (k4, 64, .inl (fun _ => 0)))]) (w1 := []) hP hD [] [0, 1, 2, 3, 4, 5, 6, 7, 8, 9] rfl rfl (by decide) (by decide) hk1 hFc hP1 hD1
  generalize H1 = H at hP hS ⊢
  have hP : va_P (dC, dI) vwCl [(h0, .inr (7, [.ref h1, .ref z0, .ref z1, .ref z2, .ref z3, .ref z4, .int 0, .int 0, .int 0])), (h1, .inl (k0, 4, .inr (.inr (.inr (.inr (va_up (va_up (va_up (va_up (fun _ => none) 0 (some h2)) 1 (some h4)) 2 (some h6)) 3 (some h8))))))), (h2, .inr (6, [.ref h3, .int 0])), (h3, .inl (k1, 64, .inl (fun _ => 0))), (h4, .inr (6, [.ref h5, .int 0])), (h5, .inl (k2, 64, .inl (fun _ => 0))), (h6, .inr (6, [.ref h7, .int 0])), (h7, .inl (k3, 64, .inl (fun _ => 0))), (h8, .inr (6, [.ref h9, .int 0])), (h9, .inl (k4, 64, .inl (fun _ => 0)))] H := hP
  have hD : va_D A [(h0, .inr (7, [.ref h1, .ref z0, .ref z1, .ref z2, .ref z3, .ref z4, .int 0, .int 0, .int 0])), (h1, .inl (k0, 4, .inr (.inr (.inr (.inr (va_up (va_up (va_up (va_up (fun _ => none) 0 (some h2)) 1 (some h4)) 2 (some h6)) 3 (some h8))))))), (h2, .inr (6, [.ref h3, .int 0])), (h3, .inl (k1, 64, .inl (fun _ => 0))), (h4, .inr (6, [.ref h5, .int 0])), (h5, .inl (k2, 64, .inl (fun _ => 0))), (h6, .inr (6, [.ref h7, .int 0])), (h7, .inl (k3, 64, .inl (fun _ => 0))), (h8, .inr (6, [.ref h9, .int 0])), (h9, .inl (k4, 64, .inl (fun _ => 0)))] := hD
  refine lv_iload_n hx hb dX3_copy_4 rfl (lv_at hl 2 rfl) ?_
  have hPc := hP.sub (ws' := []) [] rfl
  have hDc := hD.sub (ws' := []) [] (by decide) rfl
  have hKc := hK.sub (tys' := []) [] rfl
  have hFc := va_free (wc := []) hD hS hA [] rfl
  refine va_callv (va_runS (As := [.int 2]) (rest := []) ⟨hx, hb, hml, hown, hts⟩ (kx_X3_needRope_2 l dC dI H.size) (cwS 1 hts gX3_copy_X3_needRope rfl rfl rfl (by decide +kernel) ⟨Nat.le_of_ble_eq_true rfl, Nat.le_of_ble_eq_true rfl⟩) ⟨fun a U g mk q => by obtain ⟨q0, q1, qP, qK, qD⟩ := q; exact ⟨q0, q1, qP, va_K.moved (u := U) (U := U.calling g mk a) (Vm.Alike.refl U.vm) qK, qD⟩, fun U hU hW => ⟨rfl, by rw [hU], by rw [hU]; exact hPc, va_K.moved hW.alike hKc, hDc.weaken (fun _ _ _ _ => trivial)⟩⟩ rfl rfl hl.1 rfl (lv_room (Nat.le_of_ble_eq_true rfl)) dX3_copy_5 ⟨Nat.le_of_ble_eq_true rfl, Nat.le_of_ble_eq_true rfl⟩) hS (fun q _ h => hFc q h) hFc (fun u t H1 locs ht hvm hw hB hz1 hk1 hS => ?_)
  obtain ⟨hP1, hK1, hD1⟩ := hB
  rw [ht] at hP1
  have hK1 := va_K.moved hvm.symm hK1
  obtain ⟨hP, hD⟩ := va_join (wr := [(h0, .inr (7, [.ref h1, .ref z0, .ref z1, .ref z2, .ref z3, .ref z4, .int 0, .int 0, .int 0])), (h1, .inl (k0, 4, .inr (.inr (.inr (.inr (va_up (va_up (va_up (va_up (fun _ => none) 0 (some h2)) 1 (some h4)) 2 (some h6)) 3 (some h8))))))), (h2, .inr (6, [.ref h3, .int 0])), (h3, .inl (k1, 64, .inl (fun _ => 0))), (h4, .inr (6, [.ref h5, .int 0])), (h5, .inl (k2, 64, .inl (fun _ => 0))), (h6, .inr (6, [.ref h7, .int 0])), (h7, .inl (k3, 64, .inl (fun _ => 0))), (h8, .inr (6, [.ref h9, .int 0])), (h9, .inl (k4, 64, .inl (fun _ => 0)))]) (w1 := []) hP hD [] [0, 1, 2, 3, 4, 5, 6, 7, 8, 9] rfl rfl (by decide) (by decide) hk1 hFc hP1 hD1
  generalize H1 = H at hP hS ⊢
  have hP : va_P (dC, dI) vwCl [(h0, .inr (7, [.ref h1, .ref z0, .ref z1, .ref z2, .ref z3, .ref z4, .int 0, .int 0, .int 0])), (h1, .inl (k0, 4, .inr (.inr (.inr (.inr (va_up (va_up (va_up (va_up (fun _ => none) 0 (some h2)) 1 (some h4)) 2 (some h6)) 3 (some h8))))))), (h2, .inr (6, [.ref h3, .int 0])), (h3, .inl (k1, 64, .inl (fun _ => 0))), (h4, .inr (6, [.ref h5, .int 0])), (h5, .inl (k2, 64, .inl (fun _ => 0))), (h6, .inr (6, [.ref h7, .int 0])), (h7, .inl (k3, 64, .inl (fun _ => 0))), (h8, .inr (6, [.ref h9, .int 0])), (h9, .inl (k4, 64, .inl (fun _ => 0)))] H := hP
  have hD : va_D A [(h0, .inr (7, [.ref h1, .ref z0, .ref z1, .ref z2, .ref z3, .ref z4, .int 0, .int 0, .int 0])), (h1, .inl (k0, 4, .inr (.inr (.inr (.inr (va_up (va_up (va_up (va_up (fun _ => none) 0 (some h2)) 1 (some h4)) 2 (some h6)) 3 (some h8))))))), (h2, .inr (6, [.ref h3, .int 0])), (h3, .inl (k1, 64, .inl (fun _ => 0))), (h4, .inr (6, [.ref h5, .int 0])), (h5, .inl (k2, 64, .inl (fun _ => 0))), (h6, .inr (6, [.ref h7, .int 0])), (h7, .inl (k3, 64, .inl (fun _ => 0))), (h8, .inr (6, [.ref h9, .int 0])), (h9, .inl (k4, 64, .inl (fun _ => 0)))] := hD
  refine lv_aload_n hx hb dX3_copy_8 rfl (lv_at hl 0 rfl) ?_
  refine va_get (D := (dC, dI)) (ci := 7) (v := .ref h1) (C := RX3) (T := TX3) (N := 9) hx hb hts (by decide +kernel) hown hK hP 0 rfl rfl 0 (by decide) (hts (.fieldLink RX3 11 "Rewriterope" "ropes" "[LRewriterope$Text;") (by decide +kernel)) (fun _ h9 => h9) rfl dX3_copy_9 ?_
  refine lv_iload_n hx hb dX3_copy_12 rfl (lv_at hl 1 rfl) ?_
  refine va_aldq (D := (dC, dI)) hx hb hK hP 1 0 rfl rfl (by unfold vp_in; decide) dX3_copy_13 ?_
  refine W.eq (g2 := F0 m 14 ls [.ref h6]) rfl ?_
  refine lv_aload_n hx hb dX3_copy_14 rfl (lv_at hl 0 rfl) ?_
  refine va_get (D := (dC, dI)) (ci := 7) (v := .ref h1) (C := RX3) (T := TX3) (N := 9) hx hb hts (by decide +kernel) hown hK hP 0 rfl rfl 0 (by decide) (hts (.fieldLink RX3 11 "Rewriterope" "ropes" "[LRewriterope$Text;") (by decide +kernel)) (fun _ h9 => h9) rfl dX3_copy_15 ?_
  refine lv_iload_n hx hb dX3_copy_18 rfl (lv_at hl 2 rfl) ?_
  refine va_aldq (D := (dC, dI)) hx hb hK hP 1 0 rfl rfl (by unfold vp_in; decide) dX3_copy_19 ?_
  refine W.eq (g2 := F0 m 20 ls [.ref h6, .ref h6]) rfl ?_
  have hPc := hP.sub (ws' := [(h6, .inr (6, [.ref h7, .int 0])), (h7, .inl (k3, 64, .inl (fun _ => 0)))]) [6, 7] rfl
  have hDc := hD.sub (ws' := [(h6, .inr (6, [.ref h7, .int 0])), (h7, .inl (k3, 64, .inl (fun _ => 0)))]) [6, 7] (by decide) rfl
  have hKc := hK.sub (tys' := [(k3, .byte)]) [3] rfl
  have hFc := va_free (wc := [(h6, .inr (6, [.ref h7, .int 0])), (h7, .inl (k3, 64, .inl (fun _ => 0)))]) hD hS hA [6, 7] rfl
  refine va_callv (va_runV (As := [.ref h6]) (rest := []) ⟨hx, hb, hml, hown, hts⟩ (kx_X2_become_0 l dC dI h6 h7 k3 H.size) (cwV 1 hts gX3_copy_X2_become rfl rfl rfl (by decide +kernel) ⟨Nat.le_of_ble_eq_true rfl, Nat.le_of_ble_eq_true rfl⟩) ⟨fun a U g mk q => by obtain ⟨q0, q1, qP, qK, qD⟩ := q; exact ⟨q0, q1, qP, va_K.moved (u := U) (U := U.calling g mk a) (Vm.Alike.refl U.vm) qK, qD⟩, va_recv hKc hPc (ci := 6) (q0 := 0) rfl rfl, fun U hU hW => ⟨rfl, by rw [hU], by rw [hU]; exact hPc, va_K.moved hW.alike hKc, hDc.weaken (fun _ _ _ _ => trivial)⟩⟩ rfl rfl hl.1 rfl (lv_room (Nat.le_of_ble_eq_true rfl)) dX3_copy_20 ⟨Nat.le_of_ble_eq_true rfl, Nat.le_of_ble_eq_true rfl⟩) hS (fun q _ h => hFc q h) hFc (fun u t H1 locs ht hvm hw hB hz1 hk1 hS => ?_)
  obtain ⟨hP1, hK1, hD1⟩ := hB
  rw [ht] at hP1
  have hK1 := va_K.moved hvm.symm hK1
  obtain ⟨hP, hD⟩ := va_join (wr := [(h0, .inr (7, [.ref h1, .ref z0, .ref z1, .ref z2, .ref z3, .ref z4, .int 0, .int 0, .int 0])), (h1, .inl (k0, 4, .inr (.inr (.inr (.inr (va_up (va_up (va_up (va_up (fun _ => none) 0 (some h2)) 1 (some h4)) 2 (some h6)) 3 (some h8))))))), (h2, .inr (6, [.ref h3, .int 0])), (h3, .inl (k1, 64, .inl (fun _ => 0))), (h4, .inr (6, [.ref h5, .int 0])), (h5, .inl (k2, 64, .inl (fun _ => 0))), (h8, .inr (6, [.ref h9, .int 0])), (h9, .inl (k4, 64, .inl (fun _ => 0)))]) (w1 := [(h6, .inr (6, [.ref h7, .int 0])), (h7, .inl (k3, 64, .inl (fun _ => 0)))]) hP hD [6, 7] [0, 1, 2, 3, 4, 5, 8, 9] rfl rfl (by decide) (by decide) hk1 hFc hP1 hD1
  generalize H1 = H at hP hS ⊢
  have hP : va_P (dC, dI) vwCl [(h0, .inr (7, [.ref h1, .ref z0, .ref z1, .ref z2, .ref z3, .ref z4, .int 0, .int 0, .int 0])), (h1, .inl (k0, 4, .inr (.inr (.inr (.inr (va_up (va_up (va_up (va_up (fun _ => none) 0 (some h2)) 1 (some h4)) 2 (some h6)) 3 (some h8))))))), (h2, .inr (6, [.ref h3, .int 0])), (h3, .inl (k1, 64, .inl (fun _ => 0))), (h4, .inr (6, [.ref h5, .int 0])), (h5, .inl (k2, 64, .inl (fun _ => 0))), (h8, .inr (6, [.ref h9, .int 0])), (h9, .inl (k4, 64, .inl (fun _ => 0))), (h6, .inr (6, [.ref h7, .int 0])), (h7, .inl (k3, 64, .inl (fun _ => 0)))] H := hP
  have hD : va_D A [(h0, .inr (7, [.ref h1, .ref z0, .ref z1, .ref z2, .ref z3, .ref z4, .int 0, .int 0, .int 0])), (h1, .inl (k0, 4, .inr (.inr (.inr (.inr (va_up (va_up (va_up (va_up (fun _ => none) 0 (some h2)) 1 (some h4)) 2 (some h6)) 3 (some h8))))))), (h2, .inr (6, [.ref h3, .int 0])), (h3, .inl (k1, 64, .inl (fun _ => 0))), (h4, .inr (6, [.ref h5, .int 0])), (h5, .inl (k2, 64, .inl (fun _ => 0))), (h8, .inr (6, [.ref h9, .int 0])), (h9, .inl (k4, 64, .inl (fun _ => 0))), (h6, .inr (6, [.ref h7, .int 0])), (h7, .inl (k3, 64, .inl (fun _ => 0)))] := hD
  refine lv_aload_n hx hb dX3_copy_23 rfl (lv_at hl 0 rfl) ?_
  refine va_get (D := (dC, dI)) (ci := 7) (v := .ref h1) (C := RX3) (T := TX3) (N := 9) hx hb hts (by decide +kernel) hown hK hP 0 rfl rfl 0 (by decide) (hts (.fieldLink RX3 11 "Rewriterope" "ropes" "[LRewriterope$Text;") (by decide +kernel)) (fun _ h9 => h9) rfl dX3_copy_24 ?_
  refine lv_iload_n hx hb dX3_copy_27 rfl (lv_at hl 1 rfl) ?_
  refine va_aldq (D := (dC, dI)) hx hb hK hP 1 0 rfl rfl (by unfold vp_in; decide) dX3_copy_28 ?_
  refine W.eq (g2 := F0 m 29 ls [.ref h6]) rfl ?_
  refine va_get (D := (dC, dI)) (ci := 6) (v := .int 0) (C := RX2) (T := TX2) (N := 2) hx hb hts (by decide +kernel) hown hK hP 8 rfl rfl 1 (by decide) (hts (.fieldLink RX3 65 "Rewriterope$Text" "length" "I") (by decide +kernel)) (fun _ h9 => h9) rfl dX3_copy_29 ?_
  have hP := hP.sub (ws' := [(h0, .inr (7, [.ref h1, .ref z0, .ref z1, .ref z2, .ref z3, .ref z4, .int 0, .int 0, .int 0])), (h1, .inl (k0, 4, .inr (.inr (.inr (.inr (va_up (va_up (va_up (va_up (fun _ => none) 0 (some h2)) 1 (some h4)) 2 (some h6)) 3 (some h8))))))), (h2, .inr (6, [.ref h3, .int 0])), (h3, .inl (k1, 64, .inl (fun _ => 0))), (h4, .inr (6, [.ref h5, .int 0])), (h5, .inl (k2, 64, .inl (fun _ => 0))), (h6, .inr (6, [.ref h7, .int 0])), (h7, .inl (k3, 64, .inl (fun _ => 0))), (h8, .inr (6, [.ref h9, .int 0])), (h9, .inl (k4, 64, .inl (fun _ => 0)))]) [0, 1, 2, 3, 4, 5, 8, 9, 6, 7] rfl
  have hD := hD.sub (ws' := [(h0, .inr (7, [.ref h1, .ref z0, .ref z1, .ref z2, .ref z3, .ref z4, .int 0, .int 0, .int 0])), (h1, .inl (k0, 4, .inr (.inr (.inr (.inr (va_up (va_up (va_up (va_up (fun _ => none) 0 (some h2)) 1 (some h4)) 2 (some h6)) 3 (some h8))))))), (h2, .inr (6, [.ref h3, .int 0])), (h3, .inl (k1, 64, .inl (fun _ => 0))), (h4, .inr (6, [.ref h5, .int 0])), (h5, .inl (k2, 64, .inl (fun _ => 0))), (h6, .inr (6, [.ref h7, .int 0])), (h7, .inl (k3, 64, .inl (fun _ => 0))), (h8, .inr (6, [.ref h9, .int 0])), (h9, .inl (k4, 64, .inl (fun _ => 0)))]) [0, 1, 2, 3, 4, 5, 8, 9, 6, 7] (by decide) rfl
  exact W.iret (v := 0) hx hb hr (fun t ht hW => ⟨⟨0, (), rfl, rfl, by rw [ht]; exact hP, va_K.moved hW.alike hK, hD⟩, hS.F ht⟩) hS.2.2 dX3_copy_32
set_option maxHeartbeats 4000000 in
set_option maxRecDepth 100000 in
theorem kx_X3_copy_11 (l : Launch) (dC : Nat → ClassId) (dI : Nat → Nat → Nat) (h0 : Nat) (h1 : Nat) (h2 : Nat) (h3 : Nat) (h4 : Nat) (h5 : Nat) (h6 : Nat) (h7 : Nat) (h8 : Nat) (h9 : Nat) (z0 : Nat) (z1 : Nat) (z2 : Nat) (z3 : Nat) (z4 : Nat) (k0 : ClassId) (k1 : ClassId) (k2 : ClassId) (k3 : ClassId) (k4 : ClassId) (sz : Nat) : Met l yX3_copy wsX3_copy ({ frames := 2, cells := 0, slots := 0, locals := 81 }) (va_Pc [.ref h0, .int 2, .int 3] (fun U => U.heap.size = sz ∧ va_P (dC, dI) vwCl [(h0, .inr (7, [.ref h1, .ref z0, .ref z1, .ref z2, .ref z3, .ref z4, .int 0, .int 0, .int 0])), (h1, .inl (k0, 4, .inr (.inr (.inr (.inr (va_up (va_up (va_up (va_up (fun _ => none) 0 (some h2)) 1 (some h4)) 2 (some h6)) 3 (some h8))))))), (h2, .inr (6, [.ref h3, .int 0])), (h3, .inl (k1, 64, .inl (fun _ => 0))), (h4, .inr (6, [.ref h5, .int 0])), (h5, .inl (k2, 64, .inl (fun _ => 0))), (h6, .inr (6, [.ref h7, .int 0])), (h7, .inl (k3, 64, .inl (fun _ => 0))), (h8, .inr (6, [.ref h9, .int 0])), (h9, .inl (k4, 64, .inl (fun _ => 0)))] U.heap ∧ va_K (dC, dI) vwCl [(k0, .object "Rewriterope$Text"), (k1, .byte), (k2, .byte), (k3, .byte), (k4, .byte)] U ∧ va_D (fun _ => True) [(h0, .inr (7, [.ref h1, .ref z0, .ref z1, .ref z2, .ref z3, .ref z4, .int 0, .int 0, .int 0])), (h1, .inl (k0, 4, .inr (.inr (.inr (.inr (va_up (va_up (va_up (va_up (fun _ => none) 0 (some h2)) 1 (some h4)) 2 (some h6)) 3 (some h8))))))), (h2, .inr (6, [.ref h3, .int 0])), (h3, .inl (k1, 64, .inl (fun _ => 0))), (h4, .inr (6, [.ref h5, .int 0])), (h5, .inl (k2, 64, .inl (fun _ => 0))), (h6, .inr (6, [.ref h7, .int 0])), (h7, .inl (k3, 64, .inl (fun _ => 0))), (h8, .inr (6, [.ref h9, .int 0])), (h9, .inl (k4, 64, .inl (fun _ => 0)))])) (va_Qi (fun (r : Int32) (_ : Unit) => r = 0) (fun (_ : Unit) (t : State) => va_P (dC, dI) vwCl [(h0, .inr (7, [.ref h1, .ref z0, .ref z1, .ref z2, .ref z3, .ref z4, .int 0, .int 0, .int 0])), (h1, .inl (k0, 4, .inr (.inr (.inr (.inr (va_up (va_up (va_up (va_up (fun _ => none) 0 (some h2)) 1 (some h4)) 2 (some h6)) 3 (some h8))))))), (h2, .inr (6, [.ref h3, .int 0])), (h3, .inl (k1, 64, .inl (fun _ => 0))), (h4, .inr (6, [.ref h5, .int 0])), (h5, .inl (k2, 64, .inl (fun _ => 0))), (h6, .inr (6, [.ref h7, .int 0])), (h7, .inl (k3, 64, .inl (fun _ => 0))), (h8, .inr (6, [.ref h9, .int 0])), (h9, .inl (k4, 64, .inl (fun _ => 0)))] t.heap ∧ va_K (dC, dI) vwCl [(k0, .object "Rewriterope$Text"), (k1, .byte), (k2, .byte), (k3, .byte), (k4, .byte)] t ∧ va_D (va_A [(h0, .inr (7, [.ref h1, .ref z0, .ref z1, .ref z2, .ref z3, .ref z4, .int 0, .int 0, .int 0])), (h1, .inl (k0, 4, .inr (.inr (.inr (.inr (va_up (va_up (va_up (va_up (fun _ => none) 0 (some h2)) 1 (some h4)) 2 (some h6)) 3 (some h8))))))), (h2, .inr (6, [.ref h3, .int 0])), (h3, .inl (k1, 64, .inl (fun _ => 0))), (h4, .inr (6, [.ref h5, .int 0])), (h5, .inl (k2, 64, .inl (fun _ => 0))), (h6, .inr (6, [.ref h7, .int 0])), (h7, .inl (k3, 64, .inl (fun _ => 0))), (h8, .inr (6, [.ref h9, .int 0])), (h9, .inl (k4, 64, .inl (fun _ => 0)))] sz) [(h0, .inr (7, [.ref h1, .ref z0, .ref z1, .ref z2, .ref z3, .ref z4, .int 0, .int 0, .int 0])), (h1, .inl (k0, 4, .inr (.inr (.inr (.inr (va_up (va_up (va_up (va_up (fun _ => none) 0 (some h2)) 1 (some h4)) 2 (some h6)) 3 (some h8))))))), (h2, .inr (6, [.ref h3, .int 0])), (h3, .inl (k1, 64, .inl (fun _ => 0))), (h4, .inr (6, [.ref h5, .int 0])), (h5, .inl (k2, 64, .inl (fun _ => 0))), (h6, .inr (6, [.ref h7, .int 0])), (h7, .inl (k3, 64, .inl (fun _ => 0))), (h8, .inr (6, [.ref h9, .int 0])), (h9, .inl (k4, 64, .inl (fun _ => 0)))]) (va_A [(h0, .inr (7, [.ref h1, .ref z0, .ref z1, .ref z2, .ref z3, .ref z4, .int 0, .int 0, .int 0])), (h1, .inl (k0, 4, .inr (.inr (.inr (.inr (va_up (va_up (va_up (va_up (fun _ => none) 0 (some h2)) 1 (some h4)) 2 (some h6)) 3 (some h8))))))), (h2, .inr (6, [.ref h3, .int 0])), (h3, .inl (k1, 64, .inl (fun _ => 0))), (h4, .inr (6, [.ref h5, .int 0])), (h5, .inl (k2, 64, .inl (fun _ => 0))), (h6, .inr (6, [.ref h7, .int 0])), (h7, .inl (k3, 64, .inl (fun _ => 0))), (h8, .inr (6, [.ref h9, .int 0])), (h9, .inl (k4, 64, .inl (fun _ => 0)))] sz)) 0 0 (va_A [(h0, .inr (7, [.ref h1, .ref z0, .ref z1, .ref z2, .ref z3, .ref z4, .int 0, .int 0, .int 0])), (h1, .inl (k0, 4, .inr (.inr (.inr (.inr (va_up (va_up (va_up (va_up (fun _ => none) 0 (some h2)) 1 (some h4)) 2 (some h6)) 3 (some h8))))))), (h2, .inr (6, [.ref h3, .int 0])), (h3, .inl (k1, 64, .inl (fun _ => 0))), (h4, .inr (6, [.ref h5, .int 0])), (h5, .inl (k2, 64, .inl (fun _ => 0))), (h6, .inr (6, [.ref h7, .int 0])), (h7, .inl (k3, 64, .inl (fun _ => 0))), (h8, .inr (6, [.ref h9, .int 0])), (h9, .inl (k4, 64, .inl (fun _ => 0)))] sz) := by
  refine Met.ofW (cc := cX3_copy) (maxL := 3) (ret := (some .int)) (by decide) rfl ?_
  intro p e s m args below meth c s₁ B hml hv
  obtain ⟨rfl, hsz, hP, hK, hD0⟩ := hv
  have hx := B.exec
  have hb := B.bytes
  have hr := B.returns
  have hts := atoms_spec (ws := wsX3_copy) B.pre
  have hown : s.vm.findClass RX3 = some m.cls := findClass_of_methodNamed B.named
  have hlocks := B.notSynchronized
  subst hsz
  have hD := hD0.self (sz := s.heap.size)
  generalize hAe : va_A [(h0, .inr (7, [.ref h1, .ref z0, .ref z1, .ref z2, .ref z3, .ref z4, .int 0, .int 0, .int 0])), (h1, .inl (k0, 4, .inr (.inr (.inr (.inr (va_up (va_up (va_up (va_up (fun _ => none) 0 (some h2)) 1 (some h4)) 2 (some h6)) 3 (some h8))))))), (h2, .inr (6, [.ref h3, .int 0])), (h3, .inl (k1, 64, .inl (fun _ => 0))), (h4, .inr (6, [.ref h5, .int 0])), (h5, .inl (k2, 64, .inl (fun _ => 0))), (h6, .inr (6, [.ref h7, .int 0])), (h7, .inl (k3, 64, .inl (fun _ => 0))), (h8, .inr (6, [.ref h9, .int 0])), (h9, .inl (k4, 64, .inl (fun _ => 0)))] s.heap.size = A at hD ⊢
  have hA : ∀ q : Nat, s.heap.size ≤ q → A q := fun q h => by rw [← hAe]; exact Or.inr h
  have hS : va_S A s.heap s.heap [] := va_S.rf
  have hP : va_P (dC, dI) vwCl [(h0, .inr (7, [.ref h1, .ref z0, .ref z1, .ref z2, .ref z3, .ref z4, .int 0, .int 0, .int 0])), (h1, .inl (k0, 4, .inr (.inr (.inr (.inr (va_up (va_up (va_up (va_up (fun _ => none) 0 (some h2)) 1 (some h4)) 2 (some h6)) 3 (some h8))))))), (h2, .inr (6, [.ref h3, .int 0])), (h3, .inl (k1, 64, .inl (fun _ => 0))), (h4, .inr (6, [.ref h5, .int 0])), (h5, .inl (k2, 64, .inl (fun _ => 0))), (h6, .inr (6, [.ref h7, .int 0])), (h7, .inl (k3, 64, .inl (fun _ => 0))), (h8, .inr (6, [.ref h9, .int 0])), (h9, .inl (k4, 64, .inl (fun _ => 0)))] s.heap := hP
  have hl := lv_entry ([.ref h0, .int 2, .int 3]) (n := 3) (Nat.le_of_ble_eq_true rfl)
  rw [lg_entry_eq]
  generalize (lg_sl ([.ref h0, .int 2, .int 3]) ++ List.replicate (3 - (lg_sl ([.ref h0, .int 2, .int 3])).length) Slot.unset).toArray = ls at hl ⊢
  have hl : lv_has ls 3 [(0, .ref h0), (1, .int 2), (2, .int 3)] := hl
  refine lv_iload_n hx hb dX3_copy_0 rfl (lv_at hl 1 rfl) ?_
  have hPc := hP.sub (ws' := []) [] rfl
  have hDc := hD.sub (ws' := []) [] (by decide) rfl
  have hKc := hK.sub (tys' := []) [] rfl
  have hFc := va_free (wc := []) hD hS hA [] rfl
  refine va_callv (va_runS (As := [.int 2]) (rest := []) ⟨hx, hb, hml, hown, hts⟩ (kx_X3_needRope_2 l dC dI s.heap.size) (cwS 1 hts gX3_copy_X3_needRope rfl rfl rfl (by decide +kernel) ⟨Nat.le_of_ble_eq_true rfl, Nat.le_of_ble_eq_true rfl⟩) ⟨fun a U g mk q => by obtain ⟨q0, q1, qP, qK, qD⟩ := q; exact ⟨q0, q1, qP, va_K.moved (u := U) (U := U.calling g mk a) (Vm.Alike.refl U.vm) qK, qD⟩, fun U hU hW => ⟨rfl, by rw [hU], by rw [hU]; exact hPc, va_K.moved hW.alike hKc, hDc.weaken (fun _ _ _ _ => trivial)⟩⟩ rfl rfl hl.1 rfl (lv_room (Nat.le_of_ble_eq_true rfl)) dX3_copy_1 ⟨Nat.le_of_ble_eq_true rfl, Nat.le_of_ble_eq_true rfl⟩) hS (fun q _ h => hFc q h) hFc (fun u t H1 locs ht hvm hw hB hz1 hk1 hS => ?_)
  obtain ⟨hP1, hK1, hD1⟩ := hB
  rw [ht] at hP1
  have hK1 := va_K.moved hvm.symm hK1
  obtain ⟨hP, hD⟩ := va_join (wr := [(h0, .inr (7, [.ref h1, .ref z0, .ref z1, .ref z2, .ref z3, .ref z4, .int 0, .int 0, .int 0])), (h1, .inl (k0, 4, .inr (.inr (.inr (.inr (va_up (va_up (va_up (va_up (fun _ => none) 0 (some h2)) 1 (some h4)) 2 (some h6)) 3 (some h8))))))), (h2, .inr (6, [.ref h3, .int 0])), (h3, .inl (k1, 64, .inl (fun _ => 0))), (h4, .inr (6, [.ref h5, .int 0])), (h5, .inl (k2, 64, .inl (fun _ => 0))), (h6, .inr (6, [.ref h7, .int 0])), (h7, .inl (k3, 64, .inl (fun _ => 0))), (h8, .inr (6, [.ref h9, .int 0])), (h9, .inl (k4, 64, .inl (fun _ => 0)))]) (w1 := []) hP hD [] [0, 1, 2, 3, 4, 5, 6, 7, 8, 9] rfl rfl (by decide) (by decide) hk1 hFc hP1 hD1
  generalize H1 = H at hP hS ⊢
  have hP : va_P (dC, dI) vwCl [(h0, .inr (7, [.ref h1, .ref z0, .ref z1, .ref z2, .ref z3, .ref z4, .int 0, .int 0, .int 0])), (h1, .inl (k0, 4, .inr (.inr (.inr (.inr (va_up (va_up (va_up (va_up (fun _ => none) 0 (some h2)) 1 (some h4)) 2 (some h6)) 3 (some h8))))))), (h2, .inr (6, [.ref h3, .int 0])), (h3, .inl (k1, 64, .inl (fun _ => 0))), (h4, .inr (6, [.ref h5, .int 0])), (h5, .inl (k2, 64, .inl (fun _ => 0))), (h6, .inr (6, [.ref h7, .int 0])), (h7, .inl (k3, 64, .inl (fun _ => 0))), (h8, .inr (6, [.ref h9, .int 0])), (h9, .inl (k4, 64, .inl (fun _ => 0)))] H := hP
  have hD : va_D A [(h0, .inr (7, [.ref h1, .ref z0, .ref z1, .ref z2, .ref z3, .ref z4, .int 0, .int 0, .int 0])), (h1, .inl (k0, 4, .inr (.inr (.inr (.inr (va_up (va_up (va_up (va_up (fun _ => none) 0 (some h2)) 1 (some h4)) 2 (some h6)) 3 (some h8))))))), (h2, .inr (6, [.ref h3, .int 0])), (h3, .inl (k1, 64, .inl (fun _ => 0))), (h4, .inr (6, [.ref h5, .int 0])), (h5, .inl (k2, 64, .inl (fun _ => 0))), (h6, .inr (6, [.ref h7, .int 0])), (h7, .inl (k3, 64, .inl (fun _ => 0))), (h8, .inr (6, [.ref h9, .int 0])), (h9, .inl (k4, 64, .inl (fun _ => 0)))] := hD
  refine lv_iload_n hx hb dX3_copy_4 rfl (lv_at hl 2 rfl) ?_
  have hPc := hP.sub (ws' := []) [] rfl
  have hDc := hD.sub (ws' := []) [] (by decide) rfl
  have hKc := hK.sub (tys' := []) [] rfl
  have hFc := va_free (wc := []) hD hS hA [] rfl
  refine va_callv (va_runS (As := [.int 3]) (rest := []) ⟨hx, hb, hml, hown, hts⟩ (kx_X3_needRope_3 l dC dI H.size) (cwS 1 hts gX3_copy_X3_needRope rfl rfl rfl (by decide +kernel) ⟨Nat.le_of_ble_eq_true rfl, Nat.le_of_ble_eq_true rfl⟩) ⟨fun a U g mk q => by obtain ⟨q0, q1, qP, qK, qD⟩ := q; exact ⟨q0, q1, qP, va_K.moved (u := U) (U := U.calling g mk a) (Vm.Alike.refl U.vm) qK, qD⟩, fun U hU hW => ⟨rfl, by rw [hU], by rw [hU]; exact hPc, va_K.moved hW.alike hKc, hDc.weaken (fun _ _ _ _ => trivial)⟩⟩ rfl rfl hl.1 rfl (lv_room (Nat.le_of_ble_eq_true rfl)) dX3_copy_5 ⟨Nat.le_of_ble_eq_true rfl, Nat.le_of_ble_eq_true rfl⟩) hS (fun q _ h => hFc q h) hFc (fun u t H1 locs ht hvm hw hB hz1 hk1 hS => ?_)
  obtain ⟨hP1, hK1, hD1⟩ := hB
  rw [ht] at hP1
  have hK1 := va_K.moved hvm.symm hK1
  obtain ⟨hP, hD⟩ := va_join (wr := [(h0, .inr (7, [.ref h1, .ref z0, .ref z1, .ref z2, .ref z3, .ref z4, .int 0, .int 0, .int 0])), (h1, .inl (k0, 4, .inr (.inr (.inr (.inr (va_up (va_up (va_up (va_up (fun _ => none) 0 (some h2)) 1 (some h4)) 2 (some h6)) 3 (some h8))))))), (h2, .inr (6, [.ref h3, .int 0])), (h3, .inl (k1, 64, .inl (fun _ => 0))), (h4, .inr (6, [.ref h5, .int 0])), (h5, .inl (k2, 64, .inl (fun _ => 0))), (h6, .inr (6, [.ref h7, .int 0])), (h7, .inl (k3, 64, .inl (fun _ => 0))), (h8, .inr (6, [.ref h9, .int 0])), (h9, .inl (k4, 64, .inl (fun _ => 0)))]) (w1 := []) hP hD [] [0, 1, 2, 3, 4, 5, 6, 7, 8, 9] rfl rfl (by decide) (by decide) hk1 hFc hP1 hD1
  generalize H1 = H at hP hS ⊢
  have hP : va_P (dC, dI) vwCl [(h0, .inr (7, [.ref h1, .ref z0, .ref z1, .ref z2, .ref z3, .ref z4, .int 0, .int 0, .int 0])), (h1, .inl (k0, 4, .inr (.inr (.inr (.inr (va_up (va_up (va_up (va_up (fun _ => none) 0 (some h2)) 1 (some h4)) 2 (some h6)) 3 (some h8))))))), (h2, .inr (6, [.ref h3, .int 0])), (h3, .inl (k1, 64, .inl (fun _ => 0))), (h4, .inr (6, [.ref h5, .int 0])), (h5, .inl (k2, 64, .inl (fun _ => 0))), (h6, .inr (6, [.ref h7, .int 0])), (h7, .inl (k3, 64, .inl (fun _ => 0))), (h8, .inr (6, [.ref h9, .int 0])), (h9, .inl (k4, 64, .inl (fun _ => 0)))] H := hP
  have hD : va_D A [(h0, .inr (7, [.ref h1, .ref z0, .ref z1, .ref z2, .ref z3, .ref z4, .int 0, .int 0, .int 0])), (h1, .inl (k0, 4, .inr (.inr (.inr (.inr (va_up (va_up (va_up (va_up (fun _ => none) 0 (some h2)) 1 (some h4)) 2 (some h6)) 3 (some h8))))))), (h2, .inr (6, [.ref h3, .int 0])), (h3, .inl (k1, 64, .inl (fun _ => 0))), (h4, .inr (6, [.ref h5, .int 0])), (h5, .inl (k2, 64, .inl (fun _ => 0))), (h6, .inr (6, [.ref h7, .int 0])), (h7, .inl (k3, 64, .inl (fun _ => 0))), (h8, .inr (6, [.ref h9, .int 0])), (h9, .inl (k4, 64, .inl (fun _ => 0)))] := hD
  refine lv_aload_n hx hb dX3_copy_8 rfl (lv_at hl 0 rfl) ?_
  refine va_get (D := (dC, dI)) (ci := 7) (v := .ref h1) (C := RX3) (T := TX3) (N := 9) hx hb hts (by decide +kernel) hown hK hP 0 rfl rfl 0 (by decide) (hts (.fieldLink RX3 11 "Rewriterope" "ropes" "[LRewriterope$Text;") (by decide +kernel)) (fun _ h9 => h9) rfl dX3_copy_9 ?_
  refine lv_iload_n hx hb dX3_copy_12 rfl (lv_at hl 1 rfl) ?_
  refine va_aldq (D := (dC, dI)) hx hb hK hP 1 0 rfl rfl (by unfold vp_in; decide) dX3_copy_13 ?_
  refine W.eq (g2 := F0 m 14 ls [.ref h6]) rfl ?_
  refine lv_aload_n hx hb dX3_copy_14 rfl (lv_at hl 0 rfl) ?_
  refine va_get (D := (dC, dI)) (ci := 7) (v := .ref h1) (C := RX3) (T := TX3) (N := 9) hx hb hts (by decide +kernel) hown hK hP 0 rfl rfl 0 (by decide) (hts (.fieldLink RX3 11 "Rewriterope" "ropes" "[LRewriterope$Text;") (by decide +kernel)) (fun _ h9 => h9) rfl dX3_copy_15 ?_
  refine lv_iload_n hx hb dX3_copy_18 rfl (lv_at hl 2 rfl) ?_
  refine va_aldq (D := (dC, dI)) hx hb hK hP 1 0 rfl rfl (by unfold vp_in; decide) dX3_copy_19 ?_
  refine W.eq (g2 := F0 m 20 ls [.ref h8, .ref h6]) rfl ?_
  have hPc := hP.sub (ws' := [(h6, .inr (6, [.ref h7, .int 0])), (h7, .inl (k3, 64, .inl (fun _ => 0))), (h8, .inr (6, [.ref h9, .int 0])), (h9, .inl (k4, 64, .inl (fun _ => 0)))]) [6, 7, 8, 9] rfl
  have hDc := hD.sub (ws' := [(h6, .inr (6, [.ref h7, .int 0])), (h7, .inl (k3, 64, .inl (fun _ => 0))), (h8, .inr (6, [.ref h9, .int 0])), (h9, .inl (k4, 64, .inl (fun _ => 0)))]) [6, 7, 8, 9] (by decide) rfl
  have hKc := hK.sub (tys' := [(k3, .byte), (k4, .byte)]) [3, 4] rfl
  have hFc := va_free (wc := [(h6, .inr (6, [.ref h7, .int 0])), (h7, .inl (k3, 64, .inl (fun _ => 0))), (h8, .inr (6, [.ref h9, .int 0])), (h9, .inl (k4, 64, .inl (fun _ => 0)))]) hD hS hA [6, 7, 8, 9] rfl
  refine va_callv (va_runV (As := [.ref h8]) (rest := []) ⟨hx, hb, hml, hown, hts⟩ (kx_X2_become_1 l dC dI h6 h7 h8 h9 k3 k4 H.size) (cwV 1 hts gX3_copy_X2_become rfl rfl rfl (by decide +kernel) ⟨Nat.le_of_ble_eq_true rfl, Nat.le_of_ble_eq_true rfl⟩) ⟨fun a U g mk q => by obtain ⟨q0, q1, qP, qK, qD⟩ := q; exact ⟨q0, q1, qP, va_K.moved (u := U) (U := U.calling g mk a) (Vm.Alike.refl U.vm) qK, qD⟩, va_recv hKc hPc (ci := 6) (q0 := 0) rfl rfl, fun U hU hW => ⟨rfl, by rw [hU], by rw [hU]; exact hPc, va_K.moved hW.alike hKc, hDc.weaken (fun _ _ _ _ => trivial)⟩⟩ rfl rfl hl.1 rfl (lv_room (Nat.le_of_ble_eq_true rfl)) dX3_copy_20 ⟨Nat.le_of_ble_eq_true rfl, Nat.le_of_ble_eq_true rfl⟩) hS (fun q _ h => hFc q h) hFc (fun u t H1 locs ht hvm hw hB hz1 hk1 hS => ?_)
  obtain ⟨hP1, hK1, hD1⟩ := hB
  rw [ht] at hP1
  have hK1 := va_K.moved hvm.symm hK1
  obtain ⟨hP, hD⟩ := va_join (wr := [(h0, .inr (7, [.ref h1, .ref z0, .ref z1, .ref z2, .ref z3, .ref z4, .int 0, .int 0, .int 0])), (h1, .inl (k0, 4, .inr (.inr (.inr (.inr (va_up (va_up (va_up (va_up (fun _ => none) 0 (some h2)) 1 (some h4)) 2 (some h6)) 3 (some h8))))))), (h2, .inr (6, [.ref h3, .int 0])), (h3, .inl (k1, 64, .inl (fun _ => 0))), (h4, .inr (6, [.ref h5, .int 0])), (h5, .inl (k2, 64, .inl (fun _ => 0)))]) (w1 := [(h6, .inr (6, [.ref h7, .int 0])), (h7, .inl (k3, 64, .inl (fun _ => 0))), (h8, .inr (6, [.ref h9, .int 0])), (h9, .inl (k4, 64, .inl (fun _ => 0)))]) hP hD [6, 7, 8, 9] [0, 1, 2, 3, 4, 5] rfl rfl (by decide) (by decide) hk1 hFc hP1 hD1
  generalize H1 = H at hP hS ⊢
  have hP : va_P (dC, dI) vwCl [(h0, .inr (7, [.ref h1, .ref z0, .ref z1, .ref z2, .ref z3, .ref z4, .int 0, .int 0, .int 0])), (h1, .inl (k0, 4, .inr (.inr (.inr (.inr (va_up (va_up (va_up (va_up (fun _ => none) 0 (some h2)) 1 (some h4)) 2 (some h6)) 3 (some h8))))))), (h2, .inr (6, [.ref h3, .int 0])), (h3, .inl (k1, 64, .inl (fun _ => 0))), (h4, .inr (6, [.ref h5, .int 0])), (h5, .inl (k2, 64, .inl (fun _ => 0))), (h6, .inr (6, [.ref h7, .int 0])), (h7, .inl (k3, 64, .inl (fun _ => 0))), (h8, .inr (6, [.ref h9, .int 0])), (h9, .inl (k4, 64, .inl (fun _ => 0)))] H := hP
  have hD : va_D A [(h0, .inr (7, [.ref h1, .ref z0, .ref z1, .ref z2, .ref z3, .ref z4, .int 0, .int 0, .int 0])), (h1, .inl (k0, 4, .inr (.inr (.inr (.inr (va_up (va_up (va_up (va_up (fun _ => none) 0 (some h2)) 1 (some h4)) 2 (some h6)) 3 (some h8))))))), (h2, .inr (6, [.ref h3, .int 0])), (h3, .inl (k1, 64, .inl (fun _ => 0))), (h4, .inr (6, [.ref h5, .int 0])), (h5, .inl (k2, 64, .inl (fun _ => 0))), (h6, .inr (6, [.ref h7, .int 0])), (h7, .inl (k3, 64, .inl (fun _ => 0))), (h8, .inr (6, [.ref h9, .int 0])), (h9, .inl (k4, 64, .inl (fun _ => 0)))] := hD
  refine lv_aload_n hx hb dX3_copy_23 rfl (lv_at hl 0 rfl) ?_
  refine va_get (D := (dC, dI)) (ci := 7) (v := .ref h1) (C := RX3) (T := TX3) (N := 9) hx hb hts (by decide +kernel) hown hK hP 0 rfl rfl 0 (by decide) (hts (.fieldLink RX3 11 "Rewriterope" "ropes" "[LRewriterope$Text;") (by decide +kernel)) (fun _ h9 => h9) rfl dX3_copy_24 ?_
  refine lv_iload_n hx hb dX3_copy_27 rfl (lv_at hl 1 rfl) ?_
  refine va_aldq (D := (dC, dI)) hx hb hK hP 1 0 rfl rfl (by unfold vp_in; decide) dX3_copy_28 ?_
  refine W.eq (g2 := F0 m 29 ls [.ref h6]) rfl ?_
  refine va_get (D := (dC, dI)) (ci := 6) (v := .int 0) (C := RX2) (T := TX2) (N := 2) hx hb hts (by decide +kernel) hown hK hP 6 rfl rfl 1 (by decide) (hts (.fieldLink RX3 65 "Rewriterope$Text" "length" "I") (by decide +kernel)) (fun _ h9 => h9) rfl dX3_copy_29 ?_
  exact W.iret (v := 0) hx hb hr (fun t ht hW => ⟨⟨0, (), rfl, rfl, by rw [ht]; exact hP, va_K.moved hW.alike hK, hD⟩, hS.F ht⟩) hS.2.2 dX3_copy_32
set_option maxHeartbeats 4000000 in
set_option maxRecDepth 100000 in
theorem kx_X3_copy_s2 (l : Launch) (dC : Nat → ClassId) (dI : Nat → Nat → Nat) (h0 : Nat) (h1 : Nat) (h2 : Nat) (h3 : Nat) (h4 : Nat) (h5 : Nat) (h6 : Nat) (h7 : Nat) (h8 : Nat) (h9 : Nat) (z0 : Nat) (z1 : Nat) (z2 : Nat) (z3 : Nat) (z4 : Nat) (k0 : ClassId) (k1 : ClassId) (k2 : ClassId) (k3 : ClassId) (k4 : ClassId) (sz : Nat) (j0 : Int32) (j0_l : (0 : Int) ≤ j0.toInt) (j0_u : j0.toInt ≤ (3 : Int)) : Met l yX3_copy wsX3_copy ({ frames := 2, cells := 0, slots := 0, locals := 81 }) (va_Pc [.ref h0, .int 2, .int j0] (fun U => U.heap.size = sz ∧ va_P (dC, dI) vwCl [(h0, .inr (7, [.ref h1, .ref z0, .ref z1, .ref z2, .ref z3, .ref z4, .int 0, .int 0, .int 0])), (h1, .inl (k0, 4, .inr (.inr (.inr (.inr (va_up (va_up (va_up (va_up (fun _ => none) 0 (some h2)) 1 (some h4)) 2 (some h6)) 3 (some h8))))))), (h2, .inr (6, [.ref h3, .int 0])), (h3, .inl (k1, 64, .inl (fun _ => 0))), (h4, .inr (6, [.ref h5, .int 0])), (h5, .inl (k2, 64, .inl (fun _ => 0))), (h6, .inr (6, [.ref h7, .int 0])), (h7, .inl (k3, 64, .inl (fun _ => 0))), (h8, .inr (6, [.ref h9, .int 0])), (h9, .inl (k4, 64, .inl (fun _ => 0)))] U.heap ∧ va_K (dC, dI) vwCl [(k0, .object "Rewriterope$Text"), (k1, .byte), (k2, .byte), (k3, .byte), (k4, .byte)] U ∧ va_D (fun _ => True) [(h0, .inr (7, [.ref h1, .ref z0, .ref z1, .ref z2, .ref z3, .ref z4, .int 0, .int 0, .int 0])), (h1, .inl (k0, 4, .inr (.inr (.inr (.inr (va_up (va_up (va_up (va_up (fun _ => none) 0 (some h2)) 1 (some h4)) 2 (some h6)) 3 (some h8))))))), (h2, .inr (6, [.ref h3, .int 0])), (h3, .inl (k1, 64, .inl (fun _ => 0))), (h4, .inr (6, [.ref h5, .int 0])), (h5, .inl (k2, 64, .inl (fun _ => 0))), (h6, .inr (6, [.ref h7, .int 0])), (h7, .inl (k3, 64, .inl (fun _ => 0))), (h8, .inr (6, [.ref h9, .int 0])), (h9, .inl (k4, 64, .inl (fun _ => 0)))])) (va_Qi (fun (r : Int32) (_ : Unit) => r = 0) (fun (_ : Unit) (t : State) => va_P (dC, dI) vwCl [(h0, .inr (7, [.ref h1, .ref z0, .ref z1, .ref z2, .ref z3, .ref z4, .int 0, .int 0, .int 0])), (h1, .inl (k0, 4, .inr (.inr (.inr (.inr (va_up (va_up (va_up (va_up (fun _ => none) 0 (some h2)) 1 (some h4)) 2 (some h6)) 3 (some h8))))))), (h2, .inr (6, [.ref h3, .int 0])), (h3, .inl (k1, 64, .inl (fun _ => 0))), (h4, .inr (6, [.ref h5, .int 0])), (h5, .inl (k2, 64, .inl (fun _ => 0))), (h6, .inr (6, [.ref h7, .int 0])), (h7, .inl (k3, 64, .inl (fun _ => 0))), (h8, .inr (6, [.ref h9, .int 0])), (h9, .inl (k4, 64, .inl (fun _ => 0)))] t.heap ∧ va_K (dC, dI) vwCl [(k0, .object "Rewriterope$Text"), (k1, .byte), (k2, .byte), (k3, .byte), (k4, .byte)] t ∧ va_D (va_A [(h0, .inr (7, [.ref h1, .ref z0, .ref z1, .ref z2, .ref z3, .ref z4, .int 0, .int 0, .int 0])), (h1, .inl (k0, 4, .inr (.inr (.inr (.inr (va_up (va_up (va_up (va_up (fun _ => none) 0 (some h2)) 1 (some h4)) 2 (some h6)) 3 (some h8))))))), (h2, .inr (6, [.ref h3, .int 0])), (h3, .inl (k1, 64, .inl (fun _ => 0))), (h4, .inr (6, [.ref h5, .int 0])), (h5, .inl (k2, 64, .inl (fun _ => 0))), (h6, .inr (6, [.ref h7, .int 0])), (h7, .inl (k3, 64, .inl (fun _ => 0))), (h8, .inr (6, [.ref h9, .int 0])), (h9, .inl (k4, 64, .inl (fun _ => 0)))] sz) [(h0, .inr (7, [.ref h1, .ref z0, .ref z1, .ref z2, .ref z3, .ref z4, .int 0, .int 0, .int 0])), (h1, .inl (k0, 4, .inr (.inr (.inr (.inr (va_up (va_up (va_up (va_up (fun _ => none) 0 (some h2)) 1 (some h4)) 2 (some h6)) 3 (some h8))))))), (h2, .inr (6, [.ref h3, .int 0])), (h3, .inl (k1, 64, .inl (fun _ => 0))), (h4, .inr (6, [.ref h5, .int 0])), (h5, .inl (k2, 64, .inl (fun _ => 0))), (h6, .inr (6, [.ref h7, .int 0])), (h7, .inl (k3, 64, .inl (fun _ => 0))), (h8, .inr (6, [.ref h9, .int 0])), (h9, .inl (k4, 64, .inl (fun _ => 0)))]) (va_A [(h0, .inr (7, [.ref h1, .ref z0, .ref z1, .ref z2, .ref z3, .ref z4, .int 0, .int 0, .int 0])), (h1, .inl (k0, 4, .inr (.inr (.inr (.inr (va_up (va_up (va_up (va_up (fun _ => none) 0 (some h2)) 1 (some h4)) 2 (some h6)) 3 (some h8))))))), (h2, .inr (6, [.ref h3, .int 0])), (h3, .inl (k1, 64, .inl (fun _ => 0))), (h4, .inr (6, [.ref h5, .int 0])), (h5, .inl (k2, 64, .inl (fun _ => 0))), (h6, .inr (6, [.ref h7, .int 0])), (h7, .inl (k3, 64, .inl (fun _ => 0))), (h8, .inr (6, [.ref h9, .int 0])), (h9, .inl (k4, 64, .inl (fun _ => 0)))] sz)) 0 0 (va_A [(h0, .inr (7, [.ref h1, .ref z0, .ref z1, .ref z2, .ref z3, .ref z4, .int 0, .int 0, .int 0])), (h1, .inl (k0, 4, .inr (.inr (.inr (.inr (va_up (va_up (va_up (va_up (fun _ => none) 0 (some h2)) 1 (some h4)) 2 (some h6)) 3 (some h8))))))), (h2, .inr (6, [.ref h3, .int 0])), (h3, .inl (k1, 64, .inl (fun _ => 0))), (h4, .inr (6, [.ref h5, .int 0])), (h5, .inl (k2, 64, .inl (fun _ => 0))), (h6, .inr (6, [.ref h7, .int 0])), (h7, .inl (k3, 64, .inl (fun _ => 0))), (h8, .inr (6, [.ref h9, .int 0])), (h9, .inl (k4, 64, .inl (fun _ => 0)))] sz) := by
  have e9 : j0 = 0 ∨ j0 = 1 ∨ j0 = 2 ∨ j0 = 3 := by
    have h9 : j0.toInt = 0 ∨ j0.toInt = 1 ∨ j0.toInt = 2 ∨ j0.toInt = 3 := by omega
    rcases h9 with h9 | h9 | h9 | h9
    · exact Or.inl (Int32.toInt_inj.mp (h9.trans (by decide)))
    · exact Or.inr (Or.inl (Int32.toInt_inj.mp (h9.trans (by decide))))
    · exact Or.inr (Or.inr (Or.inl (Int32.toInt_inj.mp (h9.trans (by decide)))))
    · exact Or.inr (Or.inr (Or.inr (Int32.toInt_inj.mp (h9.trans (by decide)))))
  rcases e9 with rfl | rfl | rfl | rfl
  · exact kx_X3_copy_8 l dC dI h0 h1 h2 h3 h4 h5 h6 h7 h8 h9 z0 z1 z2 z3 z4 k0 k1 k2 k3 k4 sz
  · exact kx_X3_copy_9 l dC dI h0 h1 h2 h3 h4 h5 h6 h7 h8 h9 z0 z1 z2 z3 z4 k0 k1 k2 k3 k4 sz
  · exact kx_X3_copy_10 l dC dI h0 h1 h2 h3 h4 h5 h6 h7 h8 h9 z0 z1 z2 z3 z4 k0 k1 k2 k3 k4 sz
  · exact kx_X3_copy_11 l dC dI h0 h1 h2 h3 h4 h5 h6 h7 h8 h9 z0 z1 z2 z3 z4 k0 k1 k2 k3 k4 sz
set_option maxHeartbeats 4000000 in
set_option maxRecDepth 100000 in
theorem kx_X3_copy_12 (l : Launch) (dC : Nat → ClassId) (dI : Nat → Nat → Nat) (h0 : Nat) (h1 : Nat) (h2 : Nat) (h3 : Nat) (h4 : Nat) (h5 : Nat) (h6 : Nat) (h7 : Nat) (h8 : Nat) (h9 : Nat) (z0 : Nat) (z1 : Nat) (z2 : Nat) (z3 : Nat) (z4 : Nat) (k0 : ClassId) (k1 : ClassId) (k2 : ClassId) (k3 : ClassId) (k4 : ClassId) (sz : Nat) : Met l yX3_copy wsX3_copy ({ frames := 2, cells := 0, slots := 0, locals := 81 }) (va_Pc [.ref h0, .int 3, .int 0] (fun U => U.heap.size = sz ∧ va_P (dC, dI) vwCl [(h0, .inr (7, [.ref h1, .ref z0, .ref z1, .ref z2, .ref z3, .ref z4, .int 0, .int 0, .int 0])), (h1, .inl (k0, 4, .inr (.inr (.inr (.inr (va_up (va_up (va_up (va_up (fun _ => none) 0 (some h2)) 1 (some h4)) 2 (some h6)) 3 (some h8))))))), (h2, .inr (6, [.ref h3, .int 0])), (h3, .inl (k1, 64, .inl (fun _ => 0))), (h4, .inr (6, [.ref h5, .int 0])), (h5, .inl (k2, 64, .inl (fun _ => 0))), (h6, .inr (6, [.ref h7, .int 0])), (h7, .inl (k3, 64, .inl (fun _ => 0))), (h8, .inr (6, [.ref h9, .int 0])), (h9, .inl (k4, 64, .inl (fun _ => 0)))] U.heap ∧ va_K (dC, dI) vwCl [(k0, .object "Rewriterope$Text"), (k1, .byte), (k2, .byte), (k3, .byte), (k4, .byte)] U ∧ va_D (fun _ => True) [(h0, .inr (7, [.ref h1, .ref z0, .ref z1, .ref z2, .ref z3, .ref z4, .int 0, .int 0, .int 0])), (h1, .inl (k0, 4, .inr (.inr (.inr (.inr (va_up (va_up (va_up (va_up (fun _ => none) 0 (some h2)) 1 (some h4)) 2 (some h6)) 3 (some h8))))))), (h2, .inr (6, [.ref h3, .int 0])), (h3, .inl (k1, 64, .inl (fun _ => 0))), (h4, .inr (6, [.ref h5, .int 0])), (h5, .inl (k2, 64, .inl (fun _ => 0))), (h6, .inr (6, [.ref h7, .int 0])), (h7, .inl (k3, 64, .inl (fun _ => 0))), (h8, .inr (6, [.ref h9, .int 0])), (h9, .inl (k4, 64, .inl (fun _ => 0)))])) (va_Qi (fun (r : Int32) (_ : Unit) => r = 0) (fun (_ : Unit) (t : State) => va_P (dC, dI) vwCl [(h0, .inr (7, [.ref h1, .ref z0, .ref z1, .ref z2, .ref z3, .ref z4, .int 0, .int 0, .int 0])), (h1, .inl (k0, 4, .inr (.inr (.inr (.inr (va_up (va_up (va_up (va_up (fun _ => none) 0 (some h2)) 1 (some h4)) 2 (some h6)) 3 (some h8))))))), (h2, .inr (6, [.ref h3, .int 0])), (h3, .inl (k1, 64, .inl (fun _ => 0))), (h4, .inr (6, [.ref h5, .int 0])), (h5, .inl (k2, 64, .inl (fun _ => 0))), (h6, .inr (6, [.ref h7, .int 0])), (h7, .inl (k3, 64, .inl (fun _ => 0))), (h8, .inr (6, [.ref h9, .int 0])), (h9, .inl (k4, 64, .inl (fun _ => 0)))] t.heap ∧ va_K (dC, dI) vwCl [(k0, .object "Rewriterope$Text"), (k1, .byte), (k2, .byte), (k3, .byte), (k4, .byte)] t ∧ va_D (va_A [(h0, .inr (7, [.ref h1, .ref z0, .ref z1, .ref z2, .ref z3, .ref z4, .int 0, .int 0, .int 0])), (h1, .inl (k0, 4, .inr (.inr (.inr (.inr (va_up (va_up (va_up (va_up (fun _ => none) 0 (some h2)) 1 (some h4)) 2 (some h6)) 3 (some h8))))))), (h2, .inr (6, [.ref h3, .int 0])), (h3, .inl (k1, 64, .inl (fun _ => 0))), (h4, .inr (6, [.ref h5, .int 0])), (h5, .inl (k2, 64, .inl (fun _ => 0))), (h6, .inr (6, [.ref h7, .int 0])), (h7, .inl (k3, 64, .inl (fun _ => 0))), (h8, .inr (6, [.ref h9, .int 0])), (h9, .inl (k4, 64, .inl (fun _ => 0)))] sz) [(h0, .inr (7, [.ref h1, .ref z0, .ref z1, .ref z2, .ref z3, .ref z4, .int 0, .int 0, .int 0])), (h1, .inl (k0, 4, .inr (.inr (.inr (.inr (va_up (va_up (va_up (va_up (fun _ => none) 0 (some h2)) 1 (some h4)) 2 (some h6)) 3 (some h8))))))), (h2, .inr (6, [.ref h3, .int 0])), (h3, .inl (k1, 64, .inl (fun _ => 0))), (h4, .inr (6, [.ref h5, .int 0])), (h5, .inl (k2, 64, .inl (fun _ => 0))), (h6, .inr (6, [.ref h7, .int 0])), (h7, .inl (k3, 64, .inl (fun _ => 0))), (h8, .inr (6, [.ref h9, .int 0])), (h9, .inl (k4, 64, .inl (fun _ => 0)))]) (va_A [(h0, .inr (7, [.ref h1, .ref z0, .ref z1, .ref z2, .ref z3, .ref z4, .int 0, .int 0, .int 0])), (h1, .inl (k0, 4, .inr (.inr (.inr (.inr (va_up (va_up (va_up (va_up (fun _ => none) 0 (some h2)) 1 (some h4)) 2 (some h6)) 3 (some h8))))))), (h2, .inr (6, [.ref h3, .int 0])), (h3, .inl (k1, 64, .inl (fun _ => 0))), (h4, .inr (6, [.ref h5, .int 0])), (h5, .inl (k2, 64, .inl (fun _ => 0))), (h6, .inr (6, [.ref h7, .int 0])), (h7, .inl (k3, 64, .inl (fun _ => 0))), (h8, .inr (6, [.ref h9, .int 0])), (h9, .inl (k4, 64, .inl (fun _ => 0)))] sz)) 0 0 (va_A [(h0, .inr (7, [.ref h1, .ref z0, .ref z1, .ref z2, .ref z3, .ref z4, .int 0, .int 0, .int 0])), (h1, .inl (k0, 4, .inr (.inr (.inr (.inr (va_up (va_up (va_up (va_up (fun _ => none) 0 (some h2)) 1 (some h4)) 2 (some h6)) 3 (some h8))))))), (h2, .inr (6, [.ref h3, .int 0])), (h3, .inl (k1, 64, .inl (fun _ => 0))), (h4, .inr (6, [.ref h5, .int 0])), (h5, .inl (k2, 64, .inl (fun _ => 0))), (h6, .inr (6, [.ref h7, .int 0])), (h7, .inl (k3, 64, .inl (fun _ => 0))), (h8, .inr (6, [.ref h9, .int 0])), (h9, .inl (k4, 64, .inl (fun _ => 0)))] sz) := by
  refine Met.ofW (cc := cX3_copy) (maxL := 3) (ret := (some .int)) (by decide) rfl ?_
  intro p e s m args below meth c s₁ B hml hv
  obtain ⟨rfl, hsz, hP, hK, hD0⟩ := hv
  have hx := B.exec
  have hb := B.bytes
  have hr := B.returns
  have hts := atoms_spec (ws := wsX3_copy) B.pre
  have hown : s.vm.findClass RX3 = some m.cls := findClass_of_methodNamed B.named
  have hlocks := B.notSynchronized
  subst hsz
  have hD := hD0.self (sz := s.heap.size)
  generalize hAe : va_A [(h0, .inr (7, [.ref h1, .ref z0, .ref z1, .ref z2, .ref z3, .ref z4, .int 0, .int 0, .int 0])), (h1, .inl (k0, 4, .inr (.inr (.inr (.inr (va_up (va_up (va_up (va_up (fun _ => none) 0 (some h2)) 1 (some h4)) 2 (some h6)) 3 (some h8))))))), (h2, .inr (6, [.ref h3, .int 0])), (h3, .inl (k1, 64, .inl (fun _ => 0))), (h4, .inr (6, [.ref h5, .int 0])), (h5, .inl (k2, 64, .inl (fun _ => 0))), (h6, .inr (6, [.ref h7, .int 0])), (h7, .inl (k3, 64, .inl (fun _ => 0))), (h8, .inr (6, [.ref h9, .int 0])), (h9, .inl (k4, 64, .inl (fun _ => 0)))] s.heap.size = A at hD ⊢
  have hA : ∀ q : Nat, s.heap.size ≤ q → A q := fun q h => by rw [← hAe]; exact Or.inr h
  have hS : va_S A s.heap s.heap [] := va_S.rf
  have hP : va_P (dC, dI) vwCl [(h0, .inr (7, [.ref h1, .ref z0, .ref z1, .ref z2, .ref z3, .ref z4, .int 0, .int 0, .int 0])), (h1, .inl (k0, 4, .inr (.inr (.inr (.inr (va_up (va_up (va_up (va_up (fun _ => none) 0 (some h2)) 1 (some h4)) 2 (some h6)) 3 (some h8))))))), (h2, .inr (6, [.ref h3, .int 0])), (h3, .inl (k1, 64, .inl (fun _ => 0))), (h4, .inr (6, [.ref h5, .int 0])), (h5, .inl (k2, 64, .inl (fun _ => 0))), (h6, .inr (6, [.ref h7, .int 0])), (h7, .inl (k3, 64, .inl (fun _ => 0))), (h8, .inr (6, [.ref h9, .int 0])), (h9, .inl (k4, 64, .inl (fun _ => 0)))] s.heap := hP
  have hl := lv_entry ([.ref h0, .int 3, .int 0]) (n := 3) (Nat.le_of_ble_eq_true rfl)
  rw [lg_entry_eq]
  generalize (lg_sl ([.ref h0, .int 3, .int 0]) ++ List.replicate (3 - (lg_sl ([.ref h0, .int 3, .int 0])).length) Slot.unset).toArray = ls at hl ⊢
  have hl : lv_has ls 3 [(0, .ref h0), (1, .int 3), (2, .int 0)] := hl
  refine lv_iload_n hx hb dX3_copy_0 rfl (lv_at hl 1 rfl) ?_
  have hPc := hP.sub (ws' := []) [] rfl
  have hDc := hD.sub (ws' := []) [] (by decide) rfl
  have hKc := hK.sub (tys' := []) [] rfl
  have hFc := va_free (wc := []) hD hS hA [] rfl
  refine va_callv (va_runS (As := [.int 3]) (rest := []) ⟨hx, hb, hml, hown, hts⟩ (kx_X3_needRope_3 l dC dI s.heap.size) (cwS 1 hts gX3_copy_X3_needRope rfl rfl rfl (by decide +kernel) ⟨Nat.le_of_ble_eq_true rfl, Nat.le_of_ble_eq_true rfl⟩) ⟨fun a U g mk q => by obtain ⟨q0, q1, qP, qK, qD⟩ := q; exact ⟨q0, q1, qP, va_K.moved (u := U) (U := U.calling g mk a) (Vm.Alike.refl U.vm) qK, qD⟩, fun U hU hW => ⟨rfl, by rw [hU], by rw [hU]; exact hPc, va_K.moved hW.alike hKc, hDc.weaken (fun _ _ _ _ => trivial)⟩⟩ rfl rfl hl.1 rfl (lv_room (Nat.le_of_ble_eq_true rfl)) dX3_copy_1 ⟨Nat.le_of_ble_eq_true rfl, Nat.le_of_ble_eq_true rfl⟩) hS (fun q _ h => hFc q h) hFc (fun u t H1 locs ht hvm hw hB hz1 hk1 hS => ?_)
  obtain ⟨hP1, hK1, hD1⟩ := hB
  rw [ht] at hP1
  have hK1 := va_K.moved hvm.symm hK1
  obtain ⟨hP, hD⟩ := va_join (wr := [(h0, .inr (7, [.ref h1, .ref z0, .ref z1, .ref z2, .ref z3, .ref z4, .int 0, .int 0, .int 0])), (h1, .inl (k0, 4, .inr (.inr (.inr (.inr (va_up (va_up (va_up (va_up (fun _ => none) 0 (some h2)) 1 (some h4)) 2 (some h6)) 3 (some h8))))))), (h2, .inr (6, [.ref h3, .int 0])), (h3, .inl (k1, 64, .inl (fun _ => 0))), (h4, .inr (6, [.ref h5, .int 0])), (h5, .inl (k2, 64, .inl (fun _ => 0))), (h6, .inr (6, [.ref h7, .int 0])), (h7, .inl (k3, 64, .inl (fun _ => 0))), (h8, .inr (6, [.ref h9, .int 0])), (h9, .inl (k4, 64, .inl (fun _ => 0)))]) (w1 := []) hP hD [] [0, 1, 2, 3, 4, 5, 6, 7, 8, 9] rfl rfl (by decide) (by decide) hk1 hFc hP1 hD1
  generalize H1 = H at hP hS ⊢
  have hP : va_P (dC, dI) vwCl [(h0, .inr (7, [.ref h1, .ref z0, .ref z1, .ref z2, .ref z3, .ref z4, .int 0, .int 0, .int 0])), (h1, .inl (k0, 4, .inr (.inr (.inr (.inr (va_up (va_up (va_up (va_up (fun _ => none) 0 (some h2)) 1 (some h4)) 2 (some h6)) 3 (some h8))))))), (h2, .inr (6, [.ref h3, .int 0])), (h3, .inl (k1, 64, .inl (fun _ => 0))), (h4, .inr (6, [.ref h5, .int 0])), (h5, .inl (k2, 64, .inl (fun _ => 0))), (h6, .inr (6, [.ref h7, .int 0])), (h7, .inl (k3, 64, .inl (fun _ => 0))), (h8, .inr (6, [.ref h9, .int 0])), (h9, .inl (k4, 64, .inl (fun _ => 0)))] H := hP
  have hD : va_D A [(h0, .inr (7, [.ref h1, .ref z0, .ref z1, .ref z2, .ref z3, .ref z4, .int 0, .int 0, .int 0])), (h1, .inl (k0, 4, .inr (.inr (.inr (.inr (va_up (va_up (va_up (va_up (fun _ => none) 0 (some h2)) 1 (some h4)) 2 (some h6)) 3 (some h8))))))), (h2, .inr (6, [.ref h3, .int 0])), (h3, .inl (k1, 64, .inl (fun _ => 0))), (h4, .inr (6, [.ref h5, .int 0])), (h5, .inl (k2, 64, .inl (fun _ => 0))), (h6, .inr (6, [.ref h7, .int 0])), (h7, .inl (k3, 64, .inl (fun _ => 0))), (h8, .inr (6, [.ref h9, .int 0])), (h9, .inl (k4, 64, .inl (fun _ => 0)))] := hD
  refine lv_iload_n hx hb dX3_copy_4 rfl (lv_at hl 2 rfl) ?_
  have hPc := hP.sub (ws' := []) [] rfl
  have hDc := hD.sub (ws' := []) [] (by decide) rfl
  have hKc := hK.sub (tys' := []) [] rfl
  have hFc := va_free (wc := []) hD hS hA [] rfl
  refine va_callv (va_runS (As := [.int 0]) (rest := []) ⟨hx, hb, hml, hown, hts⟩ (kx_X3_needRope_0 l dC dI H.size) (cwS 1 hts gX3_copy_X3_needRope rfl rfl rfl (by decide +kernel) ⟨Nat.le_of_ble_eq_true rfl, Nat.le_of_ble_eq_true rfl⟩) ⟨fun a U g mk q => by obtain ⟨q0, q1, qP, qK, qD⟩ := q; exact ⟨q0, q1, qP, va_K.moved (u := U) (U := U.calling g mk a) (Vm.Alike.refl U.vm) qK, qD⟩, fun U hU hW => ⟨rfl, by rw [hU], by rw [hU]; exact hPc, va_K.moved hW.alike hKc, hDc.weaken (fun _ _ _ _ => trivial)⟩⟩ rfl rfl hl.1 rfl (lv_room (Nat.le_of_ble_eq_true rfl)) dX3_copy_5 ⟨Nat.le_of_ble_eq_true rfl, Nat.le_of_ble_eq_true rfl⟩) hS (fun q _ h => hFc q h) hFc (fun u t H1 locs ht hvm hw hB hz1 hk1 hS => ?_)
  obtain ⟨hP1, hK1, hD1⟩ := hB
  rw [ht] at hP1
  have hK1 := va_K.moved hvm.symm hK1
  obtain ⟨hP, hD⟩ := va_join (wr := [(h0, .inr (7, [.ref h1, .ref z0, .ref z1, .ref z2, .ref z3, .ref z4, .int 0, .int 0, .int 0])), (h1, .inl (k0, 4, .inr (.inr (.inr (.inr (va_up (va_up (va_up (va_up (fun _ => none) 0 (some h2)) 1 (some h4)) 2 (some h6)) 3 (some h8))))))), (h2, .inr (6, [.ref h3, .int 0])), (h3, .inl (k1, 64, .inl (fun _ => 0))), (h4, .inr (6, [.ref h5, .int 0])), (h5, .inl (k2, 64, .inl (fun _ => 0))), (h6, .inr (6, [.ref h7, .int 0])), (h7, .inl (k3, 64, .inl (fun _ => 0))), (h8, .inr (6, [.ref h9, .int 0])), (h9, .inl (k4, 64, .inl (fun _ => 0)))]) (w1 := []) hP hD [] [0, 1, 2, 3, 4, 5, 6, 7, 8, 9] rfl rfl (by decide) (by decide) hk1 hFc hP1 hD1
  generalize H1 = H at hP hS ⊢
  have hP : va_P (dC, dI) vwCl [(h0, .inr (7, [.ref h1, .ref z0, .ref z1, .ref z2, .ref z3, .ref z4, .int 0, .int 0, .int 0])), (h1, .inl (k0, 4, .inr (.inr (.inr (.inr (va_up (va_up (va_up (va_up (fun _ => none) 0 (some h2)) 1 (some h4)) 2 (some h6)) 3 (some h8))))))), (h2, .inr (6, [.ref h3, .int 0])), (h3, .inl (k1, 64, .inl (fun _ => 0))), (h4, .inr (6, [.ref h5, .int 0])), (h5, .inl (k2, 64, .inl (fun _ => 0))), (h6, .inr (6, [.ref h7, .int 0])), (h7, .inl (k3, 64, .inl (fun _ => 0))), (h8, .inr (6, [.ref h9, .int 0])), (h9, .inl (k4, 64, .inl (fun _ => 0)))] H := hP
  have hD : va_D A [(h0, .inr (7, [.ref h1, .ref z0, .ref z1, .ref z2, .ref z3, .ref z4, .int 0, .int 0, .int 0])), (h1, .inl (k0, 4, .inr (.inr (.inr (.inr (va_up (va_up (va_up (va_up (fun _ => none) 0 (some h2)) 1 (some h4)) 2 (some h6)) 3 (some h8))))))), (h2, .inr (6, [.ref h3, .int 0])), (h3, .inl (k1, 64, .inl (fun _ => 0))), (h4, .inr (6, [.ref h5, .int 0])), (h5, .inl (k2, 64, .inl (fun _ => 0))), (h6, .inr (6, [.ref h7, .int 0])), (h7, .inl (k3, 64, .inl (fun _ => 0))), (h8, .inr (6, [.ref h9, .int 0])), (h9, .inl (k4, 64, .inl (fun _ => 0)))] := hD
  refine lv_aload_n hx hb dX3_copy_8 rfl (lv_at hl 0 rfl) ?_
  refine va_get (D := (dC, dI)) (ci := 7) (v := .ref h1) (C := RX3) (T := TX3) (N := 9) hx hb hts (by decide +kernel) hown hK hP 0 rfl rfl 0 (by decide) (hts (.fieldLink RX3 11 "Rewriterope" "ropes" "[LRewriterope$Text;") (by decide +kernel)) (fun _ h9 => h9) rfl dX3_copy_9 ?_
  refine lv_iload_n hx hb dX3_copy_12 rfl (lv_at hl 1 rfl) ?_
  refine va_aldq (D := (dC, dI)) hx hb hK hP 1 0 rfl rfl (by unfold vp_in; decide) dX3_copy_13 ?_
  refine W.eq (g2 := F0 m 14 ls [.ref h8]) rfl ?_
  refine lv_aload_n hx hb dX3_copy_14 rfl (lv_at hl 0 rfl) ?_
  refine va_get (D := (dC, dI)) (ci := 7) (v := .ref h1) (C := RX3) (T := TX3) (N := 9) hx hb hts (by decide +kernel) hown hK hP 0 rfl rfl 0 (by decide) (hts (.fieldLink RX3 11 "Rewriterope" "ropes" "[LRewriterope$Text;") (by decide +kernel)) (fun _ h9 => h9) rfl dX3_copy_15 ?_
  refine lv_iload_n hx hb dX3_copy_18 rfl (lv_at hl 2 rfl) ?_
  refine va_aldq (D := (dC, dI)) hx hb hK hP 1 0 rfl rfl (by unfold vp_in; decide) dX3_copy_19 ?_
  refine W.eq (g2 := F0 m 20 ls [.ref h2, .ref h8]) rfl ?_
  have hPc := hP.sub (ws' := [(h2, .inr (6, [.ref h3, .int 0])), (h3, .inl (k1, 64, .inl (fun _ => 0))), (h8, .inr (6, [.ref h9, .int 0])), (h9, .inl (k4, 64, .inl (fun _ => 0)))]) [2, 3, 8, 9] rfl
  have hDc := hD.sub (ws' := [(h2, .inr (6, [.ref h3, .int 0])), (h3, .inl (k1, 64, .inl (fun _ => 0))), (h8, .inr (6, [.ref h9, .int 0])), (h9, .inl (k4, 64, .inl (fun _ => 0)))]) [2, 3, 8, 9] (by decide) rfl
  have hKc := hK.sub (tys' := [(k1, .byte), (k4, .byte)]) [1, 4] rfl
  have hFc := va_free (wc := [(h2, .inr (6, [.ref h3, .int 0])), (h3, .inl (k1, 64, .inl (fun _ => 0))), (h8, .inr (6, [.ref h9, .int 0])), (h9, .inl (k4, 64, .inl (fun _ => 0)))]) hD hS hA [2, 3, 8, 9] rfl
  refine va_callv (va_runV (As := [.ref h2]) (rest := []) ⟨hx, hb, hml, hown, hts⟩ (kx_X2_become_2 l dC dI h2 h3 h8 h9 k1 k4 H.size) (cwV 1 hts gX3_copy_X2_become rfl rfl rfl (by decide +kernel) ⟨Nat.le_of_ble_eq_true rfl, Nat.le_of_ble_eq_true rfl⟩) ⟨fun a U g mk q => by obtain ⟨q0, q1, qP, qK, qD⟩ := q; exact ⟨q0, q1, qP, va_K.moved (u := U) (U := U.calling g mk a) (Vm.Alike.refl U.vm) qK, qD⟩, va_recv hKc hPc (ci := 6) (q0 := 2) rfl rfl, fun U hU hW => ⟨rfl, by rw [hU], by rw [hU]; exact hPc, va_K.moved hW.alike hKc, hDc.weaken (fun _ _ _ _ => trivial)⟩⟩ rfl rfl hl.1 rfl (lv_room (Nat.le_of_ble_eq_true rfl)) dX3_copy_20 ⟨Nat.le_of_ble_eq_true rfl, Nat.le_of_ble_eq_true rfl⟩) hS (fun q _ h => hFc q h) hFc (fun u t H1 locs ht hvm hw hB hz1 hk1 hS => ?_)
  obtain ⟨hP1, hK1, hD1⟩ := hB
  rw [ht] at hP1
  have hK1 := va_K.moved hvm.symm hK1
  obtain ⟨hP, hD⟩ := va_join (wr := [(h0, .inr (7, [.ref h1, .ref z0, .ref z1, .ref z2, .ref z3, .ref z4, .int 0, .int 0, .int 0])), (h1, .inl (k0, 4, .inr (.inr (.inr (.inr (va_up (va_up (va_up (va_up (fun _ => none) 0 (some h2)) 1 (some h4)) 2 (some h6)) 3 (some h8))))))), (h4, .inr (6, [.ref h5, .int 0])), (h5, .inl (k2, 64, .inl (fun _ => 0))), (h6, .inr (6, [.ref h7, .int 0])), (h7, .inl (k3, 64, .inl (fun _ => 0)))]) (w1 := [(h2, .inr (6, [.ref h3, .int 0])), (h3, .inl (k1, 64, .inl (fun _ => 0))), (h8, .inr (6, [.ref h9, .int 0])), (h9, .inl (k4, 64, .inl (fun _ => 0)))]) hP hD [2, 3, 8, 9] [0, 1, 4, 5, 6, 7] rfl rfl (by decide) (by decide) hk1 hFc hP1 hD1
  generalize H1 = H at hP hS ⊢
  have hP : va_P (dC, dI) vwCl [(h0, .inr (7, [.ref h1, .ref z0, .ref z1, .ref z2, .ref z3, .ref z4, .int 0, .int 0, .int 0])), (h1, .inl (k0, 4, .inr (.inr (.inr (.inr (va_up (va_up (va_up (va_up (fun _ => none) 0 (some h2)) 1 (some h4)) 2 (some h6)) 3 (some h8))))))), (h4, .inr (6, [.ref h5, .int 0])), (h5, .inl (k2, 64, .inl (fun _ => 0))), (h6, .inr (6, [.ref h7, .int 0])), (h7, .inl (k3, 64, .inl (fun _ => 0))), (h2, .inr (6, [.ref h3, .int 0])), (h3, .inl (k1, 64, .inl (fun _ => 0))), (h8, .inr (6, [.ref h9, .int 0])), (h9, .inl (k4, 64, .inl (fun _ => 0)))] H := hP
  have hD : va_D A [(h0, .inr (7, [.ref h1, .ref z0, .ref z1, .ref z2, .ref z3, .ref z4, .int 0, .int 0, .int 0])), (h1, .inl (k0, 4, .inr (.inr (.inr (.inr (va_up (va_up (va_up (va_up (fun _ => none) 0 (some h2)) 1 (some h4)) 2 (some h6)) 3 (some h8))))))), (h4, .inr (6, [.ref h5, .int 0])), (h5, .inl (k2, 64, .inl (fun _ => 0))), (h6, .inr (6, [.ref h7, .int 0])), (h7, .inl (k3, 64, .inl (fun _ => 0))), (h2, .inr (6, [.ref h3, .int 0])), (h3, .inl (k1, 64, .inl (fun _ => 0))), (h8, .inr (6, [.ref h9, .int 0])), (h9, .inl (k4, 64, .inl (fun _ => 0)))] := hD
  refine lv_aload_n hx hb dX3_copy_23 rfl (lv_at hl 0 rfl) ?_
  refine va_get (D := (dC, dI)) (ci := 7) (v := .ref h1) (C := RX3) (T := TX3) (N := 9) hx hb hts (by decide +kernel) hown hK hP 0 rfl rfl 0 (by decide) (hts (.fieldLink RX3 11 "Rewriterope" "ropes" "[LRewriterope$Text;") (by decide +kernel)) (fun _ h9 => h9) rfl dX3_copy_24 ?_
  refine lv_iload_n hx hb dX3_copy_27 rfl (lv_at hl 1 rfl) ?_
  refine va_aldq (D := (dC, dI)) hx hb hK hP 1 0 rfl rfl (by unfold vp_in; decide) dX3_copy_28 ?_
  refine W.eq (g2 := F0 m 29 ls [.ref h8]) rfl ?_
  refine va_get (D := (dC, dI)) (ci := 6) (v := .int 0) (C := RX2) (T := TX2) (N := 2) hx hb hts (by decide +kernel) hown hK hP 8 rfl rfl 1 (by decide) (hts (.fieldLink RX3 65 "Rewriterope$Text" "length" "I") (by decide +kernel)) (fun _ h9 => h9) rfl dX3_copy_29 ?_
  have hP := hP.sub (ws' := [(h0, .inr (7, [.ref h1, .ref z0, .ref z1, .ref z2, .ref z3, .ref z4, .int 0, .int 0, .int 0])), (h1, .inl (k0, 4, .inr (.inr (.inr (.inr (va_up (va_up (va_up (va_up (fun _ => none) 0 (some h2)) 1 (some h4)) 2 (some h6)) 3 (some h8))))))), (h2, .inr (6, [.ref h3, .int 0])), (h3, .inl (k1, 64, .inl (fun _ => 0))), (h4, .inr (6, [.ref h5, .int 0])), (h5, .inl (k2, 64, .inl (fun _ => 0))), (h6, .inr (6, [.ref h7, .int 0])), (h7, .inl (k3, 64, .inl (fun _ => 0))), (h8, .inr (6, [.ref h9, .int 0])), (h9, .inl (k4, 64, .inl (fun _ => 0)))]) [0, 1, 6, 7, 2, 3, 4, 5, 8, 9] rfl
  have hD := hD.sub (ws' := [(h0, .inr (7, [.ref h1, .ref z0, .ref z1, .ref z2, .ref z3, .ref z4, .int 0, .int 0, .int 0])), (h1, .inl (k0, 4, .inr (.inr (.inr (.inr (va_up (va_up (va_up (va_up (fun _ => none) 0 (some h2)) 1 (some h4)) 2 (some h6)) 3 (some h8))))))), (h2, .inr (6, [.ref h3, .int 0])), (h3, .inl (k1, 64, .inl (fun _ => 0))), (h4, .inr (6, [.ref h5, .int 0])), (h5, .inl (k2, 64, .inl (fun _ => 0))), (h6, .inr (6, [.ref h7, .int 0])), (h7, .inl (k3, 64, .inl (fun _ => 0))), (h8, .inr (6, [.ref h9, .int 0])), (h9, .inl (k4, 64, .inl (fun _ => 0)))]) [0, 1, 6, 7, 2, 3, 4, 5, 8, 9] (by decide) rfl
  exact W.iret (v := 0) hx hb hr (fun t ht hW => ⟨⟨0, (), rfl, rfl, by rw [ht]; exact hP, va_K.moved hW.alike hK, hD⟩, hS.F ht⟩) hS.2.2 dX3_copy_32
set_option maxHeartbeats 4000000 in
set_option maxRecDepth 100000 in
theorem kx_X3_copy_13 (l : Launch) (dC : Nat → ClassId) (dI : Nat → Nat → Nat) (h0 : Nat) (h1 : Nat) (h2 : Nat) (h3 : Nat) (h4 : Nat) (h5 : Nat) (h6 : Nat) (h7 : Nat) (h8 : Nat) (h9 : Nat) (z0 : Nat) (z1 : Nat) (z2 : Nat) (z3 : Nat) (z4 : Nat) (k0 : ClassId) (k1 : ClassId) (k2 : ClassId) (k3 : ClassId) (k4 : ClassId) (sz : Nat) : Met l yX3_copy wsX3_copy ({ frames := 2, cells := 0, slots := 0, locals := 81 }) (va_Pc [.ref h0, .int 3, .int 1] (fun U => U.heap.size = sz ∧ va_P (dC, dI) vwCl [(h0, .inr (7, [.ref h1, .ref z0, .ref z1, .ref z2, .ref z3, .ref z4, .int 0, .int 0, .int 0])), (h1, .inl (k0, 4, .inr (.inr (.inr (.inr (va_up (va_up (va_up (va_up (fun _ => none) 0 (some h2)) 1 (some h4)) 2 (some h6)) 3 (some h8))))))), (h2, .inr (6, [.ref h3, .int 0])), (h3, .inl (k1, 64, .inl (fun _ => 0))), (h4, .inr (6, [.ref h5, .int 0])), (h5, .inl (k2, 64, .inl (fun _ => 0))), (h6, .inr (6, [.ref h7, .int 0])), (h7, .inl (k3, 64, .inl (fun _ => 0))), (h8, .inr (6, [.ref h9, .int 0])), (h9, .inl (k4, 64, .inl (fun _ => 0)))] U.heap ∧ va_K (dC, dI) vwCl [(k0, .object "Rewriterope$Text"), (k1, .byte), (k2, .byte), (k3, .byte), (k4, .byte)] U ∧ va_D (fun _ => True) [(h0, .inr (7, [.ref h1, .ref z0, .ref z1, .ref z2, .ref z3, .ref z4, .int 0, .int 0, .int 0])), (h1, .inl (k0, 4, .inr (.inr (.inr (.inr (va_up (va_up (va_up (va_up (fun _ => none) 0 (some h2)) 1 (some h4)) 2 (some h6)) 3 (some h8))))))), (h2, .inr (6, [.ref h3, .int 0])), (h3, .inl (k1, 64, .inl (fun _ => 0))), (h4, .inr (6, [.ref h5, .int 0])), (h5, .inl (k2, 64, .inl (fun _ => 0))), (h6, .inr (6, [.ref h7, .int 0])), (h7, .inl (k3, 64, .inl (fun _ => 0))), (h8, .inr (6, [.ref h9, .int 0])), (h9, .inl (k4, 64, .inl (fun _ => 0)))])) (va_Qi (fun (r : Int32) (_ : Unit) => r = 0) (fun (_ : Unit) (t : State) => va_P (dC, dI) vwCl [(h0, .inr (7, [.ref h1, .ref z0, .ref z1, .ref z2, .ref z3, .ref z4, .int 0, .int 0, .int 0])), (h1, .inl (k0, 4, .inr (.inr (.inr (.inr (va_up (va_up (va_up (va_up (fun _ => none) 0 (some h2)) 1 (some h4)) 2 (some h6)) 3 (some h8))))))), (h2, .inr (6, [.ref h3, .int 0])), (h3, .inl (k1, 64, .inl (fun _ => 0))), (h4, .inr (6, [.ref h5, .int 0])), (h5, .inl (k2, 64, .inl (fun _ => 0))), (h6, .inr (6, [.ref h7, .int 0])), (h7, .inl (k3, 64, .inl (fun _ => 0))), (h8, .inr (6, [.ref h9, .int 0])), (h9, .inl (k4, 64, .inl (fun _ => 0)))] t.heap ∧ va_K (dC, dI) vwCl [(k0, .object "Rewriterope$Text"), (k1, .byte), (k2, .byte), (k3, .byte), (k4, .byte)] t ∧ va_D (va_A [(h0, .inr (7, [.ref h1, .ref z0, .ref z1, .ref z2, .ref z3, .ref z4, .int 0, .int 0, .int 0])), (h1, .inl (k0, 4, .inr (.inr (.inr (.inr (va_up (va_up (va_up (va_up (fun _ => none) 0 (some h2)) 1 (some h4)) 2 (some h6)) 3 (some h8))))))), (h2, .inr (6, [.ref h3, .int 0])), (h3, .inl (k1, 64, .inl (fun _ => 0))), (h4, .inr (6, [.ref h5, .int 0])), (h5, .inl (k2, 64, .inl (fun _ => 0))), (h6, .inr (6, [.ref h7, .int 0])), (h7, .inl (k3, 64, .inl (fun _ => 0))), (h8, .inr (6, [.ref h9, .int 0])), (h9, .inl (k4, 64, .inl (fun _ => 0)))] sz) [(h0, .inr (7, [.ref h1, .ref z0, .ref z1, .ref z2, .ref z3, .ref z4, .int 0, .int 0, .int 0])), (h1, .inl (k0, 4, .inr (.inr (.inr (.inr (va_up (va_up (va_up (va_up (fun _ => none) 0 (some h2)) 1 (some h4)) 2 (some h6)) 3 (some h8))))))), (h2, .inr (6, [.ref h3, .int 0])), (h3, .inl (k1, 64, .inl (fun _ => 0))), (h4, .inr (6, [.ref h5, .int 0])), (h5, .inl (k2, 64, .inl (fun _ => 0))), (h6, .inr (6, [.ref h7, .int 0])), (h7, .inl (k3, 64, .inl (fun _ => 0))), (h8, .inr (6, [.ref h9, .int 0])), (h9, .inl (k4, 64, .inl (fun _ => 0)))]) (va_A [(h0, .inr (7, [.ref h1, .ref z0, .ref z1, .ref z2, .ref z3, .ref z4, .int 0, .int 0, .int 0])), (h1, .inl (k0, 4, .inr (.inr (.inr (.inr (va_up (va_up (va_up (va_up (fun _ => none) 0 (some h2)) 1 (some h4)) 2 (some h6)) 3 (some h8))))))), (h2, .inr (6, [.ref h3, .int 0])), (h3, .inl (k1, 64, .inl (fun _ => 0))), (h4, .inr (6, [.ref h5, .int 0])), (h5, .inl (k2, 64, .inl (fun _ => 0))), (h6, .inr (6, [.ref h7, .int 0])), (h7, .inl (k3, 64, .inl (fun _ => 0))), (h8, .inr (6, [.ref h9, .int 0])), (h9, .inl (k4, 64, .inl (fun _ => 0)))] sz)) 0 0 (va_A [(h0, .inr (7, [.ref h1, .ref z0, .ref z1, .ref z2, .ref z3, .ref z4, .int 0, .int 0, .int 0])), (h1, .inl (k0, 4, .inr (.inr (.inr (.inr (va_up (va_up (va_up (va_up (fun _ => none) 0 (some h2)) 1 (some h4)) 2 (some h6)) 3 (some h8))))))), (h2, .inr (6, [.ref h3, .int 0])), (h3, .inl (k1, 64, .inl (fun _ => 0))), (h4, .inr (6, [.ref h5, .int 0])), (h5, .inl (k2, 64, .inl (fun _ => 0))), (h6, .inr (6, [.ref h7, .int 0])), (h7, .inl (k3, 64, .inl (fun _ => 0))), (h8, .inr (6, [.ref h9, .int 0])), (h9, .inl (k4, 64, .inl (fun _ => 0)))] sz) := by
  refine Met.ofW (cc := cX3_copy) (maxL := 3) (ret := (some .int)) (by decide) rfl ?_
  intro p e s m args below meth c s₁ B hml hv
  obtain ⟨rfl, hsz, hP, hK, hD0⟩ := hv
  have hx := B.exec
  have hb := B.bytes
  have hr := B.returns
  have hts := atoms_spec (ws := wsX3_copy) B.pre
  have hown : s.vm.findClass RX3 = some m.cls := findClass_of_methodNamed B.named
  have hlocks := B.notSynchronized
  subst hsz
  have hD := hD0.self (sz := s.heap.size)
  generalize hAe : va_A [(h0, .inr (7, [.ref h1, .ref z0, .ref z1, .ref z2, .ref z3, .ref z4, .int 0, .int 0, .int 0])), (h1, .inl (k0, 4, .inr (.inr (.inr (.inr (va_up (va_up (va_up (va_up (fun _ => none) 0 (some h2)) 1 (some h4)) 2 (some h6)) 3 (some h8))))))), (h2, .inr (6, [.ref h3, .int 0])), (h3, .inl (k1, 64, .inl (fun _ => 0))), (h4, .inr (6, [.ref h5, .int 0])), (h5, .inl (k2, 64, .inl (fun _ => 0))), (h6, .inr (6, [.ref h7, .int 0])), (h7, .inl (k3, 64, .inl (fun _ => 0))), (h8, .inr (6, [.ref h9, .int 0])), (h9, .inl (k4, 64, .inl (fun _ => 0)))] s.heap.size = A at hD ⊢
  have hA : ∀ q : Nat, s.heap.size ≤ q → A q := fun q h => by rw [← hAe]; exact Or.inr h
  have hS : va_S A s.heap s.heap [] := va_S.rf
  have hP : va_P (dC, dI) vwCl [(h0, .inr (7, [.ref h1, .ref z0, .ref z1, .ref z2, .ref z3, .ref z4, .int 0, .int 0, .int 0])), (h1, .inl (k0, 4, .inr (.inr (.inr (.inr (va_up (va_up (va_up (va_up (fun _ => none) 0 (some h2)) 1 (some h4)) 2 (some h6)) 3 (some h8))))))), (h2, .inr (6, [.ref h3, .int 0])), (h3, .inl (k1, 64, .inl (fun _ => 0))), (h4, .inr (6, [.ref h5, .int 0])), (h5, .inl (k2, 64, .inl (fun _ => 0))), (h6, .inr (6, [.ref h7, .int 0])), (h7, .inl (k3, 64, .inl (fun _ => 0))), (h8, .inr (6, [.ref h9, .int 0])), (h9, .inl (k4, 64, .inl (fun _ => 0)))] s.heap := hP
  have hl := lv_entry ([.ref h0, .int 3, .int 1]) (n := 3) (Nat.le_of_ble_eq_true rfl)
  rw [lg_entry_eq]
  generalize (lg_sl ([.ref h0, .int 3, .int 1]) ++ List.replicate (3 - (lg_sl ([.ref h0, .int 3, .int 1])).length) Slot.unset).toArray = ls at hl ⊢
  have hl : lv_has ls 3 [(0, .ref h0), (1, .int 3), (2, .int 1)] := hl
  refine lv_iload_n hx hb dX3_copy_0 rfl (lv_at hl 1 rfl) ?_
  have hPc := hP.sub (ws' := []) [] rfl
  have hDc := hD.sub (ws' := []) [] (by decide) rfl
  have hKc := hK.sub (tys' := []) [] rfl
  have hFc := va_free (wc := []) hD hS hA [] rfl
  refine va_callv (va_runS (As := [.int 3]) (rest := []) ⟨hx, hb, hml, hown, hts⟩ (kx_X3_needRope_3 l dC dI s.heap.size) (cwS 1 hts gX3_copy_X3_needRope rfl rfl rfl (by decide +kernel) ⟨Nat.le_of_ble_eq_true rfl, Nat.le_of_ble_eq_true rfl⟩) ⟨fun a U g mk q => by obtain ⟨q0, q1, qP, qK, qD⟩ := q; exact ⟨q0, q1, qP, va_K.moved (u := U) (U := U.calling g mk a) (Vm.Alike.refl U.vm) qK, qD⟩, fun U hU hW => ⟨rfl, by rw [hU], by rw [hU]; exact hPc, va_K.moved hW.alike hKc, hDc.weaken (fun _ _ _ _ => trivial)⟩⟩ rfl rfl hl.1 rfl (lv_room (Nat.le_of_ble_eq_true rfl)) dX3_copy_1 ⟨Nat.le_of_ble_eq_true rfl, Nat.le_of_ble_eq_true rfl⟩) hS (fun q _ h => hFc q h) hFc (fun u t H1 locs ht hvm hw hB hz1 hk1 hS => ?_)
  obtain ⟨hP1, hK1, hD1⟩ := hB
  rw [ht] at hP1
  have hK1 := va_K.moved hvm.symm hK1
  obtain ⟨hP, hD⟩ := va_join (wr := [(h0, .inr (7, [.ref h1, .ref z0, .ref z1, .ref z2, .ref z3, .ref z4, .int 0, .int 0, .int 0])), (h1, .inl (k0, 4, .inr (.inr (.inr (.inr (va_up (va_up (va_up (va_up (fun _ => none) 0 (some h2)) 1 (some h4)) 2 (some h6)) 3 (some h8))))))), (h2, .inr (6, [.ref h3, .int 0])), (h3, .inl (k1, 64, .inl (fun _ => 0))), (h4, .inr (6, [.ref h5, .int 0])), (h5, .inl (k2, 64, .inl (fun _ => 0))), (h6, .inr (6, [.ref h7, .int 0])), (h7, .inl (k3, 64, .inl (fun _ => 0))), (h8, .inr (6, [.ref h9, .int 0])), (h9, .inl (k4, 64, .inl (fun _ => 0)))]) (w1 := []) hP hD [] [0, 1, 2, 3, 4, 5, 6, 7, 8, 9] rfl rfl (by decide) (by decide) hk1 hFc hP1 hD1
  generalize H1 = H at hP hS ⊢
  have hP : va_P (dC, dI) vwCl [(h0, .inr (7, [.ref h1, .ref z0, .ref z1, .ref z2, .ref z3, .ref z4, .int 0, .int 0, .int 0])), (h1, .inl (k0, 4, .inr (.inr (.inr (.inr (va_up (va_up (va_up (va_up (fun _ => none) 0 (some h2)) 1 (some h4)) 2 (some h6)) 3 (some h8))))))), (h2, .inr (6, [.ref h3, .int 0])), (h3, .inl (k1, 64, .inl (fun _ => 0))), (h4, .inr (6, [.ref h5, .int 0])), (h5, .inl (k2, 64, .inl (fun _ => 0))), (h6, .inr (6, [.ref h7, .int 0])), (h7, .inl (k3, 64, .inl (fun _ => 0))), (h8, .inr (6, [.ref h9, .int 0])), (h9, .inl (k4, 64, .inl (fun _ => 0)))] H := hP
  have hD : va_D A [(h0, .inr (7, [.ref h1, .ref z0, .ref z1, .ref z2, .ref z3, .ref z4, .int 0, .int 0, .int 0])), (h1, .inl (k0, 4, .inr (.inr (.inr (.inr (va_up (va_up (va_up (va_up (fun _ => none) 0 (some h2)) 1 (some h4)) 2 (some h6)) 3 (some h8))))))), (h2, .inr (6, [.ref h3, .int 0])), (h3, .inl (k1, 64, .inl (fun _ => 0))), (h4, .inr (6, [.ref h5, .int 0])), (h5, .inl (k2, 64, .inl (fun _ => 0))), (h6, .inr (6, [.ref h7, .int 0])), (h7, .inl (k3, 64, .inl (fun _ => 0))), (h8, .inr (6, [.ref h9, .int 0])), (h9, .inl (k4, 64, .inl (fun _ => 0)))] := hD
  refine lv_iload_n hx hb dX3_copy_4 rfl (lv_at hl 2 rfl) ?_
  have hPc := hP.sub (ws' := []) [] rfl
  have hDc := hD.sub (ws' := []) [] (by decide) rfl
  have hKc := hK.sub (tys' := []) [] rfl
  have hFc := va_free (wc := []) hD hS hA [] rfl
  refine va_callv (va_runS (As := [.int 1]) (rest := []) ⟨hx, hb, hml, hown, hts⟩ (kx_X3_needRope_1 l dC dI H.size) (cwS 1 hts gX3_copy_X3_needRope rfl rfl rfl (by decide +kernel) ⟨Nat.le_of_ble_eq_true rfl, Nat.le_of_ble_eq_true rfl⟩) ⟨fun a U g mk q => by obtain ⟨q0, q1, qP, qK, qD⟩ := q; exact ⟨q0, q1, qP, va_K.moved (u := U) (U := U.calling g mk a) (Vm.Alike.refl U.vm) qK, qD⟩, fun U hU hW => ⟨rfl, by rw [hU], by rw [hU]; exact hPc, va_K.moved hW.alike hKc, hDc.weaken (fun _ _ _ _ => trivial)⟩⟩ rfl rfl hl.1 rfl (lv_room (Nat.le_of_ble_eq_true rfl)) dX3_copy_5 ⟨Nat.le_of_ble_eq_true rfl, Nat.le_of_ble_eq_true rfl⟩) hS (fun q _ h => hFc q h) hFc (fun u t H1 locs ht hvm hw hB hz1 hk1 hS => ?_)
  obtain ⟨hP1, hK1, hD1⟩ := hB
  rw [ht] at hP1
  have hK1 := va_K.moved hvm.symm hK1
  obtain ⟨hP, hD⟩ := va_join (wr := [(h0, .inr (7, [.ref h1, .ref z0, .ref z1, .ref z2, .ref z3, .ref z4, .int 0, .int 0, .int 0])), (h1, .inl (k0, 4, .inr (.inr (.inr (.inr (va_up (va_up (va_up (va_up (fun _ => none) 0 (some h2)) 1 (some h4)) 2 (some h6)) 3 (some h8))))))), (h2, .inr (6, [.ref h3, .int 0])), (h3, .inl (k1, 64, .inl (fun _ => 0))), (h4, .inr (6, [.ref h5, .int 0])), (h5, .inl (k2, 64, .inl (fun _ => 0))), (h6, .inr (6, [.ref h7, .int 0])), (h7, .inl (k3, 64, .inl (fun _ => 0))), (h8, .inr (6, [.ref h9, .int 0])), (h9, .inl (k4, 64, .inl (fun _ => 0)))]) (w1 := []) hP hD [] [0, 1, 2, 3, 4, 5, 6, 7, 8, 9] rfl rfl (by decide) (by decide) hk1 hFc hP1 hD1
  generalize H1 = H at hP hS ⊢
  have hP : va_P (dC, dI) vwCl [(h0, .inr (7, [.ref h1, .ref z0, .ref z1, .ref z2, .ref z3, .ref z4, .int 0, .int 0, .int 0])), (h1, .inl (k0, 4, .inr (.inr (.inr (.inr (va_up (va_up (va_up (va_up (fun _ => none) 0 (some h2)) 1 (some h4)) 2 (some h6)) 3 (some h8))))))), (h2, .inr (6, [.ref h3, .int 0])), (h3, .inl (k1, 64, .inl (fun _ => 0))), (h4, .inr (6, [.ref h5, .int 0])), (h5, .inl (k2, 64, .inl (fun _ => 0))), (h6, .inr (6, [.ref h7, .int 0])), (h7, .inl (k3, 64, .inl (fun _ => 0))), (h8, .inr (6, [.ref h9, .int 0])), (h9, .inl (k4, 64, .inl (fun _ => 0)))] H := hP
  have hD : va_D A [(h0, .inr (7, [.ref h1, .ref z0, .ref z1, .ref z2, .ref z3, .ref z4, .int 0, .int 0, .int 0])), (h1, .inl (k0, 4, .inr (.inr (.inr (.inr (va_up (va_up (va_up (va_up (fun _ => none) 0 (some h2)) 1 (some h4)) 2 (some h6)) 3 (some h8))))))), (h2, .inr (6, [.ref h3, .int 0])), (h3, .inl (k1, 64, .inl (fun _ => 0))), (h4, .inr (6, [.ref h5, .int 0])), (h5, .inl (k2, 64, .inl (fun _ => 0))), (h6, .inr (6, [.ref h7, .int 0])), (h7, .inl (k3, 64, .inl (fun _ => 0))), (h8, .inr (6, [.ref h9, .int 0])), (h9, .inl (k4, 64, .inl (fun _ => 0)))] := hD
  refine lv_aload_n hx hb dX3_copy_8 rfl (lv_at hl 0 rfl) ?_
  refine va_get (D := (dC, dI)) (ci := 7) (v := .ref h1) (C := RX3) (T := TX3) (N := 9) hx hb hts (by decide +kernel) hown hK hP 0 rfl rfl 0 (by decide) (hts (.fieldLink RX3 11 "Rewriterope" "ropes" "[LRewriterope$Text;") (by decide +kernel)) (fun _ h9 => h9) rfl dX3_copy_9 ?_
  refine lv_iload_n hx hb dX3_copy_12 rfl (lv_at hl 1 rfl) ?_
  refine va_aldq (D := (dC, dI)) hx hb hK hP 1 0 rfl rfl (by unfold vp_in; decide) dX3_copy_13 ?_
  refine W.eq (g2 := F0 m 14 ls [.ref h8]) rfl ?_
  refine lv_aload_n hx hb dX3_copy_14 rfl (lv_at hl 0 rfl) ?_
  refine va_get (D := (dC, dI)) (ci := 7) (v := .ref h1) (C := RX3) (T := TX3) (N := 9) hx hb hts (by decide +kernel) hown hK hP 0 rfl rfl 0 (by decide) (hts (.fieldLink RX3 11 "Rewriterope" "ropes" "[LRewriterope$Text;") (by decide +kernel)) (fun _ h9 => h9) rfl dX3_copy_15 ?_
  refine lv_iload_n hx hb dX3_copy_18 rfl (lv_at hl 2 rfl) ?_
  refine va_aldq (D := (dC, dI)) hx hb hK hP 1 0 rfl rfl (by unfold vp_in; decide) dX3_copy_19 ?_
  refine W.eq (g2 := F0 m 20 ls [.ref h4, .ref h8]) rfl ?_
  have hPc := hP.sub (ws' := [(h4, .inr (6, [.ref h5, .int 0])), (h5, .inl (k2, 64, .inl (fun _ => 0))), (h8, .inr (6, [.ref h9, .int 0])), (h9, .inl (k4, 64, .inl (fun _ => 0)))]) [4, 5, 8, 9] rfl
  have hDc := hD.sub (ws' := [(h4, .inr (6, [.ref h5, .int 0])), (h5, .inl (k2, 64, .inl (fun _ => 0))), (h8, .inr (6, [.ref h9, .int 0])), (h9, .inl (k4, 64, .inl (fun _ => 0)))]) [4, 5, 8, 9] (by decide) rfl
  have hKc := hK.sub (tys' := [(k2, .byte), (k4, .byte)]) [2, 4] rfl
  have hFc := va_free (wc := [(h4, .inr (6, [.ref h5, .int 0])), (h5, .inl (k2, 64, .inl (fun _ => 0))), (h8, .inr (6, [.ref h9, .int 0])), (h9, .inl (k4, 64, .inl (fun _ => 0)))]) hD hS hA [4, 5, 8, 9] rfl
  refine va_callv (va_runV (As := [.ref h4]) (rest := []) ⟨hx, hb, hml, hown, hts⟩ (kx_X2_become_2 l dC dI h4 h5 h8 h9 k2 k4 H.size) (cwV 1 hts gX3_copy_X2_become rfl rfl rfl (by decide +kernel) ⟨Nat.le_of_ble_eq_true rfl, Nat.le_of_ble_eq_true rfl⟩) ⟨fun a U g mk q => by obtain ⟨q0, q1, qP, qK, qD⟩ := q; exact ⟨q0, q1, qP, va_K.moved (u := U) (U := U.calling g mk a) (Vm.Alike.refl U.vm) qK, qD⟩, va_recv hKc hPc (ci := 6) (q0 := 2) rfl rfl, fun U hU hW => ⟨rfl, by rw [hU], by rw [hU]; exact hPc, va_K.moved hW.alike hKc, hDc.weaken (fun _ _ _ _ => trivial)⟩⟩ rfl rfl hl.1 rfl (lv_room (Nat.le_of_ble_eq_true rfl)) dX3_copy_20 ⟨Nat.le_of_ble_eq_true rfl, Nat.le_of_ble_eq_true rfl⟩) hS (fun q _ h => hFc q h) hFc (fun u t H1 locs ht hvm hw hB hz1 hk1 hS => ?_)
  obtain ⟨hP1, hK1, hD1⟩ := hB
  rw [ht] at hP1
  have hK1 := va_K.moved hvm.symm hK1
  obtain ⟨hP, hD⟩ := va_join (wr := [(h0, .inr (7, [.ref h1, .ref z0, .ref z1, .ref z2, .ref z3, .ref z4, .int 0, .int 0, .int 0])), (h1, .inl (k0, 4, .inr (.inr (.inr (.inr (va_up (va_up (va_up (va_up (fun _ => none) 0 (some h2)) 1 (some h4)) 2 (some h6)) 3 (some h8))))))), (h2, .inr (6, [.ref h3, .int 0])), (h3, .inl (k1, 64, .inl (fun _ => 0))), (h6, .inr (6, [.ref h7, .int 0])), (h7, .inl (k3, 64, .inl (fun _ => 0)))]) (w1 := [(h4, .inr (6, [.ref h5, .int 0])), (h5, .inl (k2, 64, .inl (fun _ => 0))), (h8, .inr (6, [.ref h9, .int 0])), (h9, .inl (k4, 64, .inl (fun _ => 0)))]) hP hD [4, 5, 8, 9] [0, 1, 2, 3, 6, 7] rfl rfl (by decide) (by decide) hk1 hFc hP1 hD1
  generalize H1 = H at hP hS ⊢
  have hP : va_P (dC, dI) vwCl [(h0, .inr (7, [.ref h1, .ref z0, .ref z1, .ref z2, .ref z3, .ref z4, .int 0, .int 0, .int 0])), (h1, .inl (k0, 4, .inr (.inr (.inr (.inr (va_up (va_up (va_up (va_up (fun _ => none) 0 (some h2)) 1 (some h4)) 2 (some h6)) 3 (some h8))))))), (h2, .inr (6, [.ref h3, .int 0])), (h3, .inl (k1, 64, .inl (fun _ => 0))), (h6, .inr (6, [.ref h7, .int 0])), (h7, .inl (k3, 64, .inl (fun _ => 0))), (h4, .inr (6, [.ref h5, .int 0])), (h5, .inl (k2, 64, .inl (fun _ => 0))), (h8, .inr (6, [.ref h9, .int 0])), (h9, .inl (k4, 64, .inl (fun _ => 0)))] H := hP
  have hD : va_D A [(h0, .inr (7, [.ref h1, .ref z0, .ref z1, .ref z2, .ref z3, .ref z4, .int 0, .int 0, .int 0])), (h1, .inl (k0, 4, .inr (.inr (.inr (.inr (va_up (va_up (va_up (va_up (fun _ => none) 0 (some h2)) 1 (some h4)) 2 (some h6)) 3 (some h8))))))), (h2, .inr (6, [.ref h3, .int 0])), (h3, .inl (k1, 64, .inl (fun _ => 0))), (h6, .inr (6, [.ref h7, .int 0])), (h7, .inl (k3, 64, .inl (fun _ => 0))), (h4, .inr (6, [.ref h5, .int 0])), (h5, .inl (k2, 64, .inl (fun _ => 0))), (h8, .inr (6, [.ref h9, .int 0])), (h9, .inl (k4, 64, .inl (fun _ => 0)))] := hD
  refine lv_aload_n hx hb dX3_copy_23 rfl (lv_at hl 0 rfl) ?_
  refine va_get (D := (dC, dI)) (ci := 7) (v := .ref h1) (C := RX3) (T := TX3) (N := 9) hx hb hts (by decide +kernel) hown hK hP 0 rfl rfl 0 (by decide) (hts (.fieldLink RX3 11 "Rewriterope" "ropes" "[LRewriterope$Text;") (by decide +kernel)) (fun _ h9 => h9) rfl dX3_copy_24 ?_
  refine lv_iload_n hx hb dX3_copy_27 rfl (lv_at hl 1 rfl) ?_
  refine va_aldq (D := (dC, dI)) hx hb hK hP 1 0 rfl rfl (by unfold vp_in; decide) dX3_copy_28 ?_
  refine W.eq (g2 := F0 m 29 ls [.ref h8]) rfl ?_
  refine va_get (D := (dC, dI)) (ci := 6) (v := .int 0) (C := RX2) (T := TX2) (N := 2) hx hb hts (by decide +kernel) hown hK hP 8 rfl rfl 1 (by decide) (hts (.fieldLink RX3 65 "Rewriterope$Text" "length" "I") (by decide +kernel)) (fun _ h9 => h9) rfl dX3_copy_29 ?_
  have hP := hP.sub (ws' := [(h0, .inr (7, [.ref h1, .ref z0, .ref z1, .ref z2, .ref z3, .ref z4, .int 0, .int 0, .int 0])), (h1, .inl (k0, 4, .inr (.inr (.inr (.inr (va_up (va_up (va_up (va_up (fun _ => none) 0 (some h2)) 1 (some h4)) 2 (some h6)) 3 (some h8))))))), (h2, .inr (6, [.ref h3, .int 0])), (h3, .inl (k1, 64, .inl (fun _ => 0))), (h4, .inr (6, [.ref h5, .int 0])), (h5, .inl (k2, 64, .inl (fun _ => 0))), (h6, .inr (6, [.ref h7, .int 0])), (h7, .inl (k3, 64, .inl (fun _ => 0))), (h8, .inr (6, [.ref h9, .int 0])), (h9, .inl (k4, 64, .inl (fun _ => 0)))]) [0, 1, 2, 3, 6, 7, 4, 5, 8, 9] rfl
  have hD := hD.sub (ws' := [(h0, .inr (7, [.ref h1, .ref z0, .ref z1, .ref z2, .ref z3, .ref z4, .int 0, .int 0, .int 0])), (h1, .inl (k0, 4, .inr (.inr (.inr (.inr (va_up (va_up (va_up (va_up (fun _ => none) 0 (some h2)) 1 (some h4)) 2 (some h6)) 3 (some h8))))))), (h2, .inr (6, [.ref h3, .int 0])), (h3, .inl (k1, 64, .inl (fun _ => 0))), (h4, .inr (6, [.ref h5, .int 0])), (h5, .inl (k2, 64, .inl (fun _ => 0))), (h6, .inr (6, [.ref h7, .int 0])), (h7, .inl (k3, 64, .inl (fun _ => 0))), (h8, .inr (6, [.ref h9, .int 0])), (h9, .inl (k4, 64, .inl (fun _ => 0)))]) [0, 1, 2, 3, 6, 7, 4, 5, 8, 9] (by decide) rfl
  exact W.iret (v := 0) hx hb hr (fun t ht hW => ⟨⟨0, (), rfl, rfl, by rw [ht]; exact hP, va_K.moved hW.alike hK, hD⟩, hS.F ht⟩) hS.2.2 dX3_copy_32
set_option maxHeartbeats 4000000 in
set_option maxRecDepth 100000 in
theorem kx_X3_copy_14 (l : Launch) (dC : Nat → ClassId) (dI : Nat → Nat → Nat) (h0 : Nat) (h1 : Nat) (h2 : Nat) (h3 : Nat) (h4 : Nat) (h5 : Nat) (h6 : Nat) (h7 : Nat) (h8 : Nat) (h9 : Nat) (z0 : Nat) (z1 : Nat) (z2 : Nat) (z3 : Nat) (z4 : Nat) (k0 : ClassId) (k1 : ClassId) (k2 : ClassId) (k3 : ClassId) (k4 : ClassId) (sz : Nat) : Met l yX3_copy wsX3_copy ({ frames := 2, cells := 0, slots := 0, locals := 81 }) (va_Pc [.ref h0, .int 3, .int 2] (fun U => U.heap.size = sz ∧ va_P (dC, dI) vwCl [(h0, .inr (7, [.ref h1, .ref z0, .ref z1, .ref z2, .ref z3, .ref z4, .int 0, .int 0, .int 0])), (h1, .inl (k0, 4, .inr (.inr (.inr (.inr (va_up (va_up (va_up (va_up (fun _ => none) 0 (some h2)) 1 (some h4)) 2 (some h6)) 3 (some h8))))))), (h2, .inr (6, [.ref h3, .int 0])), (h3, .inl (k1, 64, .inl (fun _ => 0))), (h4, .inr (6, [.ref h5, .int 0])), (h5, .inl (k2, 64, .inl (fun _ => 0))), (h6, .inr (6, [.ref h7, .int 0])), (h7, .inl (k3, 64, .inl (fun _ => 0))), (h8, .inr (6, [.ref h9, .int 0])), (h9, .inl (k4, 64, .inl (fun _ => 0)))] U.heap ∧ va_K (dC, dI) vwCl [(k0, .object "Rewriterope$Text"), (k1, .byte), (k2, .byte), (k3, .byte), (k4, .byte)] U ∧ va_D (fun _ => True) [(h0, .inr (7, [.ref h1, .ref z0, .ref z1, .ref z2, .ref z3, .ref z4, .int 0, .int 0, .int 0])), (h1, .inl (k0, 4, .inr (.inr (.inr (.inr (va_up (va_up (va_up (va_up (fun _ => none) 0 (some h2)) 1 (some h4)) 2 (some h6)) 3 (some h8))))))), (h2, .inr (6, [.ref h3, .int 0])), (h3, .inl (k1, 64, .inl (fun _ => 0))), (h4, .inr (6, [.ref h5, .int 0])), (h5, .inl (k2, 64, .inl (fun _ => 0))), (h6, .inr (6, [.ref h7, .int 0])), (h7, .inl (k3, 64, .inl (fun _ => 0))), (h8, .inr (6, [.ref h9, .int 0])), (h9, .inl (k4, 64, .inl (fun _ => 0)))])) (va_Qi (fun (r : Int32) (_ : Unit) => r = 0) (fun (_ : Unit) (t : State) => va_P (dC, dI) vwCl [(h0, .inr (7, [.ref h1, .ref z0, .ref z1, .ref z2, .ref z3, .ref z4, .int 0, .int 0, .int 0])), (h1, .inl (k0, 4, .inr (.inr (.inr (.inr (va_up (va_up (va_up (va_up (fun _ => none) 0 (some h2)) 1 (some h4)) 2 (some h6)) 3 (some h8))))))), (h2, .inr (6, [.ref h3, .int 0])), (h3, .inl (k1, 64, .inl (fun _ => 0))), (h4, .inr (6, [.ref h5, .int 0])), (h5, .inl (k2, 64, .inl (fun _ => 0))), (h6, .inr (6, [.ref h7, .int 0])), (h7, .inl (k3, 64, .inl (fun _ => 0))), (h8, .inr (6, [.ref h9, .int 0])), (h9, .inl (k4, 64, .inl (fun _ => 0)))] t.heap ∧ va_K (dC, dI) vwCl [(k0, .object "Rewriterope$Text"), (k1, .byte), (k2, .byte), (k3, .byte), (k4, .byte)] t ∧ va_D (va_A [(h0, .inr (7, [.ref h1, .ref z0, .ref z1, .ref z2, .ref z3, .ref z4, .int 0, .int 0, .int 0])), (h1, .inl (k0, 4, .inr (.inr (.inr (.inr (va_up (va_up (va_up (va_up (fun _ => none) 0 (some h2)) 1 (some h4)) 2 (some h6)) 3 (some h8))))))), (h2, .inr (6, [.ref h3, .int 0])), (h3, .inl (k1, 64, .inl (fun _ => 0))), (h4, .inr (6, [.ref h5, .int 0])), (h5, .inl (k2, 64, .inl (fun _ => 0))), (h6, .inr (6, [.ref h7, .int 0])), (h7, .inl (k3, 64, .inl (fun _ => 0))), (h8, .inr (6, [.ref h9, .int 0])), (h9, .inl (k4, 64, .inl (fun _ => 0)))] sz) [(h0, .inr (7, [.ref h1, .ref z0, .ref z1, .ref z2, .ref z3, .ref z4, .int 0, .int 0, .int 0])), (h1, .inl (k0, 4, .inr (.inr (.inr (.inr (va_up (va_up (va_up (va_up (fun _ => none) 0 (some h2)) 1 (some h4)) 2 (some h6)) 3 (some h8))))))), (h2, .inr (6, [.ref h3, .int 0])), (h3, .inl (k1, 64, .inl (fun _ => 0))), (h4, .inr (6, [.ref h5, .int 0])), (h5, .inl (k2, 64, .inl (fun _ => 0))), (h6, .inr (6, [.ref h7, .int 0])), (h7, .inl (k3, 64, .inl (fun _ => 0))), (h8, .inr (6, [.ref h9, .int 0])), (h9, .inl (k4, 64, .inl (fun _ => 0)))]) (va_A [(h0, .inr (7, [.ref h1, .ref z0, .ref z1, .ref z2, .ref z3, .ref z4, .int 0, .int 0, .int 0])), (h1, .inl (k0, 4, .inr (.inr (.inr (.inr (va_up (va_up (va_up (va_up (fun _ => none) 0 (some h2)) 1 (some h4)) 2 (some h6)) 3 (some h8))))))), (h2, .inr (6, [.ref h3, .int 0])), (h3, .inl (k1, 64, .inl (fun _ => 0))), (h4, .inr (6, [.ref h5, .int 0])), (h5, .inl (k2, 64, .inl (fun _ => 0))), (h6, .inr (6, [.ref h7, .int 0])), (h7, .inl (k3, 64, .inl (fun _ => 0))), (h8, .inr (6, [.ref h9, .int 0])), (h9, .inl (k4, 64, .inl (fun _ => 0)))] sz)) 0 0 (va_A [(h0, .inr (7, [.ref h1, .ref z0, .ref z1, .ref z2, .ref z3, .ref z4, .int 0, .int 0, .int 0])), (h1, .inl (k0, 4, .inr (.inr (.inr (.inr (va_up (va_up (va_up (va_up (fun _ => none) 0 (some h2)) 1 (some h4)) 2 (some h6)) 3 (some h8))))))), (h2, .inr (6, [.ref h3, .int 0])), (h3, .inl (k1, 64, .inl (fun _ => 0))), (h4, .inr (6, [.ref h5, .int 0])), (h5, .inl (k2, 64, .inl (fun _ => 0))), (h6, .inr (6, [.ref h7, .int 0])), (h7, .inl (k3, 64, .inl (fun _ => 0))), (h8, .inr (6, [.ref h9, .int 0])), (h9, .inl (k4, 64, .inl (fun _ => 0)))] sz) := by
  refine Met.ofW (cc := cX3_copy) (maxL := 3) (ret := (some .int)) (by decide) rfl ?_
  intro p e s m args below meth c s₁ B hml hv
  obtain ⟨rfl, hsz, hP, hK, hD0⟩ := hv
  have hx := B.exec
  have hb := B.bytes
  have hr := B.returns
  have hts := atoms_spec (ws := wsX3_copy) B.pre
  have hown : s.vm.findClass RX3 = some m.cls := findClass_of_methodNamed B.named
  have hlocks := B.notSynchronized
  subst hsz
  have hD := hD0.self (sz := s.heap.size)
  generalize hAe : va_A [(h0, .inr (7, [.ref h1, .ref z0, .ref z1, .ref z2, .ref z3, .ref z4, .int 0, .int 0, .int 0])), (h1, .inl (k0, 4, .inr (.inr (.inr (.inr (va_up (va_up (va_up (va_up (fun _ => none) 0 (some h2)) 1 (some h4)) 2 (some h6)) 3 (some h8))))))), (h2, .inr (6, [.ref h3, .int 0])), (h3, .inl (k1, 64, .inl (fun _ => 0))), (h4, .inr (6, [.ref h5, .int 0])), (h5, .inl (k2, 64, .inl (fun _ => 0))), (h6, .inr (6, [.ref h7, .int 0])), (h7, .inl (k3, 64, .inl (fun _ => 0))), (h8, .inr (6, [.ref h9, .int 0])), (h9, .inl (k4, 64, .inl (fun _ => 0)))] s.heap.size = A at hD ⊢
  have hA : ∀ q : Nat, s.heap.size ≤ q → A q := fun q h => by rw [← hAe]; exact Or.inr h
  have hS : va_S A s.heap s.heap [] := va_S.rf
  have hP : va_P (dC, dI) vwCl [(h0, .inr (7, [.ref h1, .ref z0, .ref z1, .ref z2, .ref z3, .ref z4, .int 0, .int 0, .int 0])), (h1, .inl (k0, 4, .inr (.inr (.inr (.inr (va_up (va_up (va_up (va_up (fun _ => none) 0 (some h2)) 1 (some h4)) 2 (some h6)) 3 (some h8))))))), (h2, .inr (6, [.ref h3, .int 0])), (h3, .inl (k1, 64, .inl (fun _ => 0))), (h4, .inr (6, [.ref h5, .int 0])), (h5, .inl (k2, 64, .inl (fun _ => 0))), (h6, .inr (6, [.ref h7, .int 0])), (h7, .inl (k3, 64, .inl (fun _ => 0))), (h8, .inr (6, [.ref h9, .int 0])), (h9, .inl (k4, 64, .inl (fun _ => 0)))] s.heap := hP
  have hl := lv_entry ([.ref h0, .int 3, .int 2]) (n := 3) (Nat.le_of_ble_eq_true rfl)
  rw [lg_entry_eq]
  generalize (lg_sl ([.ref h0, .int 3, .int 2]) ++ List.replicate (3 - (lg_sl ([.ref h0, .int 3, .int 2])).length) Slot.unset).toArray = ls at hl ⊢
  have hl : lv_has ls 3 [(0, .ref h0), (1, .int 3), (2, .int 2)] := hl
  refine lv_iload_n hx hb dX3_copy_0 rfl (lv_at hl 1 rfl) ?_
  have hPc := hP.sub (ws' := []) [] rfl
  have hDc := hD.sub (ws' := []) [] (by decide) rfl
  have hKc := hK.sub (tys' := []) [] rfl
  have hFc := va_free (wc := []) hD hS hA [] rfl
  refine va_callv (va_runS (As := [.int 3]) (rest := []) ⟨hx, hb, hml, hown, hts⟩ (kx_X3_needRope_3 l dC dI s.heap.size) (cwS 1 hts gX3_copy_X3_needRope rfl rfl rfl (by decide +kernel) ⟨Nat.le_of_ble_eq_true rfl, Nat.le_of_ble_eq_true rfl⟩) ⟨fun a U g mk q => by obtain ⟨q0, q1, qP, qK, qD⟩ := q; exact ⟨q0, q1, qP, va_K.moved (u := U) (U := U.calling g mk a) (Vm.Alike.refl U.vm) qK, qD⟩, fun U hU hW => ⟨rfl, by rw [hU], by rw [hU]; exact hPc, va_K.moved hW.alike hKc, hDc.weaken (fun _ _ _ _ => trivial)⟩⟩ rfl rfl hl.1 rfl (lv_room (Nat.le_of_ble_eq_true rfl)) dX3_copy_1 ⟨Nat.le_of_ble_eq_true rfl, Nat.le_of_ble_eq_true rfl⟩) hS (fun q _ h => hFc q h) hFc (fun u t H1 locs ht hvm hw hB hz1 hk1 hS => ?_)
  obtain ⟨hP1, hK1, hD1⟩ := hB
  rw [ht] at hP1
  have hK1 := va_K.moved hvm.symm hK1
  obtain ⟨hP, hD⟩ := va_join (wr := [(h0, .inr (7, [.ref h1, .ref z0, .ref z1, .ref z2, .ref z3, .ref z4, .int 0, .int 0, .int 0])), (h1, .inl (k0, 4, .inr (.inr (.inr (.inr (va_up (va_up (va_up (va_up (fun _ => none) 0 (some h2)) 1 (some h4)) 2 (some h6)) 3 (some h8))))))), (h2, .inr (6, [.ref h3, .int 0])), (h3, .inl (k1, 64, .inl (fun _ => 0))), (h4, .inr (6, [.ref h5, .int 0])), (h5, .inl (k2, 64, .inl (fun _ => 0))), (h6, .inr (6, [.ref h7, .int 0])), (h7, .inl (k3, 64, .inl (fun _ => 0))), (h8, .inr (6, [.ref h9, .int 0])), (h9, .inl (k4, 64, .inl (fun _ => 0)))]) (w1 := []) hP hD [] [0, 1, 2, 3, 4, 5, 6, 7, 8, 9] rfl rfl (by decide) (by decide) hk1 hFc hP1 hD1
  generalize H1 = H at hP hS ⊢
  have hP : va_P (dC, dI) vwCl [(h0, .inr (7, [.ref h1, .ref z0, .ref z1, .ref z2, .ref z3, .ref z4, .int 0, .int 0, .int 0])), (h1, .inl (k0, 4, .inr (.inr (.inr (.inr (va_up (va_up (va_up (va_up (fun _ => none) 0 (some h2)) 1 (some h4)) 2 (some h6)) 3 (some h8))))))), (h2, .inr (6, [.ref h3, .int 0])), (h3, .inl (k1, 64, .inl (fun _ => 0))), (h4, .inr (6, [.ref h5, .int 0])), (h5, .inl (k2, 64, .inl (fun _ => 0))), (h6, .inr (6, [.ref h7, .int 0])), (h7, .inl (k3, 64, .inl (fun _ => 0))), (h8, .inr (6, [.ref h9, .int 0])), (h9, .inl (k4, 64, .inl (fun _ => 0)))] H := hP
  have hD : va_D A [(h0, .inr (7, [.ref h1, .ref z0, .ref z1, .ref z2, .ref z3, .ref z4, .int 0, .int 0, .int 0])), (h1, .inl (k0, 4, .inr (.inr (.inr (.inr (va_up (va_up (va_up (va_up (fun _ => none) 0 (some h2)) 1 (some h4)) 2 (some h6)) 3 (some h8))))))), (h2, .inr (6, [.ref h3, .int 0])), (h3, .inl (k1, 64, .inl (fun _ => 0))), (h4, .inr (6, [.ref h5, .int 0])), (h5, .inl (k2, 64, .inl (fun _ => 0))), (h6, .inr (6, [.ref h7, .int 0])), (h7, .inl (k3, 64, .inl (fun _ => 0))), (h8, .inr (6, [.ref h9, .int 0])), (h9, .inl (k4, 64, .inl (fun _ => 0)))] := hD
  refine lv_iload_n hx hb dX3_copy_4 rfl (lv_at hl 2 rfl) ?_
  have hPc := hP.sub (ws' := []) [] rfl
  have hDc := hD.sub (ws' := []) [] (by decide) rfl
  have hKc := hK.sub (tys' := []) [] rfl
  have hFc := va_free (wc := []) hD hS hA [] rfl
  refine va_callv (va_runS (As := [.int 2]) (rest := []) ⟨hx, hb, hml, hown, hts⟩ (kx_X3_needRope_2 l dC dI H.size) (cwS 1 hts gX3_copy_X3_needRope rfl rfl rfl (by decide +kernel) ⟨Nat.le_of_ble_eq_true rfl, Nat.le_of_ble_eq_true rfl⟩) ⟨fun a U g mk q => by obtain ⟨q0, q1, qP, qK, qD⟩ := q; exact ⟨q0, q1, qP, va_K.moved (u := U) (U := U.calling g mk a) (Vm.Alike.refl U.vm) qK, qD⟩, fun U hU hW => ⟨rfl, by rw [hU], by rw [hU]; exact hPc, va_K.moved hW.alike hKc, hDc.weaken (fun _ _ _ _ => trivial)⟩⟩ rfl rfl hl.1 rfl (lv_room (Nat.le_of_ble_eq_true rfl)) dX3_copy_5 ⟨Nat.le_of_ble_eq_true rfl, Nat.le_of_ble_eq_true rfl⟩) hS (fun q _ h => hFc q h) hFc (fun u t H1 locs ht hvm hw hB hz1 hk1 hS => ?_)
  obtain ⟨hP1, hK1, hD1⟩ := hB
  rw [ht] at hP1
  have hK1 := va_K.moved hvm.symm hK1
  obtain ⟨hP, hD⟩ := va_join (wr := [(h0, .inr (7, [.ref h1, .ref z0, .ref z1, .ref z2, .ref z3, .ref z4, .int 0, .int 0, .int 0])), (h1, .inl (k0, 4, .inr (.inr (.inr (.inr (va_up (va_up (va_up (va_up (fun _ => none) 0 (some h2)) 1 (some h4)) 2 (some h6)) 3 (some h8))))))), (h2, .inr (6, [.ref h3, .int 0])), (h3, .inl (k1, 64, .inl (fun _ => 0))), (h4, .inr (6, [.ref h5, .int 0])), (h5, .inl (k2, 64, .inl (fun _ => 0))), (h6, .inr (6, [.ref h7, .int 0])), (h7, .inl (k3, 64, .inl (fun _ => 0))), (h8, .inr (6, [.ref h9, .int 0])), (h9, .inl (k4, 64, .inl (fun _ => 0)))]) (w1 := []) hP hD [] [0, 1, 2, 3, 4, 5, 6, 7, 8, 9] rfl rfl (by decide) (by decide) hk1 hFc hP1 hD1
  generalize H1 = H at hP hS ⊢
  have hP : va_P (dC, dI) vwCl [(h0, .inr (7, [.ref h1, .ref z0, .ref z1, .ref z2, .ref z3, .ref z4, .int 0, .int 0, .int 0])), (h1, .inl (k0, 4, .inr (.inr (.inr (.inr (va_up (va_up (va_up (va_up (fun _ => none) 0 (some h2)) 1 (some h4)) 2 (some h6)) 3 (some h8))))))), (h2, .inr (6, [.ref h3, .int 0])), (h3, .inl (k1, 64, .inl (fun _ => 0))), (h4, .inr (6, [.ref h5, .int 0])), (h5, .inl (k2, 64, .inl (fun _ => 0))), (h6, .inr (6, [.ref h7, .int 0])), (h7, .inl (k3, 64, .inl (fun _ => 0))), (h8, .inr (6, [.ref h9, .int 0])), (h9, .inl (k4, 64, .inl (fun _ => 0)))] H := hP
  have hD : va_D A [(h0, .inr (7, [.ref h1, .ref z0, .ref z1, .ref z2, .ref z3, .ref z4, .int 0, .int 0, .int 0])), (h1, .inl (k0, 4, .inr (.inr (.inr (.inr (va_up (va_up (va_up (va_up (fun _ => none) 0 (some h2)) 1 (some h4)) 2 (some h6)) 3 (some h8))))))), (h2, .inr (6, [.ref h3, .int 0])), (h3, .inl (k1, 64, .inl (fun _ => 0))), (h4, .inr (6, [.ref h5, .int 0])), (h5, .inl (k2, 64, .inl (fun _ => 0))), (h6, .inr (6, [.ref h7, .int 0])), (h7, .inl (k3, 64, .inl (fun _ => 0))), (h8, .inr (6, [.ref h9, .int 0])), (h9, .inl (k4, 64, .inl (fun _ => 0)))] := hD
  refine lv_aload_n hx hb dX3_copy_8 rfl (lv_at hl 0 rfl) ?_
  refine va_get (D := (dC, dI)) (ci := 7) (v := .ref h1) (C := RX3) (T := TX3) (N := 9) hx hb hts (by decide +kernel) hown hK hP 0 rfl rfl 0 (by decide) (hts (.fieldLink RX3 11 "Rewriterope" "ropes" "[LRewriterope$Text;") (by decide +kernel)) (fun _ h9 => h9) rfl dX3_copy_9 ?_
  refine lv_iload_n hx hb dX3_copy_12 rfl (lv_at hl 1 rfl) ?_
  refine va_aldq (D := (dC, dI)) hx hb hK hP 1 0 rfl rfl (by unfold vp_in; decide) dX3_copy_13 ?_
  refine W.eq (g2 := F0 m 14 ls [.ref h8]) rfl ?_
  refine lv_aload_n hx hb dX3_copy_14 rfl (lv_at hl 0 rfl) ?_
  refine va_get (D := (dC, dI)) (ci := 7) (v := .ref h1) (C := RX3) (T := TX3) (N := 9) hx hb hts (by decide +kernel) hown hK hP 0 rfl rfl 0 (by decide) (hts (.fieldLink RX3 11 "Rewriterope" "ropes" "[LRewriterope$Text;") (by decide +kernel)) (fun _ h9 => h9) rfl dX3_copy_15 ?_
  refine lv_iload_n hx hb dX3_copy_18 rfl (lv_at hl 2 rfl) ?_
  refine va_aldq (D := (dC, dI)) hx hb hK hP 1 0 rfl rfl (by unfold vp_in; decide) dX3_copy_19 ?_
  refine W.eq (g2 := F0 m 20 ls [.ref h6, .ref h8]) rfl ?_
  have hPc := hP.sub (ws' := [(h6, .inr (6, [.ref h7, .int 0])), (h7, .inl (k3, 64, .inl (fun _ => 0))), (h8, .inr (6, [.ref h9, .int 0])), (h9, .inl (k4, 64, .inl (fun _ => 0)))]) [6, 7, 8, 9] rfl
  have hDc := hD.sub (ws' := [(h6, .inr (6, [.ref h7, .int 0])), (h7, .inl (k3, 64, .inl (fun _ => 0))), (h8, .inr (6, [.ref h9, .int 0])), (h9, .inl (k4, 64, .inl (fun _ => 0)))]) [6, 7, 8, 9] (by decide) rfl
  have hKc := hK.sub (tys' := [(k3, .byte), (k4, .byte)]) [3, 4] rfl
  have hFc := va_free (wc := [(h6, .inr (6, [.ref h7, .int 0])), (h7, .inl (k3, 64, .inl (fun _ => 0))), (h8, .inr (6, [.ref h9, .int 0])), (h9, .inl (k4, 64, .inl (fun _ => 0)))]) hD hS hA [6, 7, 8, 9] rfl
  refine va_callv (va_runV (As := [.ref h6]) (rest := []) ⟨hx, hb, hml, hown, hts⟩ (kx_X2_become_2 l dC dI h6 h7 h8 h9 k3 k4 H.size) (cwV 1 hts gX3_copy_X2_become rfl rfl rfl (by decide +kernel) ⟨Nat.le_of_ble_eq_true rfl, Nat.le_of_ble_eq_true rfl⟩) ⟨fun a U g mk q => by obtain ⟨q0, q1, qP, qK, qD⟩ := q; exact ⟨q0, q1, qP, va_K.moved (u := U) (U := U.calling g mk a) (Vm.Alike.refl U.vm) qK, qD⟩, va_recv hKc hPc (ci := 6) (q0 := 2) rfl rfl, fun U hU hW => ⟨rfl, by rw [hU], by rw [hU]; exact hPc, va_K.moved hW.alike hKc, hDc.weaken (fun _ _ _ _ => trivial)⟩⟩ rfl rfl hl.1 rfl (lv_room (Nat.le_of_ble_eq_true rfl)) dX3_copy_20 ⟨Nat.le_of_ble_eq_true rfl, Nat.le_of_ble_eq_true rfl⟩) hS (fun q _ h => hFc q h) hFc (fun u t H1 locs ht hvm hw hB hz1 hk1 hS => ?_)
  obtain ⟨hP1, hK1, hD1⟩ := hB
  rw [ht] at hP1
  have hK1 := va_K.moved hvm.symm hK1
  obtain ⟨hP, hD⟩ := va_join (wr := [(h0, .inr (7, [.ref h1, .ref z0, .ref z1, .ref z2, .ref z3, .ref z4, .int 0, .int 0, .int 0])), (h1, .inl (k0, 4, .inr (.inr (.inr (.inr (va_up (va_up (va_up (va_up (fun _ => none) 0 (some h2)) 1 (some h4)) 2 (some h6)) 3 (some h8))))))), (h2, .inr (6, [.ref h3, .int 0])), (h3, .inl (k1, 64, .inl (fun _ => 0))), (h4, .inr (6, [.ref h5, .int 0])), (h5, .inl (k2, 64, .inl (fun _ => 0)))]) (w1 := [(h6, .inr (6, [.ref h7, .int 0])), (h7, .inl (k3, 64, .inl (fun _ => 0))), (h8, .inr (6, [.ref h9, .int 0])), (h9, .inl (k4, 64, .inl (fun _ => 0)))]) hP hD [6, 7, 8, 9] [0, 1, 2, 3, 4, 5] rfl rfl (by decide) (by decide) hk1 hFc hP1 hD1
  generalize H1 = H at hP hS ⊢
  have hP : va_P (dC, dI) vwCl [(h0, .inr (7, [.ref h1, .ref z0, .ref z1, .ref z2, .ref z3, .ref z4, .int 0, .int 0, .int 0])), (h1, .inl (k0, 4, .inr (.inr (.inr (.inr (va_up (va_up (va_up (va_up (fun _ => none) 0 (some h2)) 1 (some h4)) 2 (some h6)) 3 (some h8))))))), (h2, .inr (6, [.ref h3, .int 0])), (h3, .inl (k1, 64, .inl (fun _ => 0))), (h4, .inr (6, [.ref h5, .int 0])), (h5, .inl (k2, 64, .inl (fun _ => 0))), (h6, .inr (6, [.ref h7, .int 0])), (h7, .inl (k3, 64, .inl (fun _ => 0))), (h8, .inr (6, [.ref h9, .int 0])), (h9, .inl (k4, 64, .inl (fun _ => 0)))] H := hP
  have hD : va_D A [(h0, .inr (7, [.ref h1, .ref z0, .ref z1, .ref z2, .ref z3, .ref z4, .int 0, .int 0, .int 0])), (h1, .inl (k0, 4, .inr (.inr (.inr (.inr (va_up (va_up (va_up (va_up (fun _ => none) 0 (some h2)) 1 (some h4)) 2 (some h6)) 3 (some h8))))))), (h2, .inr (6, [.ref h3, .int 0])), (h3, .inl (k1, 64, .inl (fun _ => 0))), (h4, .inr (6, [.ref h5, .int 0])), (h5, .inl (k2, 64, .inl (fun _ => 0))), (h6, .inr (6, [.ref h7, .int 0])), (h7, .inl (k3, 64, .inl (fun _ => 0))), (h8, .inr (6, [.ref h9, .int 0])), (h9, .inl (k4, 64, .inl (fun _ => 0)))] := hD
  refine lv_aload_n hx hb dX3_copy_23 rfl (lv_at hl 0 rfl) ?_
  refine va_get (D := (dC, dI)) (ci := 7) (v := .ref h1) (C := RX3) (T := TX3) (N := 9) hx hb hts (by decide +kernel) hown hK hP 0 rfl rfl 0 (by decide) (hts (.fieldLink RX3 11 "Rewriterope" "ropes" "[LRewriterope$Text;") (by decide +kernel)) (fun _ h9 => h9) rfl dX3_copy_24 ?_
  refine lv_iload_n hx hb dX3_copy_27 rfl (lv_at hl 1 rfl) ?_
  refine va_aldq (D := (dC, dI)) hx hb hK hP 1 0 rfl rfl (by unfold vp_in; decide) dX3_copy_28 ?_
  refine W.eq (g2 := F0 m 29 ls [.ref h8]) rfl ?_
  refine va_get (D := (dC, dI)) (ci := 6) (v := .int 0) (C := RX2) (T := TX2) (N := 2) hx hb hts (by decide +kernel) hown hK hP 8 rfl rfl 1 (by decide) (hts (.fieldLink RX3 65 "Rewriterope$Text" "length" "I") (by decide +kernel)) (fun _ h9 => h9) rfl dX3_copy_29 ?_
  exact W.iret (v := 0) hx hb hr (fun t ht hW => ⟨⟨0, (), rfl, rfl, by rw [ht]; exact hP, va_K.moved hW.alike hK, hD⟩, hS.F ht⟩) hS.2.2 dX3_copy_32
set_option maxHeartbeats 4000000 in
set_option maxRecDepth 100000 in
theorem kx_X3_copy_15 (l : Launch) (dC : Nat → ClassId) (dI : Nat → Nat → Nat) (h0 : Nat) (h1 : Nat) (h2 : Nat) (h3 : Nat) (h4 : Nat) (h5 : Nat) (h6 : Nat) (h7 : Nat) (h8 : Nat) (h9 : Nat) (z0 : Nat) (z1 : Nat) (z2 : Nat) (z3 : Nat) (z4 : Nat) (k0 : ClassId) (k1 : ClassId) (k2 : ClassId) (k3 : ClassId) (k4 : ClassId) (sz : Nat) : Met l yX3_copy wsX3_copy ({ frames := 2, cells := 0, slots := 0, locals := 81 }) (va_Pc [.ref h0, .int 3, .int 3] (fun U => U.heap.size = sz ∧ va_P (dC, dI) vwCl [(h0, .inr (7, [.ref h1, .ref z0, .ref z1, .ref z2, .ref z3, .ref z4, .int 0, .int 0, .int 0])), (h1, .inl (k0, 4, .inr (.inr (.inr (.inr (va_up (va_up (va_up (va_up (fun _ => none) 0 (some h2)) 1 (some h4)) 2 (some h6)) 3 (some h8))))))), (h2, .inr (6, [.ref h3, .int 0])), (h3, .inl (k1, 64, .inl (fun _ => 0))), (h4, .inr (6, [.ref h5, .int 0])), (h5, .inl (k2, 64, .inl (fun _ => 0))), (h6, .inr (6, [.ref h7, .int 0])), (h7, .inl (k3, 64, .inl (fun _ => 0))), (h8, .inr (6, [.ref h9, .int 0])), (h9, .inl (k4, 64, .inl (fun _ => 0)))] U.heap ∧ va_K (dC, dI) vwCl [(k0, .object "Rewriterope$Text"), (k1, .byte), (k2, .byte), (k3, .byte), (k4, .byte)] U ∧ va_D (fun _ => True) [(h0, .inr (7, [.ref h1, .ref z0, .ref z1, .ref z2, .ref z3, .ref z4, .int 0, .int 0, .int 0])), (h1, .inl (k0, 4, .inr (.inr (.inr (.inr (va_up (va_up (va_up (va_up (fun _ => none) 0 (some h2)) 1 (some h4)) 2 (some h6)) 3 (some h8))))))), (h2, .inr (6, [.ref h3, .int 0])), (h3, .inl (k1, 64, .inl (fun _ => 0))), (h4, .inr (6, [.ref h5, .int 0])), (h5, .inl (k2, 64, .inl (fun _ => 0))), (h6, .inr (6, [.ref h7, .int 0])), (h7, .inl (k3, 64, .inl (fun _ => 0))), (h8, .inr (6, [.ref h9, .int 0])), (h9, .inl (k4, 64, .inl (fun _ => 0)))])) (va_Qi (fun (r : Int32) (_ : Unit) => r = 0) (fun (_ : Unit) (t : State) => va_P (dC, dI) vwCl [(h0, .inr (7, [.ref h1, .ref z0, .ref z1, .ref z2, .ref z3, .ref z4, .int 0, .int 0, .int 0])), (h1, .inl (k0, 4, .inr (.inr (.inr (.inr (va_up (va_up (va_up (va_up (fun _ => none) 0 (some h2)) 1 (some h4)) 2 (some h6)) 3 (some h8))))))), (h2, .inr (6, [.ref h3, .int 0])), (h3, .inl (k1, 64, .inl (fun _ => 0))), (h4, .inr (6, [.ref h5, .int 0])), (h5, .inl (k2, 64, .inl (fun _ => 0))), (h6, .inr (6, [.ref h7, .int 0])), (h7, .inl (k3, 64, .inl (fun _ => 0))), (h8, .inr (6, [.ref h9, .int 0])), (h9, .inl (k4, 64, .inl (fun _ => 0)))] t.heap ∧ va_K (dC, dI) vwCl [(k0, .object "Rewriterope$Text"), (k1, .byte), (k2, .byte), (k3, .byte), (k4, .byte)] t ∧ va_D (va_A [(h0, .inr (7, [.ref h1, .ref z0, .ref z1, .ref z2, .ref z3, .ref z4, .int 0, .int 0, .int 0])), (h1, .inl (k0, 4, .inr (.inr (.inr (.inr (va_up (va_up (va_up (va_up (fun _ => none) 0 (some h2)) 1 (some h4)) 2 (some h6)) 3 (some h8))))))), (h2, .inr (6, [.ref h3, .int 0])), (h3, .inl (k1, 64, .inl (fun _ => 0))), (h4, .inr (6, [.ref h5, .int 0])), (h5, .inl (k2, 64, .inl (fun _ => 0))), (h6, .inr (6, [.ref h7, .int 0])), (h7, .inl (k3, 64, .inl (fun _ => 0))), (h8, .inr (6, [.ref h9, .int 0])), (h9, .inl (k4, 64, .inl (fun _ => 0)))] sz) [(h0, .inr (7, [.ref h1, .ref z0, .ref z1, .ref z2, .ref z3, .ref z4, .int 0, .int 0, .int 0])), (h1, .inl (k0, 4, .inr (.inr (.inr (.inr (va_up (va_up (va_up (va_up (fun _ => none) 0 (some h2)) 1 (some h4)) 2 (some h6)) 3 (some h8))))))), (h2, .inr (6, [.ref h3, .int 0])), (h3, .inl (k1, 64, .inl (fun _ => 0))), (h4, .inr (6, [.ref h5, .int 0])), (h5, .inl (k2, 64, .inl (fun _ => 0))), (h6, .inr (6, [.ref h7, .int 0])), (h7, .inl (k3, 64, .inl (fun _ => 0))), (h8, .inr (6, [.ref h9, .int 0])), (h9, .inl (k4, 64, .inl (fun _ => 0)))]) (va_A [(h0, .inr (7, [.ref h1, .ref z0, .ref z1, .ref z2, .ref z3, .ref z4, .int 0, .int 0, .int 0])), (h1, .inl (k0, 4, .inr (.inr (.inr (.inr (va_up (va_up (va_up (va_up (fun _ => none) 0 (some h2)) 1 (some h4)) 2 (some h6)) 3 (some h8))))))), (h2, .inr (6, [.ref h3, .int 0])), (h3, .inl (k1, 64, .inl (fun _ => 0))), (h4, .inr (6, [.ref h5, .int 0])), (h5, .inl (k2, 64, .inl (fun _ => 0))), (h6, .inr (6, [.ref h7, .int 0])), (h7, .inl (k3, 64, .inl (fun _ => 0))), (h8, .inr (6, [.ref h9, .int 0])), (h9, .inl (k4, 64, .inl (fun _ => 0)))] sz)) 0 0 (va_A [(h0, .inr (7, [.ref h1, .ref z0, .ref z1, .ref z2, .ref z3, .ref z4, .int 0, .int 0, .int 0])), (h1, .inl (k0, 4, .inr (.inr (.inr (.inr (va_up (va_up (va_up (va_up (fun _ => none) 0 (some h2)) 1 (some h4)) 2 (some h6)) 3 (some h8))))))), (h2, .inr (6, [.ref h3, .int 0])), (h3, .inl (k1, 64, .inl (fun _ => 0))), (h4, .inr (6, [.ref h5, .int 0])), (h5, .inl (k2, 64, .inl (fun _ => 0))), (h6, .inr (6, [.ref h7, .int 0])), (h7, .inl (k3, 64, .inl (fun _ => 0))), (h8, .inr (6, [.ref h9, .int 0])), (h9, .inl (k4, 64, .inl (fun _ => 0)))] sz) := by
  refine Met.ofW (cc := cX3_copy) (maxL := 3) (ret := (some .int)) (by decide) rfl ?_
  intro p e s m args below meth c s₁ B hml hv
  obtain ⟨rfl, hsz, hP, hK, hD0⟩ := hv
  have hx := B.exec
  have hb := B.bytes
  have hr := B.returns
  have hts := atoms_spec (ws := wsX3_copy) B.pre
  have hown : s.vm.findClass RX3 = some m.cls := findClass_of_methodNamed B.named
  have hlocks := B.notSynchronized
  subst hsz
  have hD := hD0.self (sz := s.heap.size)
  generalize hAe : va_A [(h0, .inr (7, [.ref h1, .ref z0, .ref z1, .ref z2, .ref z3, .ref z4, .int 0, .int 0, .int 0])), (h1, .inl (k0, 4, .inr (.inr (.inr (.inr (va_up (va_up (va_up (va_up (fun _ => none) 0 (some h2)) 1 (some h4)) 2 (some h6)) 3 (some h8))))))), (h2, .inr (6, [.ref h3, .int 0])), (h3, .inl (k1, 64, .inl (fun _ => 0))), (h4, .inr (6, [.ref h5, .int 0])), (h5, .inl (k2, 64, .inl (fun _ => 0))), (h6, .inr (6, [.ref h7, .int 0])), (h7, .inl (k3, 64, .inl (fun _ => 0))), (h8, .inr (6, [.ref h9, .int 0])), (h9, .inl (k4, 64, .inl (fun _ => 0)))] s.heap.size = A at hD ⊢
  have hA : ∀ q : Nat, s.heap.size ≤ q → A q := fun q h => by rw [← hAe]; exact Or.inr h
  have hS : va_S A s.heap s.heap [] := va_S.rf
  have hP : va_P (dC, dI) vwCl [(h0, .inr (7, [.ref h1, .ref z0, .ref z1, .ref z2, .ref z3, .ref z4, .int 0, .int 0, .int 0])), (h1, .inl (k0, 4, .inr (.inr (.inr (.inr (va_up (va_up (va_up (va_up (fun _ => none) 0 (some h2)) 1 (some h4)) 2 (some h6)) 3 (some h8))))))), (h2, .inr (6, [.ref h3, .int 0])), (h3, .inl (k1, 64, .inl (fun _ => 0))), (h4, .inr (6, [.ref h5, .int 0])), (h5, .inl (k2, 64, .inl (fun _ => 0))), (h6, .inr (6, [.ref h7, .int 0])), (h7, .inl (k3, 64, .inl (fun _ => 0))), (h8, .inr (6, [.ref h9, .int 0])), (h9, .inl (k4, 64, .inl (fun _ => 0)))] s.heap := hP
  have hl := lv_entry ([.ref h0, .int 3, .int 3]) (n := 3) (Nat.le_of_ble_eq_true rfl)
  rw [lg_entry_eq]
  generalize (lg_sl ([.ref h0, .int 3, .int 3]) ++ List.replicate (3 - (lg_sl ([.ref h0, .int 3, .int 3])).length) Slot.unset).toArray = ls at hl ⊢
  have hl : lv_has ls 3 [(0, .ref h0), (1, .int 3), (2, .int 3)] := hl
  refine lv_iload_n hx hb dX3_copy_0 rfl (lv_at hl 1 rfl) ?_
  have hPc := hP.sub (ws' := []) [] rfl
  have hDc := hD.sub (ws' := []) [] (by decide) rfl
  have hKc := hK.sub (tys' := []) [] rfl
  have hFc := va_free (wc := []) hD hS hA [] rfl
  refine va_callv (va_runS (As := [.int 3]) (rest := []) ⟨hx, hb, hml, hown, hts⟩ (kx_X3_needRope_3 l dC dI s.heap.size) (cwS 1 hts gX3_copy_X3_needRope rfl rfl rfl (by decide +kernel) ⟨Nat.le_of_ble_eq_true rfl, Nat.le_of_ble_eq_true rfl⟩) ⟨fun a U g mk q => by obtain ⟨q0, q1, qP, qK, qD⟩ := q; exact ⟨q0, q1, qP, va_K.moved (u := U) (U := U.calling g mk a) (Vm.Alike.refl U.vm) qK, qD⟩, fun U hU hW => ⟨rfl, by rw [hU], by rw [hU]; exact hPc, va_K.moved hW.alike hKc, hDc.weaken (fun _ _ _ _ => trivial)⟩⟩ rfl rfl hl.1 rfl (lv_room (Nat.le_of_ble_eq_true rfl)) dX3_copy_1 ⟨Nat.le_of_ble_eq_true rfl, Nat.le_of_ble_eq_true rfl⟩) hS (fun q _ h => hFc q h) hFc (fun u t H1 locs ht hvm hw hB hz1 hk1 hS => ?_)
  obtain ⟨hP1, hK1, hD1⟩ := hB
  rw [ht] at hP1
  have hK1 := va_K.moved hvm.symm hK1
  obtain ⟨hP, hD⟩ := va_join (wr := [(h0, .inr (7, [.ref h1, .ref z0, .ref z1, .ref z2, .ref z3, .ref z4, .int 0, .int 0, .int 0])), (h1, .inl (k0, 4, .inr (.inr (.inr (.inr (va_up (va_up (va_up (va_up (fun _ => none) 0 (some h2)) 1 (some h4)) 2 (some h6)) 3 (some h8))))))), (h2, .inr (6, [.ref h3, .int 0])), (h3, .inl (k1, 64, .inl (fun _ => 0))), (h4, .inr (6, [.ref h5, .int 0])), (h5, .inl (k2, 64, .inl (fun _ => 0))), (h6, .inr (6, [.ref h7, .int 0])), (h7, .inl (k3, 64, .inl (fun _ => 0))), (h8, .inr (6, [.ref h9, .int 0])), (h9, .inl (k4, 64, .inl (fun _ => 0)))]) (w1 := []) hP hD [] [0, 1, 2, 3, 4, 5, 6, 7, 8, 9] rfl rfl (by decide) (by decide) hk1 hFc hP1 hD1
  generalize H1 = H at hP hS ⊢
  have hP : va_P (dC, dI) vwCl [(h0, .inr (7, [.ref h1, .ref z0, .ref z1, .ref z2, .ref z3, .ref z4, .int 0, .int 0, .int 0])), (h1, .inl (k0, 4, .inr (.inr (.inr (.inr (va_up (va_up (va_up (va_up (fun _ => none) 0 (some h2)) 1 (some h4)) 2 (some h6)) 3 (some h8))))))), (h2, .inr (6, [.ref h3, .int 0])), (h3, .inl (k1, 64, .inl (fun _ => 0))), (h4, .inr (6, [.ref h5, .int 0])), (h5, .inl (k2, 64, .inl (fun _ => 0))), (h6, .inr (6, [.ref h7, .int 0])), (h7, .inl (k3, 64, .inl (fun _ => 0))), (h8, .inr (6, [.ref h9, .int 0])), (h9, .inl (k4, 64, .inl (fun _ => 0)))] H := hP
  have hD : va_D A [(h0, .inr (7, [.ref h1, .ref z0, .ref z1, .ref z2, .ref z3, .ref z4, .int 0, .int 0, .int 0])), (h1, .inl (k0, 4, .inr (.inr (.inr (.inr (va_up (va_up (va_up (va_up (fun _ => none) 0 (some h2)) 1 (some h4)) 2 (some h6)) 3 (some h8))))))), (h2, .inr (6, [.ref h3, .int 0])), (h3, .inl (k1, 64, .inl (fun _ => 0))), (h4, .inr (6, [.ref h5, .int 0])), (h5, .inl (k2, 64, .inl (fun _ => 0))), (h6, .inr (6, [.ref h7, .int 0])), (h7, .inl (k3, 64, .inl (fun _ => 0))), (h8, .inr (6, [.ref h9, .int 0])), (h9, .inl (k4, 64, .inl (fun _ => 0)))] := hD
  refine lv_iload_n hx hb dX3_copy_4 rfl (lv_at hl 2 rfl) ?_
  have hPc := hP.sub (ws' := []) [] rfl
  have hDc := hD.sub (ws' := []) [] (by decide) rfl
  have hKc := hK.sub (tys' := []) [] rfl
  have hFc := va_free (wc := []) hD hS hA [] rfl
  refine va_callv (va_runS (As := [.int 3]) (rest := []) ⟨hx, hb, hml, hown, hts⟩ (kx_X3_needRope_3 l dC dI H.size) (cwS 1 hts gX3_copy_X3_needRope rfl rfl rfl (by decide +kernel) ⟨Nat.le_of_ble_eq_true rfl, Nat.le_of_ble_eq_true rfl⟩) ⟨fun a U g mk q => by obtain ⟨q0, q1, qP, qK, qD⟩ := q; exact ⟨q0, q1, qP, va_K.moved (u := U) (U := U.calling g mk a) (Vm.Alike.refl U.vm) qK, qD⟩, fun U hU hW => ⟨rfl, by rw [hU], by rw [hU]; exact hPc, va_K.moved hW.alike hKc, hDc.weaken (fun _ _ _ _ => trivial)⟩⟩ rfl rfl hl.1 rfl (lv_room (Nat.le_of_ble_eq_true rfl)) dX3_copy_5 ⟨Nat.le_of_ble_eq_true rfl, Nat.le_of_ble_eq_true rfl⟩) hS (fun q _ h => hFc q h) hFc (fun u t H1 locs ht hvm hw hB hz1 hk1 hS => ?_)
  obtain ⟨hP1, hK1, hD1⟩ := hB
  rw [ht] at hP1
  have hK1 := va_K.moved hvm.symm hK1
  obtain ⟨hP, hD⟩ := va_join (wr := [(h0, .inr (7, [.ref h1, .ref z0, .ref z1, .ref z2, .ref z3, .ref z4, .int 0, .int 0, .int 0])), (h1, .inl (k0, 4, .inr (.inr (.inr (.inr (va_up (va_up (va_up (va_up (fun _ => none) 0 (some h2)) 1 (some h4)) 2 (some h6)) 3 (some h8))))))), (h2, .inr (6, [.ref h3, .int 0])), (h3, .inl (k1, 64, .inl (fun _ => 0))), (h4, .inr (6, [.ref h5, .int 0])), (h5, .inl (k2, 64, .inl (fun _ => 0))), (h6, .inr (6, [.ref h7, .int 0])), (h7, .inl (k3, 64, .inl (fun _ => 0))), (h8, .inr (6, [.ref h9, .int 0])), (h9, .inl (k4, 64, .inl (fun _ => 0)))]) (w1 := []) hP hD [] [0, 1, 2, 3, 4, 5, 6, 7, 8, 9] rfl rfl (by decide) (by decide) hk1 hFc hP1 hD1
  generalize H1 = H at hP hS ⊢
  have hP : va_P (dC, dI) vwCl [(h0, .inr (7, [.ref h1, .ref z0, .ref z1, .ref z2, .ref z3, .ref z4, .int 0, .int 0, .int 0])), (h1, .inl (k0, 4, .inr (.inr (.inr (.inr (va_up (va_up (va_up (va_up (fun _ => none) 0 (some h2)) 1 (some h4)) 2 (some h6)) 3 (some h8))))))), (h2, .inr (6, [.ref h3, .int 0])), (h3, .inl (k1, 64, .inl (fun _ => 0))), (h4, .inr (6, [.ref h5, .int 0])), (h5, .inl (k2, 64, .inl (fun _ => 0))), (h6, .inr (6, [.ref h7, .int 0])), (h7, .inl (k3, 64, .inl (fun _ => 0))), (h8, .inr (6, [.ref h9, .int 0])), (h9, .inl (k4, 64, .inl (fun _ => 0)))] H := hP
  have hD : va_D A [(h0, .inr (7, [.ref h1, .ref z0, .ref z1, .ref z2, .ref z3, .ref z4, .int 0, .int 0, .int 0])), (h1, .inl (k0, 4, .inr (.inr (.inr (.inr (va_up (va_up (va_up (va_up (fun _ => none) 0 (some h2)) 1 (some h4)) 2 (some h6)) 3 (some h8))))))), (h2, .inr (6, [.ref h3, .int 0])), (h3, .inl (k1, 64, .inl (fun _ => 0))), (h4, .inr (6, [.ref h5, .int 0])), (h5, .inl (k2, 64, .inl (fun _ => 0))), (h6, .inr (6, [.ref h7, .int 0])), (h7, .inl (k3, 64, .inl (fun _ => 0))), (h8, .inr (6, [.ref h9, .int 0])), (h9, .inl (k4, 64, .inl (fun _ => 0)))] := hD
  refine lv_aload_n hx hb dX3_copy_8 rfl (lv_at hl 0 rfl) ?_
  refine va_get (D := (dC, dI)) (ci := 7) (v := .ref h1) (C := RX3) (T := TX3) (N := 9) hx hb hts (by decide +kernel) hown hK hP 0 rfl rfl 0 (by decide) (hts (.fieldLink RX3 11 "Rewriterope" "ropes" "[LRewriterope$Text;") (by decide +kernel)) (fun _ h9 => h9) rfl dX3_copy_9 ?_
  refine lv_iload_n hx hb dX3_copy_12 rfl (lv_at hl 1 rfl) ?_
  refine va_aldq (D := (dC, dI)) hx hb hK hP 1 0 rfl rfl (by unfold vp_in; decide) dX3_copy_13 ?_
  refine W.eq (g2 := F0 m 14 ls [.ref h8]) rfl ?_
  refine lv_aload_n hx hb dX3_copy_14 rfl (lv_at hl 0 rfl) ?_
  refine va_get (D := (dC, dI)) (ci := 7) (v := .ref h1) (C := RX3) (T := TX3) (N := 9) hx hb hts (by decide +kernel) hown hK hP 0 rfl rfl 0 (by decide) (hts (.fieldLink RX3 11 "Rewriterope" "ropes" "[LRewriterope$Text;") (by decide +kernel)) (fun _ h9 => h9) rfl dX3_copy_15 ?_
  refine lv_iload_n hx hb dX3_copy_18 rfl (lv_at hl 2 rfl) ?_
  refine va_aldq (D := (dC, dI)) hx hb hK hP 1 0 rfl rfl (by unfold vp_in; decide) dX3_copy_19 ?_
  refine W.eq (g2 := F0 m 20 ls [.ref h8, .ref h8]) rfl ?_
  have hPc := hP.sub (ws' := [(h8, .inr (6, [.ref h9, .int 0])), (h9, .inl (k4, 64, .inl (fun _ => 0)))]) [8, 9] rfl
  have hDc := hD.sub (ws' := [(h8, .inr (6, [.ref h9, .int 0])), (h9, .inl (k4, 64, .inl (fun _ => 0)))]) [8, 9] (by decide) rfl
  have hKc := hK.sub (tys' := [(k4, .byte)]) [4] rfl
  have hFc := va_free (wc := [(h8, .inr (6, [.ref h9, .int 0])), (h9, .inl (k4, 64, .inl (fun _ => 0)))]) hD hS hA [8, 9] rfl
  refine va_callv (va_runV (As := [.ref h8]) (rest := []) ⟨hx, hb, hml, hown, hts⟩ (kx_X2_become_0 l dC dI h8 h9 k4 H.size) (cwV 1 hts gX3_copy_X2_become rfl rfl rfl (by decide +kernel) ⟨Nat.le_of_ble_eq_true rfl, Nat.le_of_ble_eq_true rfl⟩) ⟨fun a U g mk q => by obtain ⟨q0, q1, qP, qK, qD⟩ := q; exact ⟨q0, q1, qP, va_K.moved (u := U) (U := U.calling g mk a) (Vm.Alike.refl U.vm) qK, qD⟩, va_recv hKc hPc (ci := 6) (q0 := 0) rfl rfl, fun U hU hW => ⟨rfl, by rw [hU], by rw [hU]; exact hPc, va_K.moved hW.alike hKc, hDc.weaken (fun _ _ _ _ => trivial)⟩⟩ rfl rfl hl.1 rfl (lv_room (Nat.le_of_ble_eq_true rfl)) dX3_copy_20 ⟨Nat.le_of_ble_eq_true rfl, Nat.le_of_ble_eq_true rfl⟩) hS (fun q _ h => hFc q h) hFc (fun u t H1 locs ht hvm hw hB hz1 hk1 hS => ?_)
  obtain ⟨hP1, hK1, hD1⟩ := hB
  rw [ht] at hP1
  have hK1 := va_K.moved hvm.symm hK1
  obtain ⟨hP, hD⟩ := va_join (wr := [(h0, .inr (7, [.ref h1, .ref z0, .ref z1, .ref z2, .ref z3, .ref z4, .int 0, .int 0, .int 0])), (h1, .inl (k0, 4, .inr (.inr (.inr (.inr (va_up (va_up (va_up (va_up (fun _ => none) 0 (some h2)) 1 (some h4)) 2 (some h6)) 3 (some h8))))))), (h2, .inr (6, [.ref h3, .int 0])), (h3, .inl (k1, 64, .inl (fun _ => 0))), (h4, .inr (6, [.ref h5, .int 0])), (h5, .inl (k2, 64, .inl (fun _ => 0))), (h6, .inr (6, [.ref h7, .int 0])), (h7, .inl (k3, 64, .inl (fun _ => 0)))]) (w1 := [(h8, .inr (6, [.ref h9, .int 0])), (h9, .inl (k4, 64, .inl (fun _ => 0)))]) hP hD [8, 9] [0, 1, 2, 3, 4, 5, 6, 7] rfl rfl (by decide) (by decide) hk1 hFc hP1 hD1
  generalize H1 = H at hP hS ⊢
  have hP : va_P (dC, dI) vwCl [(h0, .inr (7, [.ref h1, .ref z0, .ref z1, .ref z2, .ref z3, .ref z4, .int 0, .int 0, .int 0])), (h1, .inl (k0, 4, .inr (.inr (.inr (.inr (va_up (va_up (va_up (va_up (fun _ => none) 0 (some h2)) 1 (some h4)) 2 (some h6)) 3 (some h8))))))), (h2, .inr (6, [.ref h3, .int 0])), (h3, .inl (k1, 64, .inl (fun _ => 0))), (h4, .inr (6, [.ref h5, .int 0])), (h5, .inl (k2, 64, .inl (fun _ => 0))), (h6, .inr (6, [.ref h7, .int 0])), (h7, .inl (k3, 64, .inl (fun _ => 0))), (h8, .inr (6, [.ref h9, .int 0])), (h9, .inl (k4, 64, .inl (fun _ => 0)))] H := hP
  have hD : va_D A [(h0, .inr (7, [.ref h1, .ref z0, .ref z1, .ref z2, .ref z3, .ref z4, .int 0, .int 0, .int 0])), (h1, .inl (k0, 4, .inr (.inr (.inr (.inr (va_up (va_up (va_up (va_up (fun _ => none) 0 (some h2)) 1 (some h4)) 2 (some h6)) 3 (some h8))))))), (h2, .inr (6, [.ref h3, .int 0])), (h3, .inl (k1, 64, .inl (fun _ => 0))), (h4, .inr (6, [.ref h5, .int 0])), (h5, .inl (k2, 64, .inl (fun _ => 0))), (h6, .inr (6, [.ref h7, .int 0])), (h7, .inl (k3, 64, .inl (fun _ => 0))), (h8, .inr (6, [.ref h9, .int 0])), (h9, .inl (k4, 64, .inl (fun _ => 0)))] := hD
  refine lv_aload_n hx hb dX3_copy_23 rfl (lv_at hl 0 rfl) ?_
  refine va_get (D := (dC, dI)) (ci := 7) (v := .ref h1) (C := RX3) (T := TX3) (N := 9) hx hb hts (by decide +kernel) hown hK hP 0 rfl rfl 0 (by decide) (hts (.fieldLink RX3 11 "Rewriterope" "ropes" "[LRewriterope$Text;") (by decide +kernel)) (fun _ h9 => h9) rfl dX3_copy_24 ?_
  refine lv_iload_n hx hb dX3_copy_27 rfl (lv_at hl 1 rfl) ?_
  refine va_aldq (D := (dC, dI)) hx hb hK hP 1 0 rfl rfl (by unfold vp_in; decide) dX3_copy_28 ?_
  refine W.eq (g2 := F0 m 29 ls [.ref h8]) rfl ?_
  refine va_get (D := (dC, dI)) (ci := 6) (v := .int 0) (C := RX2) (T := TX2) (N := 2) hx hb hts (by decide +kernel) hown hK hP 8 rfl rfl 1 (by decide) (hts (.fieldLink RX3 65 "Rewriterope$Text" "length" "I") (by decide +kernel)) (fun _ h9 => h9) rfl dX3_copy_29 ?_
  exact W.iret (v := 0) hx hb hr (fun t ht hW => ⟨⟨0, (), rfl, rfl, by rw [ht]; exact hP, va_K.moved hW.alike hK, hD⟩, hS.F ht⟩) hS.2.2 dX3_copy_32
set_option maxHeartbeats 4000000 in
set_option maxRecDepth 100000 in
theorem kx_X3_copy_s3 (l : Launch) (dC : Nat → ClassId) (dI : Nat → Nat → Nat) (h0 : Nat) (h1 : Nat) (h2 : Nat) (h3 : Nat) (h4 : Nat) (h5 : Nat) (h6 : Nat) (h7 : Nat) (h8 : Nat) (h9 : Nat) (z0 : Nat) (z1 : Nat) (z2 : Nat) (z3 : Nat) (z4 : Nat) (k0 : ClassId) (k1 : ClassId) (k2 : ClassId) (k3 : ClassId) (k4 : ClassId) (sz : Nat) (j0 : Int32) (j0_l : (0 : Int) ≤ j0.toInt) (j0_u : j0.toInt ≤ (3 : Int)) : Met l yX3_copy wsX3_copy ({ frames := 2, cells := 0, slots := 0, locals := 81 }) (va_Pc [.ref h0, .int 3, .int j0] (fun U => U.heap.size = sz ∧ va_P (dC, dI) vwCl [(h0, .inr (7, [.ref h1, .ref z0, .ref z1, .ref z2, .ref z3, .ref z4, .int 0, .int 0, .int 0])), (h1, .inl (k0, 4, .inr (.inr (.inr (.inr (va_up (va_up (va_up (va_up (fun _ => none) 0 (some h2)) 1 (some h4)) 2 (some h6)) 3 (some h8))))))), (h2, .inr (6, [.ref h3, .int 0])), (h3, .inl (k1, 64, .inl (fun _ => 0))), (h4, .inr (6, [.ref h5, .int 0])), (h5, .inl (k2, 64, .inl (fun _ => 0))), (h6, .inr (6, [.ref h7, .int 0])), (h7, .inl (k3, 64, .inl (fun _ => 0))), (h8, .inr (6, [.ref h9, .int 0])), (h9, .inl (k4, 64, .inl (fun _ => 0)))] U.heap ∧ va_K (dC, dI) vwCl [(k0, .object "Rewriterope$Text"), (k1, .byte), (k2, .byte), (k3, .byte), (k4, .byte)] U ∧ va_D (fun _ => True) [(h0, .inr (7, [.ref h1, .ref z0, .ref z1, .ref z2, .ref z3, .ref z4, .int 0, .int 0, .int 0])), (h1, .inl (k0, 4, .inr (.inr (.inr (.inr (va_up (va_up (va_up (va_up (fun _ => none) 0 (some h2)) 1 (some h4)) 2 (some h6)) 3 (some h8))))))), (h2, .inr (6, [.ref h3, .int 0])), (h3, .inl (k1, 64, .inl (fun _ => 0))), (h4, .inr (6, [.ref h5, .int 0])), (h5, .inl (k2, 64, .inl (fun _ => 0))), (h6, .inr (6, [.ref h7, .int 0])), (h7, .inl (k3, 64, .inl (fun _ => 0))), (h8, .inr (6, [.ref h9, .int 0])), (h9, .inl (k4, 64, .inl (fun _ => 0)))])) (va_Qi (fun (r : Int32) (_ : Unit) => r = 0) (fun (_ : Unit) (t : State) => va_P (dC, dI) vwCl [(h0, .inr (7, [.ref h1, .ref z0, .ref z1, .ref z2, .ref z3, .ref z4, .int 0, .int 0, .int 0])), (h1, .inl (k0, 4, .inr (.inr (.inr (.inr (va_up (va_up (va_up (va_up (fun _ => none) 0 (some h2)) 1 (some h4)) 2 (some h6)) 3 (some h8))))))), (h2, .inr (6, [.ref h3, .int 0])), (h3, .inl (k1, 64, .inl (fun _ => 0))), (h4, .inr (6, [.ref h5, .int 0])), (h5, .inl (k2, 64, .inl (fun _ => 0))), (h6, .inr (6, [.ref h7, .int 0])), (h7, .inl (k3, 64, .inl (fun _ => 0))), (h8, .inr (6, [.ref h9, .int 0])), (h9, .inl (k4, 64, .inl (fun _ => 0)))] t.heap ∧ va_K (dC, dI) vwCl [(k0, .object "Rewriterope$Text"), (k1, .byte), (k2, .byte), (k3, .byte), (k4, .byte)] t ∧ va_D (va_A [(h0, .inr (7, [.ref h1, .ref z0, .ref z1, .ref z2, .ref z3, .ref z4, .int 0, .int 0, .int 0])), (h1, .inl (k0, 4, .inr (.inr (.inr (.inr (va_up (va_up (va_up (va_up (fun _ => none) 0 (some h2)) 1 (some h4)) 2 (some h6)) 3 (some h8))))))), (h2, .inr (6, [.ref h3, .int 0])), (h3, .inl (k1, 64, .inl (fun _ => 0))), (h4, .inr (6, [.ref h5, .int 0])), (h5, .inl (k2, 64, .inl (fun _ => 0))), (h6, .inr (6, [.ref h7, .int 0])), (h7, .inl (k3, 64, .inl (fun _ => 0))), (h8, .inr (6, [.ref h9, .int 0])), (h9, .inl (k4, 64, .inl (fun _ => 0)))] sz) [(h0, .inr (7, [.ref h1, .ref z0, .ref z1, .ref z2, .ref z3, .ref z4, .int 0, .int 0, .int 0])), (h1, .inl (k0, 4, .inr (.inr (.inr (.inr (va_up (va_up (va_up (va_up (fun _ => none) 0 (some h2)) 1 (some h4)) 2 (some h6)) 3 (some h8))))))), (h2, .inr (6, [.ref h3, .int 0])), (h3, .inl (k1, 64, .inl (fun _ => 0))), (h4, .inr (6, [.ref h5, .int 0])), (h5, .inl (k2, 64, .inl (fun _ => 0))), (h6, .inr (6, [.ref h7, .int 0])), (h7, .inl (k3, 64, .inl (fun _ => 0))), (h8, .inr (6, [.ref h9, .int 0])), (h9, .inl (k4, 64, .inl (fun _ => 0)))]) (va_A [(h0, .inr (7, [.ref h1, .ref z0, .ref z1, .ref z2, .ref z3, .ref z4, .int 0, .int 0, .int 0])), (h1, .inl (k0, 4, .inr (.inr (.inr (.inr (va_up (va_up (va_up (va_up (fun _ => none) 0 (some h2)) 1 (some h4)) 2 (some h6)) 3 (some h8))))))), (h2, .inr (6, [.ref h3, .int 0])), (h3, .inl (k1, 64, .inl (fun _ => 0))), (h4, .inr (6, [.ref h5, .int 0])), (h5, .inl (k2, 64, .inl (fun _ => 0))), (h6, .inr (6, [.ref h7, .int 0])), (h7, .inl (k3, 64, .inl (fun _ => 0))), (h8, .inr (6, [.ref h9, .int 0])), (h9, .inl (k4, 64, .inl (fun _ => 0)))] sz)) 0 0 (va_A [(h0, .inr (7, [.ref h1, .ref z0, .ref z1, .ref z2, .ref z3, .ref z4, .int 0, .int 0, .int 0])), (h1, .inl (k0, 4, .inr (.inr (.inr (.inr (va_up (va_up (va_up (va_up (fun _ => none) 0 (some h2)) 1 (some h4)) 2 (some h6)) 3 (some h8))))))), (h2, .inr (6, [.ref h3, .int 0])), (h3, .inl (k1, 64, .inl (fun _ => 0))), (h4, .inr (6, [.ref h5, .int 0])), (h5, .inl (k2, 64, .inl (fun _ => 0))), (h6, .inr (6, [.ref h7, .int 0])), (h7, .inl (k3, 64, .inl (fun _ => 0))), (h8, .inr (6, [.ref h9, .int 0])), (h9, .inl (k4, 64, .inl (fun _ => 0)))] sz) := by
  have e9 : j0 = 0 ∨ j0 = 1 ∨ j0 = 2 ∨ j0 = 3 := by
    have h9 : j0.toInt = 0 ∨ j0.toInt = 1 ∨ j0.toInt = 2 ∨ j0.toInt = 3 := by omega
    rcases h9 with h9 | h9 | h9 | h9
    · exact Or.inl (Int32.toInt_inj.mp (h9.trans (by decide)))
    · exact Or.inr (Or.inl (Int32.toInt_inj.mp (h9.trans (by decide))))
    · exact Or.inr (Or.inr (Or.inl (Int32.toInt_inj.mp (h9.trans (by decide)))))
    · exact Or.inr (Or.inr (Or.inr (Int32.toInt_inj.mp (h9.trans (by decide)))))
  rcases e9 with rfl | rfl | rfl | rfl
  · exact kx_X3_copy_12 l dC dI h0 h1 h2 h3 h4 h5 h6 h7 h8 h9 z0 z1 z2 z3 z4 k0 k1 k2 k3 k4 sz
  · exact kx_X3_copy_13 l dC dI h0 h1 h2 h3 h4 h5 h6 h7 h8 h9 z0 z1 z2 z3 z4 k0 k1 k2 k3 k4 sz
  · exact kx_X3_copy_14 l dC dI h0 h1 h2 h3 h4 h5 h6 h7 h8 h9 z0 z1 z2 z3 z4 k0 k1 k2 k3 k4 sz
  · exact kx_X3_copy_15 l dC dI h0 h1 h2 h3 h4 h5 h6 h7 h8 h9 z0 z1 z2 z3 z4 k0 k1 k2 k3 k4 sz
set_option maxHeartbeats 4000000 in
set_option maxRecDepth 100000 in
theorem kx_X3_copy_s4 (l : Launch) (dC : Nat → ClassId) (dI : Nat → Nat → Nat) (h0 : Nat) (h1 : Nat) (h2 : Nat) (h3 : Nat) (h4 : Nat) (h5 : Nat) (h6 : Nat) (h7 : Nat) (h8 : Nat) (h9 : Nat) (z0 : Nat) (z1 : Nat) (z2 : Nat) (z3 : Nat) (z4 : Nat) (k0 : ClassId) (k1 : ClassId) (k2 : ClassId) (k3 : ClassId) (k4 : ClassId) (sz : Nat) (j0 : Int32) (j0_l : (0 : Int) ≤ j0.toInt) (j0_u : j0.toInt ≤ (3 : Int)) (j1 : Int32) (j1_l : (0 : Int) ≤ j1.toInt) (j1_u : j1.toInt ≤ (3 : Int)) : Met l yX3_copy wsX3_copy ({ frames := 2, cells := 0, slots := 0, locals := 81 }) (va_Pc [.ref h0, .int j1, .int j0] (fun U => U.heap.size = sz ∧ va_P (dC, dI) vwCl [(h0, .inr (7, [.ref h1, .ref z0, .ref z1, .ref z2, .ref z3, .ref z4, .int 0, .int 0, .int 0])), (h1, .inl (k0, 4, .inr (.inr (.inr (.inr (va_up (va_up (va_up (va_up (fun _ => none) 0 (some h2)) 1 (some h4)) 2 (some h6)) 3 (some h8))))))), (h2, .inr (6, [.ref h3, .int 0])), (h3, .inl (k1, 64, .inl (fun _ => 0))), (h4, .inr (6, [.ref h5, .int 0])), (h5, .inl (k2, 64, .inl (fun _ => 0))), (h6, .inr (6, [.ref h7, .int 0])), (h7, .inl (k3, 64, .inl (fun _ => 0))), (h8, .inr (6, [.ref h9, .int 0])), (h9, .inl (k4, 64, .inl (fun _ => 0)))] U.heap ∧ va_K (dC, dI) vwCl [(k0, .object "Rewriterope$Text"), (k1, .byte), (k2, .byte), (k3, .byte), (k4, .byte)] U ∧ va_D (fun _ => True) [(h0, .inr (7, [.ref h1, .ref z0, .ref z1, .ref z2, .ref z3, .ref z4, .int 0, .int 0, .int 0])), (h1, .inl (k0, 4, .inr (.inr (.inr (.inr (va_up (va_up (va_up (va_up (fun _ => none) 0 (some h2)) 1 (some h4)) 2 (some h6)) 3 (some h8))))))), (h2, .inr (6, [.ref h3, .int 0])), (h3, .inl (k1, 64, .inl (fun _ => 0))), (h4, .inr (6, [.ref h5, .int 0])), (h5, .inl (k2, 64, .inl (fun _ => 0))), (h6, .inr (6, [.ref h7, .int 0])), (h7, .inl (k3, 64, .inl (fun _ => 0))), (h8, .inr (6, [.ref h9, .int 0])), (h9, .inl (k4, 64, .inl (fun _ => 0)))])) (va_Qi (fun (r : Int32) (_ : Unit) => r = 0) (fun (_ : Unit) (t : State) => va_P (dC, dI) vwCl [(h0, .inr (7, [.ref h1, .ref z0, .ref z1, .ref z2, .ref z3, .ref z4, .int 0, .int 0, .int 0])), (h1, .inl (k0, 4, .inr (.inr (.inr (.inr (va_up (va_up (va_up (va_up (fun _ => none) 0 (some h2)) 1 (some h4)) 2 (some h6)) 3 (some h8))))))), (h2, .inr (6, [.ref h3, .int 0])), (h3, .inl (k1, 64, .inl (fun _ => 0))), (h4, .inr (6, [.ref h5, .int 0])), (h5, .inl (k2, 64, .inl (fun _ => 0))), (h6, .inr (6, [.ref h7, .int 0])), (h7, .inl (k3, 64, .inl (fun _ => 0))), (h8, .inr (6, [.ref h9, .int 0])), (h9, .inl (k4, 64, .inl (fun _ => 0)))] t.heap ∧ va_K (dC, dI) vwCl [(k0, .object "Rewriterope$Text"), (k1, .byte), (k2, .byte), (k3, .byte), (k4, .byte)] t ∧ va_D (va_A [(h0, .inr (7, [.ref h1, .ref z0, .ref z1, .ref z2, .ref z3, .ref z4, .int 0, .int 0, .int 0])), (h1, .inl (k0, 4, .inr (.inr (.inr (.inr (va_up (va_up (va_up (va_up (fun _ => none) 0 (some h2)) 1 (some h4)) 2 (some h6)) 3 (some h8))))))), (h2, .inr (6, [.ref h3, .int 0])), (h3, .inl (k1, 64, .inl (fun _ => 0))), (h4, .inr (6, [.ref h5, .int 0])), (h5, .inl (k2, 64, .inl (fun _ => 0))), (h6, .inr (6, [.ref h7, .int 0])), (h7, .inl (k3, 64, .inl (fun _ => 0))), (h8, .inr (6, [.ref h9, .int 0])), (h9, .inl (k4, 64, .inl (fun _ => 0)))] sz) [(h0, .inr (7, [.ref h1, .ref z0, .ref z1, .ref z2, .ref z3, .ref z4, .int 0, .int 0, .int 0])), (h1, .inl (k0, 4, .inr (.inr (.inr (.inr (va_up (va_up (va_up (va_up (fun _ => none) 0 (some h2)) 1 (some h4)) 2 (some h6)) 3 (some h8))))))), (h2, .inr (6, [.ref h3, .int 0])), (h3, .inl (k1, 64, .inl (fun _ => 0))), (h4, .inr (6, [.ref h5, .int 0])), (h5, .inl (k2, 64, .inl (fun _ => 0))), (h6, .inr (6, [.ref h7, .int 0])), (h7, .inl (k3, 64, .inl (fun _ => 0))), (h8, .inr (6, [.ref h9, .int 0])), (h9, .inl (k4, 64, .inl (fun _ => 0)))]) (va_A [(h0, .inr (7, [.ref h1, .ref z0, .ref z1, .ref z2, .ref z3, .ref z4, .int 0, .int 0, .int 0])), (h1, .inl (k0, 4, .inr (.inr (.inr (.inr (va_up (va_up (va_up (va_up (fun _ => none) 0 (some h2)) 1 (some h4)) 2 (some h6)) 3 (some h8))))))), (h2, .inr (6, [.ref h3, .int 0])), (h3, .inl (k1, 64, .inl (fun _ => 0))), (h4, .inr (6, [.ref h5, .int 0])), (h5, .inl (k2, 64, .inl (fun _ => 0))), (h6, .inr (6, [.ref h7, .int 0])), (h7, .inl (k3, 64, .inl (fun _ => 0))), (h8, .inr (6, [.ref h9, .int 0])), (h9, .inl (k4, 64, .inl (fun _ => 0)))] sz)) 0 0 (va_A [(h0, .inr (7, [.ref h1, .ref z0, .ref z1, .ref z2, .ref z3, .ref z4, .int 0, .int 0, .int 0])), (h1, .inl (k0, 4, .inr (.inr (.inr (.inr (va_up (va_up (va_up (va_up (fun _ => none) 0 (some h2)) 1 (some h4)) 2 (some h6)) 3 (some h8))))))), (h2, .inr (6, [.ref h3, .int 0])), (h3, .inl (k1, 64, .inl (fun _ => 0))), (h4, .inr (6, [.ref h5, .int 0])), (h5, .inl (k2, 64, .inl (fun _ => 0))), (h6, .inr (6, [.ref h7, .int 0])), (h7, .inl (k3, 64, .inl (fun _ => 0))), (h8, .inr (6, [.ref h9, .int 0])), (h9, .inl (k4, 64, .inl (fun _ => 0)))] sz) := by
  have e9 : j1 = 0 ∨ j1 = 1 ∨ j1 = 2 ∨ j1 = 3 := by
    have h9 : j1.toInt = 0 ∨ j1.toInt = 1 ∨ j1.toInt = 2 ∨ j1.toInt = 3 := by omega
    rcases h9 with h9 | h9 | h9 | h9
    · exact Or.inl (Int32.toInt_inj.mp (h9.trans (by decide)))
    · exact Or.inr (Or.inl (Int32.toInt_inj.mp (h9.trans (by decide))))
    · exact Or.inr (Or.inr (Or.inl (Int32.toInt_inj.mp (h9.trans (by decide)))))
    · exact Or.inr (Or.inr (Or.inr (Int32.toInt_inj.mp (h9.trans (by decide)))))
  rcases e9 with rfl | rfl | rfl | rfl
  · exact kx_X3_copy_s0 l dC dI h0 h1 h2 h3 h4 h5 h6 h7 h8 h9 z0 z1 z2 z3 z4 k0 k1 k2 k3 k4 sz j0 j0_l j0_u
  · exact kx_X3_copy_s1 l dC dI h0 h1 h2 h3 h4 h5 h6 h7 h8 h9 z0 z1 z2 z3 z4 k0 k1 k2 k3 k4 sz j0 j0_l j0_u
  · exact kx_X3_copy_s2 l dC dI h0 h1 h2 h3 h4 h5 h6 h7 h8 h9 z0 z1 z2 z3 z4 k0 k1 k2 k3 k4 sz j0 j0_l j0_u
  · exact kx_X3_copy_s3 l dC dI h0 h1 h2 h3 h4 h5 h6 h7 h8 h9 z0 z1 z2 z3 z4 k0 k1 k2 k3 k4 sz j0 j0_l j0_u
set_option maxHeartbeats 4000000 in
set_option maxRecDepth 100000 in
theorem kx_L_copy_0 (l : Launch) (dC : Nat → ClassId) (dI : Nat → Nat → Nat) (ge5 gea gv5 gva gde gic gi0 : Nat) (h0 : Nat) (h1 : Nat) (h2 : Nat) (h3 : Nat) (h4 : Nat) (h5 : Nat) (h6 : Nat) (h7 : Nat) (h8 : Nat) (h9 : Nat) (h10 : Nat) (z0 : Nat) (z1 : Nat) (z2 : Nat) (z3 : Nat) (z4 : Nat) (k0 : ClassId) (k1 : ClassId) (k2 : ClassId) (k3 : ClassId) (k4 : ClassId) (sz : Nat) (i0 : Int32) (i0_l : (0 : Int) ≤ i0.toInt) (i0_u : i0.toInt ≤ (3 : Int)) (i1 : Int32) (i1_l : (0 : Int) ≤ i1.toInt) (i1_u : i1.toInt ≤ (3 : Int)) : Met l yL_copy wsL_copy ({ frames := 3, cells := 0, slots := 0, locals := 103 }) (va_Pc [.ref h0, .int i0, .int i1, .ref h10] (fun U => U.heap.size = sz ∧ va_P (dC, dI) vwCl [(h0, .inr (7, [.ref h1, .ref z0, .ref z1, .ref z2, .ref z3, .ref z4, .int 0, .int 0, .int 0])), (h1, .inl (k0, 4, .inr (.inr (.inr (.inr (va_up (va_up (va_up (va_up (fun _ => none) 0 (some h2)) 1 (some h4)) 2 (some h6)) 3 (some h8))))))), (h2, .inr (6, [.ref h3, .int 0])), (h3, .inl (k1, 64, .inl (fun _ => 0))), (h4, .inr (6, [.ref h5, .int 0])), (h5, .inl (k2, 64, .inl (fun _ => 0))), (h6, .inr (6, [.ref h7, .int 0])), (h7, .inl (k3, 64, .inl (fun _ => 0))), (h8, .inr (6, [.ref h9, .int 0])), (h9, .inl (k4, 64, .inl (fun _ => 0))), (h10, .inr (8, [.long 0, .null]))] U.heap ∧ va_K (dC, dI) vwCl [(k0, .object "Rewriterope$Text"), (k1, .byte), (k2, .byte), (k3, .byte), (k4, .byte)] U ∧ va_D (fun _ => True) [(h0, .inr (7, [.ref h1, .ref z0, .ref z1, .ref z2, .ref z3, .ref z4, .int 0, .int 0, .int 0])), (h1, .inl (k0, 4, .inr (.inr (.inr (.inr (va_up (va_up (va_up (va_up (fun _ => none) 0 (some h2)) 1 (some h4)) 2 (some h6)) 3 (some h8))))))), (h2, .inr (6, [.ref h3, .int 0])), (h3, .inl (k1, 64, .inl (fun _ => 0))), (h4, .inr (6, [.ref h5, .int 0])), (h5, .inl (k2, 64, .inl (fun _ => 0))), (h6, .inr (6, [.ref h7, .int 0])), (h7, .inl (k3, 64, .inl (fun _ => 0))), (h8, .inr (6, [.ref h9, .int 0])), (h9, .inl (k4, 64, .inl (fun _ => 0))), (h10, .inr (8, [.long 0, .null]))] ∧ gv ge5 gea gv5 gva gde gic gi0 (va_A [(h0, .inr (7, [.ref h1, .ref z0, .ref z1, .ref z2, .ref z3, .ref z4, .int 0, .int 0, .int 0])), (h1, .inl (k0, 4, .inr (.inr (.inr (.inr (va_up (va_up (va_up (va_up (fun _ => none) 0 (some h2)) 1 (some h4)) 2 (some h6)) 3 (some h8))))))), (h2, .inr (6, [.ref h3, .int 0])), (h3, .inl (k1, 64, .inl (fun _ => 0))), (h4, .inr (6, [.ref h5, .int 0])), (h5, .inl (k2, 64, .inl (fun _ => 0))), (h6, .inr (6, [.ref h7, .int 0])), (h7, .inl (k3, 64, .inl (fun _ => 0))), (h8, .inr (6, [.ref h9, .int 0])), (h9, .inl (k4, 64, .inl (fun _ => 0))), (h10, .inr (8, [.long 0, .null]))] sz) U U.heap)) (va_Qi (fun (r : Int32) (_ : Unit) => r = 0) (fun (_ : Unit) (t : State) => va_P (dC, dI) vwCl [(h0, .inr (7, [.ref h1, .ref z0, .ref z1, .ref z2, .ref z3, .ref z4, .int 0, .int 0, .int 0])), (h1, .inl (k0, 4, .inr (.inr (.inr (.inr (va_up (va_up (va_up (va_up (fun _ => none) 0 (some h2)) 1 (some h4)) 2 (some h6)) 3 (some h8))))))), (h2, .inr (6, [.ref h3, .int 0])), (h3, .inl (k1, 64, .inl (fun _ => 0))), (h4, .inr (6, [.ref h5, .int 0])), (h5, .inl (k2, 64, .inl (fun _ => 0))), (h6, .inr (6, [.ref h7, .int 0])), (h7, .inl (k3, 64, .inl (fun _ => 0))), (h8, .inr (6, [.ref h9, .int 0])), (h9, .inl (k4, 64, .inl (fun _ => 0))), (h10, .inr (8, [.long 0, .null]))] t.heap ∧ va_K (dC, dI) vwCl [(k0, .object "Rewriterope$Text"), (k1, .byte), (k2, .byte), (k3, .byte), (k4, .byte)] t ∧ va_D (va_A [(h0, .inr (7, [.ref h1, .ref z0, .ref z1, .ref z2, .ref z3, .ref z4, .int 0, .int 0, .int 0])), (h1, .inl (k0, 4, .inr (.inr (.inr (.inr (va_up (va_up (va_up (va_up (fun _ => none) 0 (some h2)) 1 (some h4)) 2 (some h6)) 3 (some h8))))))), (h2, .inr (6, [.ref h3, .int 0])), (h3, .inl (k1, 64, .inl (fun _ => 0))), (h4, .inr (6, [.ref h5, .int 0])), (h5, .inl (k2, 64, .inl (fun _ => 0))), (h6, .inr (6, [.ref h7, .int 0])), (h7, .inl (k3, 64, .inl (fun _ => 0))), (h8, .inr (6, [.ref h9, .int 0])), (h9, .inl (k4, 64, .inl (fun _ => 0))), (h10, .inr (8, [.long 0, .null]))] sz) [(h0, .inr (7, [.ref h1, .ref z0, .ref z1, .ref z2, .ref z3, .ref z4, .int 0, .int 0, .int 0])), (h1, .inl (k0, 4, .inr (.inr (.inr (.inr (va_up (va_up (va_up (va_up (fun _ => none) 0 (some h2)) 1 (some h4)) 2 (some h6)) 3 (some h8))))))), (h2, .inr (6, [.ref h3, .int 0])), (h3, .inl (k1, 64, .inl (fun _ => 0))), (h4, .inr (6, [.ref h5, .int 0])), (h5, .inl (k2, 64, .inl (fun _ => 0))), (h6, .inr (6, [.ref h7, .int 0])), (h7, .inl (k3, 64, .inl (fun _ => 0))), (h8, .inr (6, [.ref h9, .int 0])), (h9, .inl (k4, 64, .inl (fun _ => 0))), (h10, .inr (8, [.long 0, .null]))]) (va_A [(h0, .inr (7, [.ref h1, .ref z0, .ref z1, .ref z2, .ref z3, .ref z4, .int 0, .int 0, .int 0])), (h1, .inl (k0, 4, .inr (.inr (.inr (.inr (va_up (va_up (va_up (va_up (fun _ => none) 0 (some h2)) 1 (some h4)) 2 (some h6)) 3 (some h8))))))), (h2, .inr (6, [.ref h3, .int 0])), (h3, .inl (k1, 64, .inl (fun _ => 0))), (h4, .inr (6, [.ref h5, .int 0])), (h5, .inl (k2, 64, .inl (fun _ => 0))), (h6, .inr (6, [.ref h7, .int 0])), (h7, .inl (k3, 64, .inl (fun _ => 0))), (h8, .inr (6, [.ref h9, .int 0])), (h9, .inl (k4, 64, .inl (fun _ => 0))), (h10, .inr (8, [.long 0, .null]))] sz)) 0 0 (va_A [(h0, .inr (7, [.ref h1, .ref z0, .ref z1, .ref z2, .ref z3, .ref z4, .int 0, .int 0, .int 0])), (h1, .inl (k0, 4, .inr (.inr (.inr (.inr (va_up (va_up (va_up (va_up (fun _ => none) 0 (some h2)) 1 (some h4)) 2 (some h6)) 3 (some h8))))))), (h2, .inr (6, [.ref h3, .int 0])), (h3, .inl (k1, 64, .inl (fun _ => 0))), (h4, .inr (6, [.ref h5, .int 0])), (h5, .inl (k2, 64, .inl (fun _ => 0))), (h6, .inr (6, [.ref h7, .int 0])), (h7, .inl (k3, 64, .inl (fun _ => 0))), (h8, .inr (6, [.ref h9, .int 0])), (h9, .inl (k4, 64, .inl (fun _ => 0))), (h10, .inr (8, [.long 0, .null]))] sz) := by
  refine kz_ofWH (cc := cL_copy) (maxL := 5) (ret := (some .int)) (hh := [(0, 11, 14, 19)]) (by decide) rfl ?_
  intro p e s m args below meth c s₁ B hml hv
  obtain ⟨rfl, hsz, hP, hK, hD0, hG⟩ := hv
  have hx := B.exec
  have hb := B.bytes
  have hr := B.returns
  have hts := atoms_spec (ws := wsL_copy) B.pre
  have hown : s.vm.findClass RL = some m.cls := findClass_of_methodNamed B.named
  have htab := vx_table (x := yL_copy) B (hts (.codeWith yL_copy cL_copy 5 (some .int) [(0, 11, 14, 19)]) (by decide +kernel))
  have hlocks := B.notSynchronized
  subst hsz
  have hD := hD0.self (sz := s.heap.size)
  generalize hAe : va_A [(h0, .inr (7, [.ref h1, .ref z0, .ref z1, .ref z2, .ref z3, .ref z4, .int 0, .int 0, .int 0])), (h1, .inl (k0, 4, .inr (.inr (.inr (.inr (va_up (va_up (va_up (va_up (fun _ => none) 0 (some h2)) 1 (some h4)) 2 (some h6)) 3 (some h8))))))), (h2, .inr (6, [.ref h3, .int 0])), (h3, .inl (k1, 64, .inl (fun _ => 0))), (h4, .inr (6, [.ref h5, .int 0])), (h5, .inl (k2, 64, .inl (fun _ => 0))), (h6, .inr (6, [.ref h7, .int 0])), (h7, .inl (k3, 64, .inl (fun _ => 0))), (h8, .inr (6, [.ref h9, .int 0])), (h9, .inl (k4, 64, .inl (fun _ => 0))), (h10, .inr (8, [.long 0, .null]))] s.heap.size = A at hD hG ⊢
  obtain ⟨⟨g_AO_Text, g_AO_String, g_AO_Object, g_nm_RX1_20, g_nm_RX0_17, g_nm_RX3_31, g_nm_RX2_44, g_nm_RL_121, g_nf_RL_13, g_nf_RL_47, g_ca_IO, g_ca_IA, g_ca_IS, g_ca_IntObj, g_ca_StrObj, g_de_RT, g_de_EX, g_de_TH, g_nc_IA_IO, g_nc_IS_IO, g_nc_IS_IA⟩, ⟨g_s3, g_s5, g_sa, g_x278, g_x280, g_x282, g_x284, g_x286, g_x180, g_x238, g_x250⟩, ⟨g_o5, g_c5, g_v5, g_t5, g_oa, g_ca, g_va, g_ta, g_zc, g_zd, g_td, g_zf, g_zU, g_zN, g_zh, g_zk, g_tk, g_oi, g_vi⟩⟩ := id hG
  have hA : ∀ q : Nat, s.heap.size ≤ q → A q := fun q h => by rw [← hAe]; exact Or.inr h
  have hS : va_S A s.heap s.heap [] := va_S.rf
  have hP : va_P (dC, dI) vwCl [(h0, .inr (7, [.ref h1, .ref z0, .ref z1, .ref z2, .ref z3, .ref z4, .int 0, .int 0, .int 0])), (h1, .inl (k0, 4, .inr (.inr (.inr (.inr (va_up (va_up (va_up (va_up (fun _ => none) 0 (some h2)) 1 (some h4)) 2 (some h6)) 3 (some h8))))))), (h2, .inr (6, [.ref h3, .int 0])), (h3, .inl (k1, 64, .inl (fun _ => 0))), (h4, .inr (6, [.ref h5, .int 0])), (h5, .inl (k2, 64, .inl (fun _ => 0))), (h6, .inr (6, [.ref h7, .int 0])), (h7, .inl (k3, 64, .inl (fun _ => 0))), (h8, .inr (6, [.ref h9, .int 0])), (h9, .inl (k4, 64, .inl (fun _ => 0))), (h10, .inr (8, [.long 0, .null]))] s.heap := hP
  have hl := lv_entry ([.ref h0, .int i0, .int i1, .ref h10]) (n := 5) (Nat.le_of_ble_eq_true rfl)
  rw [lg_entry_eq]
  generalize (lg_sl ([.ref h0, .int i0, .int i1, .ref h10]) ++ List.replicate (5 - (lg_sl ([.ref h0, .int i0, .int i1, .ref h10])).length) Slot.unset).toArray = ls at hl ⊢
  have hl : lv_has ls 5 [(0, .ref h0), (1, .int i0), (2, .int i1), (3, .ref h10)] := hl
  refine lv_aload_n hx hb dL_copy_0 rfl (lv_at hl 3 rfl) ?_
  refine lv_aload_n hx hb dL_copy_1 rfl (lv_at hl 0 rfl) ?_
  refine lv_iload_n hx hb dL_copy_2 rfl (lv_at hl 1 rfl) ?_
  refine lv_iload_n hx hb dL_copy_3 rfl (lv_at hl 2 rfl) ?_
  have hPc := hP.sub (ws' := [(h0, .inr (7, [.ref h1, .ref z0, .ref z1, .ref z2, .ref z3, .ref z4, .int 0, .int 0, .int 0])), (h1, .inl (k0, 4, .inr (.inr (.inr (.inr (va_up (va_up (va_up (va_up (fun _ => none) 0 (some h2)) 1 (some h4)) 2 (some h6)) 3 (some h8))))))), (h2, .inr (6, [.ref h3, .int 0])), (h3, .inl (k1, 64, .inl (fun _ => 0))), (h4, .inr (6, [.ref h5, .int 0])), (h5, .inl (k2, 64, .inl (fun _ => 0))), (h6, .inr (6, [.ref h7, .int 0])), (h7, .inl (k3, 64, .inl (fun _ => 0))), (h8, .inr (6, [.ref h9, .int 0])), (h9, .inl (k4, 64, .inl (fun _ => 0)))]) [0, 1, 2, 3, 4, 5, 6, 7, 8, 9] rfl
  have hDc := hD.sub (ws' := [(h0, .inr (7, [.ref h1, .ref z0, .ref z1, .ref z2, .ref z3, .ref z4, .int 0, .int 0, .int 0])), (h1, .inl (k0, 4, .inr (.inr (.inr (.inr (va_up (va_up (va_up (va_up (fun _ => none) 0 (some h2)) 1 (some h4)) 2 (some h6)) 3 (some h8))))))), (h2, .inr (6, [.ref h3, .int 0])), (h3, .inl (k1, 64, .inl (fun _ => 0))), (h4, .inr (6, [.ref h5, .int 0])), (h5, .inl (k2, 64, .inl (fun _ => 0))), (h6, .inr (6, [.ref h7, .int 0])), (h7, .inl (k3, 64, .inl (fun _ => 0))), (h8, .inr (6, [.ref h9, .int 0])), (h9, .inl (k4, 64, .inl (fun _ => 0)))]) [0, 1, 2, 3, 4, 5, 6, 7, 8, 9] (by decide) rfl
  have hKc := hK.sub (tys' := [(k0, .object "Rewriterope$Text"), (k1, .byte), (k2, .byte), (k3, .byte), (k4, .byte)]) [0, 1, 2, 3, 4] rfl
  have hFc := va_free (wc := [(h0, .inr (7, [.ref h1, .ref z0, .ref z1, .ref z2, .ref z3, .ref z4, .int 0, .int 0, .int 0])), (h1, .inl (k0, 4, .inr (.inr (.inr (.inr (va_up (va_up (va_up (va_up (fun _ => none) 0 (some h2)) 1 (some h4)) 2 (some h6)) 3 (some h8))))))), (h2, .inr (6, [.ref h3, .int 0])), (h3, .inl (k1, 64, .inl (fun _ => 0))), (h4, .inr (6, [.ref h5, .int 0])), (h5, .inl (k2, 64, .inl (fun _ => 0))), (h6, .inr (6, [.ref h7, .int 0])), (h7, .inl (k3, 64, .inl (fun _ => 0))), (h8, .inr (6, [.ref h9, .int 0])), (h9, .inl (k4, 64, .inl (fun _ => 0)))]) hD hS hA [0, 1, 2, 3, 4, 5, 6, 7, 8, 9] rfl
  refine va_calli (va_runV (As := [.int i0, .int i1]) (rest := [.ref h10]) ⟨hx, hb, hml, hown, hts⟩ (kx_X3_copy_s4 l dC dI h0 h1 h2 h3 h4 h5 h6 h7 h8 h9 z0 z1 z2 z3 z4 k0 k1 k2 k3 k4 s.heap.size i1 i1_l i1_u i0 i0_l i0_u) (cwV 2 hts gL_copy_X3_copy rfl rfl rfl (by decide +kernel) ⟨Nat.le_of_ble_eq_true rfl, Nat.le_of_ble_eq_true rfl⟩) ⟨fun a U g mk q => by obtain ⟨q0, q1, qP, qK, qD⟩ := q; exact ⟨q0, q1, qP, va_K.moved (u := U) (U := U.calling g mk a) (Vm.Alike.refl U.vm) qK, qD⟩, va_recv hKc hPc (ci := 7) (q0 := 0) rfl rfl, fun U hU hW => ⟨rfl, by rw [hU], by rw [hU]; exact hPc, va_K.moved hW.alike hKc, hDc.weaken (fun _ _ _ _ => trivial)⟩⟩ rfl rfl hl.1 rfl (lv_room (Nat.le_of_ble_eq_true rfl)) dL_copy_4 ⟨Nat.le_of_ble_eq_true rfl, Nat.le_of_ble_eq_true rfl⟩) hS (fun q _ h => hFc q h) hFc (fun r9 u t H1 locs ht hvm hw hB hz1 hk1 hS => ?_)
  obtain rfl := hw
  obtain ⟨hP1, hK1, hD1⟩ := hB
  rw [ht] at hP1
  have hK1 := va_K.moved hvm.symm hK1
  obtain ⟨hP, hD⟩ := va_join (wr := [(h10, .inr (8, [.long 0, .null]))]) (w1 := [(h0, .inr (7, [.ref h1, .ref z0, .ref z1, .ref z2, .ref z3, .ref z4, .int 0, .int 0, .int 0])), (h1, .inl (k0, 4, .inr (.inr (.inr (.inr (va_up (va_up (va_up (va_up (fun _ => none) 0 (some h2)) 1 (some h4)) 2 (some h6)) 3 (some h8))))))), (h2, .inr (6, [.ref h3, .int 0])), (h3, .inl (k1, 64, .inl (fun _ => 0))), (h4, .inr (6, [.ref h5, .int 0])), (h5, .inl (k2, 64, .inl (fun _ => 0))), (h6, .inr (6, [.ref h7, .int 0])), (h7, .inl (k3, 64, .inl (fun _ => 0))), (h8, .inr (6, [.ref h9, .int 0])), (h9, .inl (k4, 64, .inl (fun _ => 0)))]) hP hD [0, 1, 2, 3, 4, 5, 6, 7, 8, 9] [10] rfl rfl (by decide) (by decide) hk1 hFc hP1 hD1
  generalize H1 = H at hP hS ⊢
  have hP : va_P (dC, dI) vwCl [(h10, .inr (8, [.long 0, .null])), (h0, .inr (7, [.ref h1, .ref z0, .ref z1, .ref z2, .ref z3, .ref z4, .int 0, .int 0, .int 0])), (h1, .inl (k0, 4, .inr (.inr (.inr (.inr (va_up (va_up (va_up (va_up (fun _ => none) 0 (some h2)) 1 (some h4)) 2 (some h6)) 3 (some h8))))))), (h2, .inr (6, [.ref h3, .int 0])), (h3, .inl (k1, 64, .inl (fun _ => 0))), (h4, .inr (6, [.ref h5, .int 0])), (h5, .inl (k2, 64, .inl (fun _ => 0))), (h6, .inr (6, [.ref h7, .int 0])), (h7, .inl (k3, 64, .inl (fun _ => 0))), (h8, .inr (6, [.ref h9, .int 0])), (h9, .inl (k4, 64, .inl (fun _ => 0)))] H := hP
  have hD : va_D A [(h10, .inr (8, [.long 0, .null])), (h0, .inr (7, [.ref h1, .ref z0, .ref z1, .ref z2, .ref z3, .ref z4, .int 0, .int 0, .int 0])), (h1, .inl (k0, 4, .inr (.inr (.inr (.inr (va_up (va_up (va_up (va_up (fun _ => none) 0 (some h2)) 1 (some h4)) 2 (some h6)) 3 (some h8))))))), (h2, .inr (6, [.ref h3, .int 0])), (h3, .inl (k1, 64, .inl (fun _ => 0))), (h4, .inr (6, [.ref h5, .int 0])), (h5, .inl (k2, 64, .inl (fun _ => 0))), (h6, .inr (6, [.ref h7, .int 0])), (h7, .inl (k3, 64, .inl (fun _ => 0))), (h8, .inr (6, [.ref h9, .int 0])), (h9, .inl (k4, 64, .inl (fun _ => 0)))] := hD
  refine lv_i2l (v := 0) hx hb dL_copy_7 (by decide) ?_
  refine va_putN (D := (dC, dI)) (ci := 8) (v := .long 0) (ty := .long) (C := RX4) (T := TX4) (N := 2) hx hb hts (by decide +kernel) tyX4 tyX4_ok nmX4 hown hK hP hD hS 0 rfl rfl 0 (by decide) (va_Nw.use rfl g_nf_RL_13) (fun _ h9 => h9) rfl (by decide +kernel) rfl rfl (Nat.le_of_ble_eq_true rfl) dL_copy_8 (fun H locs hP hD hS => ?_)
  have hP : va_P (dC, dI) vwCl [(h10, .inr (8, [.long 0, .null])), (h0, .inr (7, [.ref h1, .ref z0, .ref z1, .ref z2, .ref z3, .ref z4, .int 0, .int 0, .int 0])), (h1, .inl (k0, 4, .inr (.inr (.inr (.inr (va_up (va_up (va_up (va_up (fun _ => none) 0 (some h2)) 1 (some h4)) 2 (some h6)) 3 (some h8))))))), (h2, .inr (6, [.ref h3, .int 0])), (h3, .inl (k1, 64, .inl (fun _ => 0))), (h4, .inr (6, [.ref h5, .int 0])), (h5, .inl (k2, 64, .inl (fun _ => 0))), (h6, .inr (6, [.ref h7, .int 0])), (h7, .inl (k3, 64, .inl (fun _ => 0))), (h8, .inr (6, [.ref h9, .int 0])), (h9, .inl (k4, 64, .inl (fun _ => 0)))] H := hP
  have hD : va_D A [(h10, .inr (8, [.long 0, .null])), (h0, .inr (7, [.ref h1, .ref z0, .ref z1, .ref z2, .ref z3, .ref z4, .int 0, .int 0, .int 0])), (h1, .inl (k0, 4, .inr (.inr (.inr (.inr (va_up (va_up (va_up (va_up (fun _ => none) 0 (some h2)) 1 (some h4)) 2 (some h6)) 3 (some h8))))))), (h2, .inr (6, [.ref h3, .int 0])), (h3, .inl (k1, 64, .inl (fun _ => 0))), (h4, .inr (6, [.ref h5, .int 0])), (h5, .inl (k2, 64, .inl (fun _ => 0))), (h6, .inr (6, [.ref h7, .int 0])), (h7, .inl (k3, 64, .inl (fun _ => 0))), (h8, .inr (6, [.ref h9, .int 0])), (h9, .inl (k4, 64, .inl (fun _ => 0)))] := hD
  refine lv_goto (tgt := 18) hx hb dL_copy_11 (by decide) ?_
  refine lv_iconst (v := 0) hx hb dL_copy_18 (by decide) ?_
  have hP := hP.sub (ws' := [(h0, .inr (7, [.ref h1, .ref z0, .ref z1, .ref z2, .ref z3, .ref z4, .int 0, .int 0, .int 0])), (h1, .inl (k0, 4, .inr (.inr (.inr (.inr (va_up (va_up (va_up (va_up (fun _ => none) 0 (some h2)) 1 (some h4)) 2 (some h6)) 3 (some h8))))))), (h2, .inr (6, [.ref h3, .int 0])), (h3, .inl (k1, 64, .inl (fun _ => 0))), (h4, .inr (6, [.ref h5, .int 0])), (h5, .inl (k2, 64, .inl (fun _ => 0))), (h6, .inr (6, [.ref h7, .int 0])), (h7, .inl (k3, 64, .inl (fun _ => 0))), (h8, .inr (6, [.ref h9, .int 0])), (h9, .inl (k4, 64, .inl (fun _ => 0))), (h10, .inr (8, [.long 0, .null]))]) [1, 2, 3, 4, 5, 6, 7, 8, 9, 10, 0] rfl
  have hD := hD.sub (ws' := [(h0, .inr (7, [.ref h1, .ref z0, .ref z1, .ref z2, .ref z3, .ref z4, .int 0, .int 0, .int 0])), (h1, .inl (k0, 4, .inr (.inr (.inr (.inr (va_up (va_up (va_up (va_up (fun _ => none) 0 (some h2)) 1 (some h4)) 2 (some h6)) 3 (some h8))))))), (h2, .inr (6, [.ref h3, .int 0])), (h3, .inl (k1, 64, .inl (fun _ => 0))), (h4, .inr (6, [.ref h5, .int 0])), (h5, .inl (k2, 64, .inl (fun _ => 0))), (h6, .inr (6, [.ref h7, .int 0])), (h7, .inl (k3, 64, .inl (fun _ => 0))), (h8, .inr (6, [.ref h9, .int 0])), (h9, .inl (k4, 64, .inl (fun _ => 0))), (h10, .inr (8, [.long 0, .null]))]) [1, 2, 3, 4, 5, 6, 7, 8, 9, 10, 0] (by decide) rfl
  exact W.iret (v := 0) hx hb hr (fun t ht hW => ⟨⟨0, (), rfl, rfl, by rw [ht]; exact hP, va_K.moved hW.alike hK, hD⟩, hS.F ht⟩) hS.2.2 dL_copy_19
set_option maxHeartbeats 4000000 in
set_option maxRecDepth 100000 in
theorem kx_X5_copy_0 (l : Launch) (dC : Nat → ClassId) (dI : Nat → Nat → Nat) (ge5 gea gv5 gva gde gic gi0 : Nat) (h0 : Nat) (h1 : Nat) (z0 : Nat) (z1 : Nat) (k0 : ClassId) (sz : Nat) (i0 : Int32) (i0_l : (0 : Int) ≤ i0.toInt) (i0_u : i0.toInt ≤ (3 : Int)) (i1 : Int32) (i1_l : (0 : Int) ≤ i1.toInt) (i1_u : i1.toInt ≤ (3 : Int)) : Met l yX5_copy wsX5_copy ({ frames := 2, cells := 0, slots := 0, locals := 42 }) (va_Pc [.ref h0, .int i0, .int i1] (fun U => U.heap.size = sz ∧ va_P (dC, dI) vwCl [(h0, .inr (9, [.int 0, .ref h1, .ref z0, .ref z1, .int 0, .int 0, .int 0])), (h1, .inl (k0, 4, .inr (.inr (.inr (.inr (va_up (va_up (va_up (va_up (fun _ => none) 0 (some ge5)) 1 (some ge5)) 2 (some ge5)) 3 (some ge5)))))))] U.heap ∧ va_K (dC, dI) vwCl [(k0, .object "java/lang/String")] U ∧ va_D (fun _ => True) [(h0, .inr (9, [.int 0, .ref h1, .ref z0, .ref z1, .int 0, .int 0, .int 0])), (h1, .inl (k0, 4, .inr (.inr (.inr (.inr (va_up (va_up (va_up (va_up (fun _ => none) 0 (some ge5)) 1 (some ge5)) 2 (some ge5)) 3 (some ge5)))))))] ∧ gv ge5 gea gv5 gva gde gic gi0 (va_A [(h0, .inr (9, [.int 0, .ref h1, .ref z0, .ref z1, .int 0, .int 0, .int 0])), (h1, .inl (k0, 4, .inr (.inr (.inr (.inr (va_up (va_up (va_up (va_up (fun _ => none) 0 (some ge5)) 1 (some ge5)) 2 (some ge5)) 3 (some ge5)))))))] sz) U U.heap)) (va_Qi (fun (r : Int32) (_ : Unit) => r = 0) (fun (_ : Unit) (t : State) => va_P (dC, dI) vwCl [(h0, .inr (9, [.int 0, .ref h1, .ref z0, .ref z1, .int 0, .int 0, .int 0]))] t.heap ∧ va_K (dC, dI) vwCl [(k0, .object "java/lang/String")] t ∧ va_D (va_A [(h0, .inr (9, [.int 0, .ref h1, .ref z0, .ref z1, .int 0, .int 0, .int 0])), (h1, .inl (k0, 4, .inr (.inr (.inr (.inr (va_up (va_up (va_up (va_up (fun _ => none) 0 (some ge5)) 1 (some ge5)) 2 (some ge5)) 3 (some ge5)))))))] sz) [(h0, .inr (9, [.int 0, .ref h1, .ref z0, .ref z1, .int 0, .int 0, .int 0]))]) (va_A [(h0, .inr (9, [.int 0, .ref h1, .ref z0, .ref z1, .int 0, .int 0, .int 0])), (h1, .inl (k0, 4, .inr (.inr (.inr (.inr (va_up (va_up (va_up (va_up (fun _ => none) 0 (some ge5)) 1 (some ge5)) 2 (some ge5)) 3 (some ge5)))))))] sz)) 0 0 (va_A [(h0, .inr (9, [.int 0, .ref h1, .ref z0, .ref z1, .int 0, .int 0, .int 0])), (h1, .inl (k0, 4, .inr (.inr (.inr (.inr (va_up (va_up (va_up (va_up (fun _ => none) 0 (some ge5)) 1 (some ge5)) 2 (some ge5)) 3 (some ge5)))))))] sz) := by
  refine Met.ofW (cc := cX5_copy) (maxL := 3) (ret := (some .int)) (by decide) rfl ?_
  intro p e s m args below meth c s₁ B hml hv
  obtain ⟨rfl, hsz, hP, hK, hD0, hG⟩ := hv
  have hx := B.exec
  have hb := B.bytes
  have hr := B.returns
  have hts := atoms_spec (ws := wsX5_copy) B.pre
  have hown : s.vm.findClass RX5 = some m.cls := findClass_of_methodNamed B.named
  have hlocks := B.notSynchronized
  subst hsz
  have hD := hD0.self (sz := s.heap.size)
  generalize hAe : va_A [(h0, .inr (9, [.int 0, .ref h1, .ref z0, .ref z1, .int 0, .int 0, .int 0])), (h1, .inl (k0, 4, .inr (.inr (.inr (.inr (va_up (va_up (va_up (va_up (fun _ => none) 0 (some ge5)) 1 (some ge5)) 2 (some ge5)) 3 (some ge5)))))))] s.heap.size = A at hD hG ⊢
  obtain ⟨⟨g_AO_Text, g_AO_String, g_AO_Object, g_nm_RX1_20, g_nm_RX0_17, g_nm_RX3_31, g_nm_RX2_44, g_nm_RL_121, g_nf_RL_13, g_nf_RL_47, g_ca_IO, g_ca_IA, g_ca_IS, g_ca_IntObj, g_ca_StrObj, g_de_RT, g_de_EX, g_de_TH, g_nc_IA_IO, g_nc_IS_IO, g_nc_IS_IA⟩, ⟨g_s3, g_s5, g_sa, g_x278, g_x280, g_x282, g_x284, g_x286, g_x180, g_x238, g_x250⟩, ⟨g_o5, g_c5, g_v5, g_t5, g_oa, g_ca, g_va, g_ta, g_zc, g_zd, g_td, g_zf, g_zU, g_zN, g_zh, g_zk, g_tk, g_oi, g_vi⟩⟩ := id hG
  have hA : ∀ q : Nat, s.heap.size ≤ q → A q := fun q h => by rw [← hAe]; exact Or.inr h
  have hS : va_S A s.heap s.heap [] := va_S.rf
  have hP : va_P (dC, dI) vwCl [(h0, .inr (9, [.int 0, .ref h1, .ref z0, .ref z1, .int 0, .int 0, .int 0])), (h1, .inl (k0, 4, .inr (.inr (.inr (.inr (va_up (va_up (va_up (va_up (fun _ => none) 0 (some ge5)) 1 (some ge5)) 2 (some ge5)) 3 (some ge5)))))))] s.heap := hP
  have hl := lv_entry ([.ref h0, .int i0, .int i1]) (n := 3) (Nat.le_of_ble_eq_true rfl)
  rw [lg_entry_eq]
  generalize (lg_sl ([.ref h0, .int i0, .int i1]) ++ List.replicate (3 - (lg_sl ([.ref h0, .int i0, .int i1])).length) Slot.unset).toArray = ls at hl ⊢
  have hl : lv_has ls 3 [(0, .ref h0), (1, .int i0), (2, .int i1)] := hl
  refine lv_aload_n hx hb dX5_copy_0 rfl (lv_at hl 0 rfl) ?_
  refine lv_iload_n hx hb dX5_copy_1 rfl (lv_at hl 1 rfl) ?_
  have hPc := hP.sub (ws' := []) [] rfl
  have hDc := hD.sub (ws' := []) [] (by decide) rfl
  have hKc := hK.sub (tys' := []) [] rfl
  have hFc := va_free (wc := []) hD hS hA [] rfl
  refine va_calli (va_runS (As := [.int i0]) (rest := [.ref h0]) ⟨hx, hb, hml, hown, hts⟩ (kx_X5_isNo_1 l dC dI s.heap.size i0 i0_l i0_u) (cwS 1 hts gX5_copy_X5_isNo rfl rfl rfl (by decide +kernel) ⟨Nat.le_of_ble_eq_true rfl, Nat.le_of_ble_eq_true rfl⟩) ⟨fun a U g mk q => by obtain ⟨q0, q1, qP, qK, qD⟩ := q; exact ⟨q0, q1, qP, va_K.moved (u := U) (U := U.calling g mk a) (Vm.Alike.refl U.vm) qK, qD⟩, fun U hU hW => ⟨rfl, by rw [hU], by rw [hU]; exact hPc, va_K.moved hW.alike hKc, hDc.weaken (fun _ _ _ _ => trivial)⟩⟩ rfl rfl hl.1 rfl (lv_room (Nat.le_of_ble_eq_true rfl)) dX5_copy_2 ⟨Nat.le_of_ble_eq_true rfl, Nat.le_of_ble_eq_true rfl⟩) hS (fun q _ h => hFc q h) hFc (fun r9 u t H1 locs ht hvm hw hB hz1 hk1 hS => ?_)
  obtain rfl := hw
  obtain ⟨hP1, hK1, hD1⟩ := hB
  rw [ht] at hP1
  have hK1 := va_K.moved hvm.symm hK1
  obtain ⟨hP, hD⟩ := va_join (wr := [(h0, .inr (9, [.int 0, .ref h1, .ref z0, .ref z1, .int 0, .int 0, .int 0])), (h1, .inl (k0, 4, .inr (.inr (.inr (.inr (va_up (va_up (va_up (va_up (fun _ => none) 0 (some ge5)) 1 (some ge5)) 2 (some ge5)) 3 (some ge5)))))))]) (w1 := []) hP hD [] [0, 1] rfl rfl (by decide) (by decide) hk1 hFc hP1 hD1
  generalize H1 = H at hP hS ⊢
  have hP : va_P (dC, dI) vwCl [(h0, .inr (9, [.int 0, .ref h1, .ref z0, .ref z1, .int 0, .int 0, .int 0])), (h1, .inl (k0, 4, .inr (.inr (.inr (.inr (va_up (va_up (va_up (va_up (fun _ => none) 0 (some ge5)) 1 (some ge5)) 2 (some ge5)) 3 (some ge5)))))))] H := hP
  have hD : va_D A [(h0, .inr (9, [.int 0, .ref h1, .ref z0, .ref z1, .int 0, .int 0, .int 0])), (h1, .inl (k0, 4, .inr (.inr (.inr (.inr (va_up (va_up (va_up (va_up (fun _ => none) 0 (some ge5)) 1 (some ge5)) 2 (some ge5)) 3 (some ge5)))))))] := hD
  refine lv_if_ne (tgt := 15) hx hb dX5_copy_5 (by decide) (fun c9 => absurd (by decide) c9) (fun _ => ?_)
  refine lv_iload_n hx hb dX5_copy_8 rfl (lv_at hl 2 rfl) ?_
  have hPc := hP.sub (ws' := []) [] rfl
  have hDc := hD.sub (ws' := []) [] (by decide) rfl
  have hKc := hK.sub (tys' := []) [] rfl
  have hFc := va_free (wc := []) hD hS hA [] rfl
  refine va_calli (va_runS (As := [.int i1]) (rest := [.ref h0]) ⟨hx, hb, hml, hown, hts⟩ (kx_X5_isNo_1 l dC dI H.size i1 i1_l i1_u) (cwS 1 hts gX5_copy_X5_isNo rfl rfl rfl (by decide +kernel) ⟨Nat.le_of_ble_eq_true rfl, Nat.le_of_ble_eq_true rfl⟩) ⟨fun a U g mk q => by obtain ⟨q0, q1, qP, qK, qD⟩ := q; exact ⟨q0, q1, qP, va_K.moved (u := U) (U := U.calling g mk a) (Vm.Alike.refl U.vm) qK, qD⟩, fun U hU hW => ⟨rfl, by rw [hU], by rw [hU]; exact hPc, va_K.moved hW.alike hKc, hDc.weaken (fun _ _ _ _ => trivial)⟩⟩ rfl rfl hl.1 rfl (lv_room (Nat.le_of_ble_eq_true rfl)) dX5_copy_9 ⟨Nat.le_of_ble_eq_true rfl, Nat.le_of_ble_eq_true rfl⟩) hS (fun q _ h => hFc q h) hFc (fun r9 u t H1 locs ht hvm hw hB hz1 hk1 hS => ?_)
  obtain rfl := hw
  obtain ⟨hP1, hK1, hD1⟩ := hB
  rw [ht] at hP1
  have hK1 := va_K.moved hvm.symm hK1
  obtain ⟨hP, hD⟩ := va_join (wr := [(h0, .inr (9, [.int 0, .ref h1, .ref z0, .ref z1, .int 0, .int 0, .int 0])), (h1, .inl (k0, 4, .inr (.inr (.inr (.inr (va_up (va_up (va_up (va_up (fun _ => none) 0 (some ge5)) 1 (some ge5)) 2 (some ge5)) 3 (some ge5)))))))]) (w1 := []) hP hD [] [0, 1] rfl rfl (by decide) (by decide) hk1 hFc hP1 hD1
  generalize H1 = H at hP hS ⊢
  have hP : va_P (dC, dI) vwCl [(h0, .inr (9, [.int 0, .ref h1, .ref z0, .ref z1, .int 0, .int 0, .int 0])), (h1, .inl (k0, 4, .inr (.inr (.inr (.inr (va_up (va_up (va_up (va_up (fun _ => none) 0 (some ge5)) 1 (some ge5)) 2 (some ge5)) 3 (some ge5)))))))] H := hP
  have hD : va_D A [(h0, .inr (9, [.int 0, .ref h1, .ref z0, .ref z1, .int 0, .int 0, .int 0])), (h1, .inl (k0, 4, .inr (.inr (.inr (.inr (va_up (va_up (va_up (va_up (fun _ => none) 0 (some ge5)) 1 (some ge5)) 2 (some ge5)) 3 (some ge5)))))))] := hD
  refine lv_if_eq (tgt := 19) hx hb dX5_copy_12 (by decide) (fun _ => ?_) (fun c9 => absurd (by decide) c9)
  refine lv_iconst (v := 0) hx hb dX5_copy_19 (by decide) ?_
  refine lv_iconst (v := 0) hx hb dX5_copy_20 (by decide) ?_
  refine lv_iconst (v := 0) hx hb dX5_copy_21 (by decide) ?_
  have hPc := hP.sub (ws' := [(h0, .inr (9, [.int 0, .ref h1, .ref z0, .ref z1, .int 0, .int 0, .int 0]))]) [0] rfl
  have hDc := hD.sub (ws' := [(h0, .inr (9, [.int 0, .ref h1, .ref z0, .ref z1, .int 0, .int 0, .int 0]))]) [0] (by decide) rfl
  have hKc := hK.sub (tys' := []) [] rfl
  have hFc := va_free (wc := [(h0, .inr (9, [.int 0, .ref h1, .ref z0, .ref z1, .int 0, .int 0, .int 0]))]) hD hS hA [0] rfl
  refine va_calli (va_runV (As := [.int 0, .int 0, .int 0]) (rest := []) ⟨hx, hb, hml, hown, hts⟩ (kx_X5_fails_1 l dC dI h0 h1 z0 z1 H.size) (cwV 3 hts gX5_copy_X5_fails rfl rfl rfl (by decide +kernel) ⟨Nat.le_of_ble_eq_true rfl, Nat.le_of_ble_eq_true rfl⟩) ⟨fun a U g mk q => by obtain ⟨q0, q1, qP, qK, qD⟩ := q; exact ⟨q0, q1, qP, va_K.moved (u := U) (U := U.calling g mk a) (Vm.Alike.refl U.vm) qK, qD⟩, va_recv hKc hPc (ci := 9) (q0 := 0) rfl rfl, fun U hU hW => ⟨rfl, by rw [hU], by rw [hU]; exact hPc, va_K.moved hW.alike hKc, hDc.weaken (fun _ _ _ _ => trivial)⟩⟩ rfl rfl hl.1 rfl (lv_room (Nat.le_of_ble_eq_true rfl)) dX5_copy_22 ⟨Nat.le_of_ble_eq_true rfl, Nat.le_of_ble_eq_true rfl⟩) hS (fun q _ h => hFc q h) hFc (fun r9 u t H1 locs ht hvm hw hB hz1 hk1 hS => ?_)
  obtain rfl := hw
  obtain ⟨hP1, hK1, hD1⟩ := hB
  rw [ht] at hP1
  have hK1 := va_K.moved hvm.symm hK1
  obtain ⟨hP, hD⟩ := va_join (wr := [(h1, .inl (k0, 4, .inr (.inr (.inr (.inr (va_up (va_up (va_up (va_up (fun _ => none) 0 (some ge5)) 1 (some ge5)) 2 (some ge5)) 3 (some ge5)))))))]) (w1 := [(h0, .inr (9, [.int 0, .ref h1, .ref z0, .ref z1, .int 0, .int 0, .int 0]))]) hP hD [0] [1] rfl rfl (by decide) (by decide) hk1 hFc hP1 hD1
  generalize H1 = H at hP hS ⊢
  have hP : va_P (dC, dI) vwCl [(h1, .inl (k0, 4, .inr (.inr (.inr (.inr (va_up (va_up (va_up (va_up (fun _ => none) 0 (some ge5)) 1 (some ge5)) 2 (some ge5)) 3 (some ge5))))))), (h0, .inr (9, [.int 0, .ref h1, .ref z0, .ref z1, .int 0, .int 0, .int 0]))] H := hP
  have hD : va_D A [(h1, .inl (k0, 4, .inr (.inr (.inr (.inr (va_up (va_up (va_up (va_up (fun _ => none) 0 (some ge5)) 1 (some ge5)) 2 (some ge5)) 3 (some ge5))))))), (h0, .inr (9, [.int 0, .ref h1, .ref z0, .ref z1, .int 0, .int 0, .int 0]))] := hD
  refine lv_if_eq (tgt := 30) hx hb dX5_copy_25 (by decide) (fun _ => ?_) (fun c9 => absurd (by decide) c9)
  refine lv_aload_n hx hb dX5_copy_30 rfl (lv_at hl 0 rfl) ?_
  refine va_get (D := (dC, dI)) (ci := 9) (v := .ref h1) (C := RX5) (T := TX5) (N := 7) hx hb hts (by decide +kernel) hown hK hP 1 rfl rfl 1 (by decide) (hts (.fieldLink RX5 11 "RewriteropeModel" "ropes" "[Ljava/lang/String;") (by decide +kernel)) (fun _ h9 => h9) rfl dX5_copy_31 ?_
  refine lv_iload_n hx hb dX5_copy_34 rfl (lv_at hl 1 rfl) ?_
  refine lv_aload_n hx hb dX5_copy_35 rfl (lv_at hl 0 rfl) ?_
  refine va_get (D := (dC, dI)) (ci := 9) (v := .ref h1) (C := RX5) (T := TX5) (N := 7) hx hb hts (by decide +kernel) hown hK hP 1 rfl rfl 1 (by decide) (hts (.fieldLink RX5 11 "RewriteropeModel" "ropes" "[Ljava/lang/String;") (by decide +kernel)) (fun _ h9 => h9) rfl dX5_copy_36 ?_
  refine lv_iload_n hx hb dX5_copy_39 rfl (lv_at hl 2 rfl) ?_
  refine va_aldq (D := (dC, dI)) hx hb hK hP 0 0 rfl rfl (kz_in4 i1_l i1_u) dX5_copy_40 ?_
  rw [show (va_up (va_up (va_up (va_up (fun _ => none) 0 (some ge5)) 1 (some ge5)) 2 (some ge5)) 3 (some ge5)) i1.toNatClampNeg = some ge5 from (kz_ix4 (P := fun z => (va_up (va_up (va_up (va_up (fun _ => none) 0 (some ge5)) 1 (some ge5)) 2 (some ge5)) 3 (some ge5)) z.toNatClampNeg = some ge5) rfl rfl rfl rfl i1_l i1_u)]
  refine W.eq (g2 := F0 m 41 ls [.ref ge5, .int i0, .ref h1]) rfl ?_
  refine vb_astq (D := (dC, dI)) (C := "java/lang/String") hx hb hK hP hD hS 0 0 rfl rfl (by obtain ⟨cell, k1, k2, k3, -⟩ := g_o5.kept hS.2.1; exact ⟨cell, k1, k2, k3⟩) vb_asgS (kz_in4 i0_l i0_u) dX5_copy_41 (fun H locs hP hD hS => ?_)
  rw [kz_up (f := (va_up (va_up (va_up (va_up (fun _ => none) 0 (some ge5)) 1 (some ge5)) 2 (some ge5)) 3 (some ge5))) (k := i0.toNatClampNeg) (v := some ge5) (kz_ix4 (P := fun z => (va_up (va_up (va_up (va_up (fun _ => none) 0 (some ge5)) 1 (some ge5)) 2 (some ge5)) 3 (some ge5)) z.toNatClampNeg = some ge5) rfl rfl rfl rfl i0_l i0_u)] at hP hD
  have hP : va_P (dC, dI) vwCl [(h1, .inl (k0, 4, .inr (.inr (.inr (.inr (va_up (va_up (va_up (va_up (fun _ => none) 0 (some ge5)) 1 (some ge5)) 2 (some ge5)) 3 (some ge5))))))), (h0, .inr (9, [.int 0, .ref h1, .ref z0, .ref z1, .int 0, .int 0, .int 0]))] H := hP
  have hD : va_D A [(h1, .inl (k0, 4, .inr (.inr (.inr (.inr (va_up (va_up (va_up (va_up (fun _ => none) 0 (some ge5)) 1 (some ge5)) 2 (some ge5)) 3 (some ge5))))))), (h0, .inr (9, [.int 0, .ref h1, .ref z0, .ref z1, .int 0, .int 0, .int 0]))] := hD
  refine lv_aload_n hx hb dX5_copy_42 rfl (lv_at hl 0 rfl) ?_
  refine va_get (D := (dC, dI)) (ci := 9) (v := .ref h1) (C := RX5) (T := TX5) (N := 7) hx hb hts (by decide +kernel) hown hK hP 1 rfl rfl 1 (by decide) (hts (.fieldLink RX5 11 "RewriteropeModel" "ropes" "[Ljava/lang/String;") (by decide +kernel)) (fun _ h9 => h9) rfl dX5_copy_43 ?_
  refine lv_iload_n hx hb dX5_copy_46 rfl (lv_at hl 1 rfl) ?_
  refine va_aldq (D := (dC, dI)) hx hb hK hP 0 0 rfl rfl (kz_in4 i0_l i0_u) dX5_copy_47 ?_
  rw [show (va_up (va_up (va_up (va_up (fun _ => none) 0 (some ge5)) 1 (some ge5)) 2 (some ge5)) 3 (some ge5)) i0.toNatClampNeg = some ge5 from (kz_ix4 (P := fun z => (va_up (va_up (va_up (va_up (fun _ => none) 0 (some ge5)) 1 (some ge5)) 2 (some ge5)) 3 (some ge5)) z.toNatClampNeg = some ge5) rfl rfl rfl rfl i0_l i0_u)]
  refine W.eq (g2 := F0 m 48 ls [.ref ge5]) rfl ?_
  have hPc := hP.sub (ws' := []) [] rfl
  have hDc := hD.sub (ws' := []) [] (by decide) rfl
  have hKc := hK.sub (tys' := []) [] rfl
  have hFc := va_free (wc := []) hD hS hA [] rfl
  refine va_calli (va_runV (As := []) (rest := []) ⟨hx, hb, hml, hown, hts⟩ (kx_J0_length_8abf5_0 l dC dI ge5 gea gv5 gva gde gic gi0 H.size) (cwV 0 hts gX5_copy_J0_length_8abf5 rfl rfl rfl (by decide +kernel) ⟨Nat.le_of_ble_eq_true rfl, Nat.le_of_ble_eq_true rfl⟩) ⟨fun a U g mk q => by obtain ⟨q0, q1, qP, qK, qD, qG⟩ := q; exact ⟨q0, q1, qP, va_K.moved (u := U) (U := U.calling g mk a) (Vm.Alike.refl U.vm) qK, qD, gv.fb qG⟩, (by obtain ⟨cell, k1, k2, k3, -⟩ := g_o5.kept hS.2.1; exact ⟨cell, k1, k2, k3⟩), fun U hU hW => ⟨rfl, by rw [hU], by rw [hU]; exact hPc, va_K.moved hW.alike hKc, hDc.weaken (fun _ _ _ _ => trivial), gv.pass hW hU hS hFc hG⟩⟩ rfl rfl hl.1 rfl (lv_room (Nat.le_of_ble_eq_true rfl)) dX5_copy_48 ⟨Nat.le_of_ble_eq_true rfl, Nat.le_of_ble_eq_true rfl⟩) hS (fun q _ h => hFc q h) hFc (fun r9 u t H1 locs ht hvm hw hB hz1 hk1 hS => ?_)
  obtain rfl := hw
  obtain ⟨hP1, hK1, hD1⟩ := hB
  rw [ht] at hP1
  have hK1 := va_K.moved hvm.symm hK1
  obtain ⟨hP, hD⟩ := va_join (wr := [(h1, .inl (k0, 4, .inr (.inr (.inr (.inr (va_up (va_up (va_up (va_up (fun _ => none) 0 (some ge5)) 1 (some ge5)) 2 (some ge5)) 3 (some ge5))))))), (h0, .inr (9, [.int 0, .ref h1, .ref z0, .ref z1, .int 0, .int 0, .int 0]))]) (w1 := []) hP hD [] [0, 1] rfl rfl (by decide) (by decide) hk1 hFc hP1 hD1
  generalize H1 = H at hP hS ⊢
  have hP : va_P (dC, dI) vwCl [(h1, .inl (k0, 4, .inr (.inr (.inr (.inr (va_up (va_up (va_up (va_up (fun _ => none) 0 (some ge5)) 1 (some ge5)) 2 (some ge5)) 3 (some ge5))))))), (h0, .inr (9, [.int 0, .ref h1, .ref z0, .ref z1, .int 0, .int 0, .int 0]))] H := hP
  have hD : va_D A [(h1, .inl (k0, 4, .inr (.inr (.inr (.inr (va_up (va_up (va_up (va_up (fun _ => none) 0 (some ge5)) 1 (some ge5)) 2 (some ge5)) 3 (some ge5))))))), (h0, .inr (9, [.int 0, .ref h1, .ref z0, .ref z1, .int 0, .int 0, .int 0]))] := hD
  have hP := hP.sub (ws' := [(h0, .inr (9, [.int 0, .ref h1, .ref z0, .ref z1, .int 0, .int 0, .int 0])), (h1, .inl (k0, 4, .inr (.inr (.inr (.inr (va_up (va_up (va_up (va_up (fun _ => none) 0 (some ge5)) 1 (some ge5)) 2 (some ge5)) 3 (some ge5)))))))]) [1, 0] rfl
  have hD := hD.sub (ws' := [(h0, .inr (9, [.int 0, .ref h1, .ref z0, .ref z1, .int 0, .int 0, .int 0])), (h1, .inl (k0, 4, .inr (.inr (.inr (.inr (va_up (va_up (va_up (va_up (fun _ => none) 0 (some ge5)) 1 (some ge5)) 2 (some ge5)) 3 (some ge5)))))))]) [1, 0] (by decide) rfl
  have hP := hP.sub (ws' := [(h0, .inr (9, [.int 0, .ref h1, .ref z0, .ref z1, .int 0, .int 0, .int 0]))]) [0] rfl
  have hD := hD.sub (ws' := [(h0, .inr (9, [.int 0, .ref h1, .ref z0, .ref z1, .int 0, .int 0, .int 0]))]) [0] (by decide) rfl
  exact W.iret (v := 0) hx hb hr (fun t ht hW => ⟨⟨0, (), rfl, rfl, by rw [ht]; exact hP, va_K.moved hW.alike hK, hD⟩, hS.F ht⟩) hS.2.2 dX5_copy_51
set_option maxHeartbeats 4000000 in
set_option maxRecDepth 100000 in
theorem kx_X3_copy_16 (l : Launch) (hst : l.stackTraces = false) (dC : Nat → ClassId) (dI : Nat → Nat → Nat) (ge5 gea gv5 gva gde gic gi0 : Nat) (h0 : Nat) (z0 : Nat) (z1 : Nat) (z2 : Nat) (z3 : Nat) (z4 : Nat) (z5 : Nat) (sz : Nat) (i0 : Int32) (i0_l : (0 : Int) ≤ i0.toInt) (i0_u : i0.toInt ≤ (3 : Int)) (i1 : Int32) (i1_l : ((-2147483648) : Int) ≤ i1.toInt) (i1_u : i1.toInt ≤ ((-1) : Int)) : vx_Met l yX3_copy wsX3_copy ({ frames := 7, cells := 1, slots := 6, locals := 140 }) (va_Pc [.ref h0, .int i0, .int i1] (fun U => U.heap.size = sz ∧ va_P (dC, dI) vwCl [(h0, .inr (7, [.ref z0, .ref z1, .ref z2, .ref z3, .ref z4, .ref z5, .int 0, .int 0, .int 0]))] U.heap ∧ va_K (dC, dI) vwCl [] U ∧ va_D (fun _ => True) [(h0, .inr (7, [.ref z0, .ref z1, .ref z2, .ref z3, .ref z4, .ref z5, .int 0, .int 0, .int 0]))] ∧ gv ge5 gea gv5 gva gde gic gi0 (va_A [(h0, .inr (7, [.ref z0, .ref z1, .ref z2, .ref z3, .ref z4, .ref z5, .int 0, .int 0, .int 0]))] sz) U U.heap)) (va_Qi (fun (_ : Int32) (_ : Unit) => False) (fun _ _ => True) (va_A [(h0, .inr (7, [.ref z0, .ref z1, .ref z2, .ref z3, .ref z4, .ref z5, .int 0, .int 0, .int 0]))] sz)) (vx_X (fun _ : Unit => True) (fun (E : String) (_ : Unit) (t : State) => E = "java/lang/IndexOutOfBoundsException" ∧ va_P (dC, dI) vwCl [(h0, .inr (7, [.ref z0, .ref z1, .ref z2, .ref z3, .ref z4, .ref z5, .int 0, .int 0, .int 0]))] t.heap ∧ va_K (dC, dI) vwCl [] t ∧ va_D (va_A [(h0, .inr (7, [.ref z0, .ref z1, .ref z2, .ref z3, .ref z4, .ref z5, .int 0, .int 0, .int 0]))] sz) [(h0, .inr (7, [.ref z0, .ref z1, .ref z2, .ref z3, .ref z4, .ref z5, .int 0, .int 0, .int 0]))]) (va_A [(h0, .inr (7, [.ref z0, .ref z1, .ref z2, .ref z3, .ref z4, .ref z5, .int 0, .int 0, .int 0]))] sz)) 1 6 (va_A [(h0, .inr (7, [.ref z0, .ref z1, .ref z2, .ref z3, .ref z4, .ref z5, .int 0, .int 0, .int 0]))] sz) := by
  refine vx_ofW (cc := cX3_copy) (maxL := 3) (ret := (some .int)) (by decide) rfl ?_
  intro p e s m args below meth c s₁ B hml ht9 hv
  obtain ⟨rfl, hsz, hP, hK, hD0, hG⟩ := hv
  have hx := B.exec
  have hb := B.bytes
  have hr := B.returns
  have hts := atoms_spec (ws := wsX3_copy) B.pre
  have hown : s.vm.findClass RX3 = some m.cls := findClass_of_methodNamed B.named
  have hlocks := B.notSynchronized
  subst hsz
  have hD := hD0.self (sz := s.heap.size)
  generalize hAe : va_A [(h0, .inr (7, [.ref z0, .ref z1, .ref z2, .ref z3, .ref z4, .ref z5, .int 0, .int 0, .int 0]))] s.heap.size = A at hD hG ⊢
  obtain ⟨⟨g_AO_Text, g_AO_String, g_AO_Object, g_nm_RX1_20, g_nm_RX0_17, g_nm_RX3_31, g_nm_RX2_44, g_nm_RL_121, g_nf_RL_13, g_nf_RL_47, g_ca_IO, g_ca_IA, g_ca_IS, g_ca_IntObj, g_ca_StrObj, g_de_RT, g_de_EX, g_de_TH, g_nc_IA_IO, g_nc_IS_IO, g_nc_IS_IA⟩, ⟨g_s3, g_s5, g_sa, g_x278, g_x280, g_x282, g_x284, g_x286, g_x180, g_x238, g_x250⟩, ⟨g_o5, g_c5, g_v5, g_t5, g_oa, g_ca, g_va, g_ta, g_zc, g_zd, g_td, g_zf, g_zU, g_zN, g_zh, g_zk, g_tk, g_oi, g_vi⟩⟩ := id hG
  have hA : ∀ q : Nat, s.heap.size ≤ q → A q := fun q h => by rw [← hAe]; exact Or.inr h
  have hS : va_S A s.heap s.heap [] := va_S.rf
  have hP : va_P (dC, dI) vwCl [(h0, .inr (7, [.ref z0, .ref z1, .ref z2, .ref z3, .ref z4, .ref z5, .int 0, .int 0, .int 0]))] s.heap := hP
  have hl := lv_entry ([.ref h0, .int i0, .int i1]) (n := 3) (Nat.le_of_ble_eq_true rfl)
  rw [lg_entry_eq]
  generalize (lg_sl ([.ref h0, .int i0, .int i1]) ++ List.replicate (3 - (lg_sl ([.ref h0, .int i0, .int i1])).length) Slot.unset).toArray = ls at hl ⊢
  have hl : lv_has ls 3 [(0, .ref h0), (1, .int i0), (2, .int i1)] := hl
  refine lv_iload_n hx hb dX3_copy_0 rfl (lv_at hl 1 rfl) ?_
  have hPc := hP.sub (ws' := []) [] rfl
  have hDc := hD.sub (ws' := []) [] (by decide) rfl
  have hKc := hK.sub (tys' := []) [] rfl
  have hFc := va_free (wc := []) hD hS hA [] rfl
  refine va_callv (va_runS (As := [.int i0]) (rest := []) ⟨hx, hb, hml, hown, hts⟩ (kx_X3_needRope_4 l dC dI s.heap.size i0 i0_l i0_u) (cwS 1 hts gX3_copy_X3_needRope rfl rfl rfl (by decide +kernel) ⟨Nat.le_of_ble_eq_true rfl, Nat.le_of_ble_eq_true rfl⟩) ⟨fun a U g mk q => by obtain ⟨q0, q1, qP, qK, qD⟩ := q; exact ⟨q0, q1, qP, va_K.moved (u := U) (U := U.calling g mk a) (Vm.Alike.refl U.vm) qK, qD⟩, fun U hU hW => ⟨rfl, by rw [hU], by rw [hU]; exact hPc, va_K.moved hW.alike hKc, hDc.weaken (fun _ _ _ _ => trivial)⟩⟩ rfl rfl hl.1 rfl (lv_room (Nat.le_of_ble_eq_true rfl)) dX3_copy_1 ⟨Nat.le_of_ble_eq_true rfl, Nat.le_of_ble_eq_true rfl⟩) hS (fun q _ h => hFc q h) hFc (fun u t H1 locs ht hvm hw hB hz1 hk1 hS => ?_)
  obtain ⟨hP1, hK1, hD1⟩ := hB
  rw [ht] at hP1
  have hK1 := va_K.moved hvm.symm hK1
  obtain ⟨hP, hD⟩ := va_join (wr := [(h0, .inr (7, [.ref z0, .ref z1, .ref z2, .ref z3, .ref z4, .ref z5, .int 0, .int 0, .int 0]))]) (w1 := []) hP hD [] [0] rfl rfl (by decide) (by decide) hk1 hFc hP1 hD1
  generalize H1 = H at hP hS ⊢
  have hP : va_P (dC, dI) vwCl [(h0, .inr (7, [.ref z0, .ref z1, .ref z2, .ref z3, .ref z4, .ref z5, .int 0, .int 0, .int 0]))] H := hP
  have hD : va_D A [(h0, .inr (7, [.ref z0, .ref z1, .ref z2, .ref z3, .ref z4, .ref z5, .int 0, .int 0, .int 0]))] := hD
  refine lv_iload_n hx hb dX3_copy_4 rfl (lv_at hl 2 rfl) ?_
  have hPc := hP.sub (ws' := []) [] rfl
  have hDc := hD.sub (ws' := []) [] (by decide) rfl
  have hKc := hK.sub (tys' := []) [] rfl
  have hFc := va_free (wc := []) hD hS hA [] rfl
  refine vx_callv (vx_runS (As := [.int i1]) (rest := []) ⟨hx, hb, hml, hown, hts⟩ (kx_X3_needRope_5 l hst dC dI ge5 gea gv5 gva gde gic gi0 H.size i1 i1_l i1_u) (cwS 1 hts gX3_copy_X3_needRope rfl rfl rfl (by decide +kernel) ⟨Nat.le_of_ble_eq_true rfl, Nat.le_of_ble_eq_true rfl⟩) ⟨fun a U g mk q => by obtain ⟨q0, q1, qP, qK, qD, qG⟩ := q; exact ⟨q0, q1, qP, va_K.moved (u := U) (U := U.calling g mk a) (Vm.Alike.refl U.vm) qK, qD, gv.fb qG⟩, fun U hU hW => ⟨rfl, by rw [hU], by rw [hU]; exact hPc, va_K.moved hW.alike hKc, hDc.weaken (fun _ _ _ _ => trivial), gv.pass hW hU hS hFc hG⟩⟩ rfl rfl hl.1 rfl (lv_room (Nat.le_of_ble_eq_true rfl)) dX3_copy_5 ⟨Nat.le_of_ble_eq_true rfl, Nat.le_of_ble_eq_true rfl⟩) hS (fun q _ h => hFc q h) hFc (fun q _ h => hFc q h) (fun E ce q9 u t H1 locs ht hvm hpx hB hz1 hk1 hS hce hcv hcl => ?_) (fun u t H1 locs ht hvm hw hB hz1 hk1 hS => hw.elim)
  obtain ⟨rfl, hP1, hK1, hD1⟩ := hB
  rw [ht] at hP1
  have hK1 := va_K.moved hvm.symm hK1
  obtain ⟨hP, hD⟩ := va_join (wr := [(h0, .inr (7, [.ref z0, .ref z1, .ref z2, .ref z3, .ref z4, .ref z5, .int 0, .int 0, .int 0]))]) (w1 := []) hP hD [] [0] rfl rfl (by decide) (by decide) hk1 hFc hP1 hD1
  generalize H1 = H at hP hS hce ⊢
  have hP : va_P (dC, dI) vwCl [(h0, .inr (7, [.ref z0, .ref z1, .ref z2, .ref z3, .ref z4, .ref z5, .int 0, .int 0, .int 0]))] H := hP
  have hD : va_D A [(h0, .inr (7, [.ref z0, .ref z1, .ref z2, .ref z3, .ref z4, .ref z5, .int 0, .int 0, .int 0]))] := hD
  exact vx_out (fun x hx9 => (ht9 x hx9).elim) hlocks hce hcv hcl (fun t ht hW => ⟨(), trivial, ⟨rfl, by rw [ht]; exact hP, va_K.moved hW hK, hD⟩, hS.F ht⟩) hS.2.2 (by omega) (by omega)
set_option maxHeartbeats 4000000 in
set_option maxRecDepth 100000 in
theorem kx_L_copy_1 (l : Launch) (hst : l.stackTraces = false) (dC : Nat → ClassId) (dI : Nat → Nat → Nat) (ge5 gea gv5 gva gde gic gi0 : Nat) (h0 : Nat) (z0 : Nat) (z1 : Nat) (z2 : Nat) (z3 : Nat) (z4 : Nat) (z5 : Nat) (z6 : Nat) (sz : Nat) (i0 : Int32) (i0_l : (0 : Int) ≤ i0.toInt) (i0_u : i0.toInt ≤ (3 : Int)) (i1 : Int32) (i1_l : ((-2147483648) : Int) ≤ i1.toInt) (i1_u : i1.toInt ≤ ((-1) : Int)) : Met l yL_copy wsL_copy ({ frames := 8, cells := 1, slots := 6, locals := 162 }) (va_Pc [.ref h0, .int i0, .int i1, .ref z0] (fun U => U.heap.size = sz ∧ va_P (dC, dI) vwCl [(h0, .inr (7, [.ref z1, .ref z2, .ref z3, .ref z4, .ref z5, .ref z6, .int 0, .int 0, .int 0]))] U.heap ∧ va_K (dC, dI) vwCl [] U ∧ va_D (fun _ => True) [(h0, .inr (7, [.ref z1, .ref z2, .ref z3, .ref z4, .ref z5, .ref z6, .int 0, .int 0, .int 0]))] ∧ gv ge5 gea gv5 gva gde gic gi0 (va_A [(h0, .inr (7, [.ref z1, .ref z2, .ref z3, .ref z4, .ref z5, .ref z6, .int 0, .int 0, .int 0]))] sz) U U.heap)) (va_Qi (fun (r : Int32) (_ : Unit) => r = 1) (fun (_ : Unit) (t : State) => va_P (dC, dI) vwCl [(h0, .inr (7, [.ref z1, .ref z2, .ref z3, .ref z4, .ref z5, .ref z6, .int 0, .int 0, .int 0]))] t.heap ∧ va_K (dC, dI) vwCl [] t ∧ va_D (va_A [(h0, .inr (7, [.ref z1, .ref z2, .ref z3, .ref z4, .ref z5, .ref z6, .int 0, .int 0, .int 0]))] sz) [(h0, .inr (7, [.ref z1, .ref z2, .ref z3, .ref z4, .ref z5, .ref z6, .int 0, .int 0, .int 0]))]) (va_A [(h0, .inr (7, [.ref z1, .ref z2, .ref z3, .ref z4, .ref z5, .ref z6, .int 0, .int 0, .int 0]))] sz)) 1 6 (va_A [(h0, .inr (7, [.ref z1, .ref z2, .ref z3, .ref z4, .ref z5, .ref z6, .int 0, .int 0, .int 0]))] sz) := by
  refine kz_ofWH (cc := cL_copy) (maxL := 5) (ret := (some .int)) (hh := [(0, 11, 14, 19)]) (by decide) rfl ?_
  intro p e s m args below meth c s₁ B hml hv
  obtain ⟨rfl, hsz, hP, hK, hD0, hG⟩ := hv
  have hx := B.exec
  have hb := B.bytes
  have hr := B.returns
  have hts := atoms_spec (ws := wsL_copy) B.pre
  have hown : s.vm.findClass RL = some m.cls := findClass_of_methodNamed B.named
  have htab := vx_table (x := yL_copy) B (hts (.codeWith yL_copy cL_copy 5 (some .int) [(0, 11, 14, 19)]) (by decide +kernel))
  have hlocks := B.notSynchronized
  subst hsz
  have hD := hD0.self (sz := s.heap.size)
  generalize hAe : va_A [(h0, .inr (7, [.ref z1, .ref z2, .ref z3, .ref z4, .ref z5, .ref z6, .int 0, .int 0, .int 0]))] s.heap.size = A at hD hG ⊢
  obtain ⟨⟨g_AO_Text, g_AO_String, g_AO_Object, g_nm_RX1_20, g_nm_RX0_17, g_nm_RX3_31, g_nm_RX2_44, g_nm_RL_121, g_nf_RL_13, g_nf_RL_47, g_ca_IO, g_ca_IA, g_ca_IS, g_ca_IntObj, g_ca_StrObj, g_de_RT, g_de_EX, g_de_TH, g_nc_IA_IO, g_nc_IS_IO, g_nc_IS_IA⟩, ⟨g_s3, g_s5, g_sa, g_x278, g_x280, g_x282, g_x284, g_x286, g_x180, g_x238, g_x250⟩, ⟨g_o5, g_c5, g_v5, g_t5, g_oa, g_ca, g_va, g_ta, g_zc, g_zd, g_td, g_zf, g_zU, g_zN, g_zh, g_zk, g_tk, g_oi, g_vi⟩⟩ := id hG
  have hA : ∀ q : Nat, s.heap.size ≤ q → A q := fun q h => by rw [← hAe]; exact Or.inr h
  have hS : va_S A s.heap s.heap [] := va_S.rf
  have hP : va_P (dC, dI) vwCl [(h0, .inr (7, [.ref z1, .ref z2, .ref z3, .ref z4, .ref z5, .ref z6, .int 0, .int 0, .int 0]))] s.heap := hP
  have hl := lv_entry ([.ref h0, .int i0, .int i1, .ref z0]) (n := 5) (Nat.le_of_ble_eq_true rfl)
  rw [lg_entry_eq]
  generalize (lg_sl ([.ref h0, .int i0, .int i1, .ref z0]) ++ List.replicate (5 - (lg_sl ([.ref h0, .int i0, .int i1, .ref z0])).length) Slot.unset).toArray = ls at hl ⊢
  have hl : lv_has ls 5 [(0, .ref h0), (1, .int i0), (2, .int i1), (3, .ref z0)] := hl
  refine lv_aload_n hx hb dL_copy_0 rfl (lv_at hl 3 rfl) ?_
  refine lv_aload_n hx hb dL_copy_1 rfl (lv_at hl 0 rfl) ?_
  refine lv_iload_n hx hb dL_copy_2 rfl (lv_at hl 1 rfl) ?_
  refine lv_iload_n hx hb dL_copy_3 rfl (lv_at hl 2 rfl) ?_
  have hPc := hP.sub (ws' := [(h0, .inr (7, [.ref z1, .ref z2, .ref z3, .ref z4, .ref z5, .ref z6, .int 0, .int 0, .int 0]))]) [0] rfl
  have hDc := hD.sub (ws' := [(h0, .inr (7, [.ref z1, .ref z2, .ref z3, .ref z4, .ref z5, .ref z6, .int 0, .int 0, .int 0]))]) [0] (by decide) rfl
  have hKc := hK.sub (tys' := []) [] rfl
  have hFc := va_free (wc := [(h0, .inr (7, [.ref z1, .ref z2, .ref z3, .ref z4, .ref z5, .ref z6, .int 0, .int 0, .int 0]))]) hD hS hA [0] rfl
  refine vx_calli (vx_runV (As := [.int i0, .int i1]) (rest := [.ref z0]) ⟨hx, hb, hml, hown, hts⟩ (kx_X3_copy_16 l hst dC dI ge5 gea gv5 gva gde gic gi0 h0 z1 z2 z3 z4 z5 z6 s.heap.size i0 i0_l i0_u i1 i1_l i1_u) (cwV 2 hts gL_copy_X3_copy rfl rfl rfl (by decide +kernel) ⟨Nat.le_of_ble_eq_true rfl, Nat.le_of_ble_eq_true rfl⟩) ⟨fun a U g mk q => by obtain ⟨q0, q1, qP, qK, qD, qG⟩ := q; exact ⟨q0, q1, qP, va_K.moved (u := U) (U := U.calling g mk a) (Vm.Alike.refl U.vm) qK, qD, gv.fb qG⟩, va_recv hKc hPc (ci := 7) (q0 := 0) rfl rfl, fun U hU hW => ⟨rfl, by rw [hU], by rw [hU]; exact hPc, va_K.moved hW.alike hKc, hDc.weaken (fun _ _ _ _ => trivial), gv.pass hW hU hS hFc hG⟩⟩ rfl rfl hl.1 rfl (lv_room (Nat.le_of_ble_eq_true rfl)) dL_copy_4 ⟨Nat.le_of_ble_eq_true rfl, Nat.le_of_ble_eq_true rfl⟩) hS (fun q _ h => hFc q h) hFc (fun q _ h => hFc q h) (fun E ce q9 u t H1 locs ht hvm hpx hB hz1 hk1 hS hce hcv hcl => ?_) (fun r9 u t H1 locs ht hvm hw hB hz1 hk1 hS => hw.elim)
  obtain ⟨rfl, hP1, hK1, hD1⟩ := hB
  rw [ht] at hP1
  have hK1 := va_K.moved hvm.symm hK1
  obtain ⟨hP, hD⟩ := va_join (wr := []) (w1 := [(h0, .inr (7, [.ref z1, .ref z2, .ref z3, .ref z4, .ref z5, .ref z6, .int 0, .int 0, .int 0]))]) hP hD [0] [] rfl rfl (by decide) (by decide) hk1 hFc hP1 hD1
  generalize H1 = H at hP hS hce ⊢
  have hP : va_P (dC, dI) vwCl [(h0, .inr (7, [.ref z1, .ref z2, .ref z3, .ref z4, .ref z5, .ref z6, .int 0, .int 0, .int 0]))] H := hP
  have hD : va_D A [(h0, .inr (7, [.ref z1, .ref z2, .ref z3, .ref z4, .ref z5, .ref z6, .int 0, .int 0, .int 0]))] := hD
  refine vx_catch (own := RL) (name := "java/lang/IndexOutOfBoundsException") hown (tableOf []) ⟨0, 11, 14, 19⟩ (tableOf []) (by rw [htab]; rfl) (fun z hz => nomatch hz) (by decide +kernel) (by decide) (hts (.classLink RL 19 "java/lang/IndexOutOfBoundsException") (by decide +kernel)) (va_Nw.use rfl g_ca_IO) hce hcv hcl ?_
  refine W.eq (g2 := F0 m 14 ls [.ref q9]) rfl ?_
  refine lv_astore (lv' := [(4, .ref q9), (0, .ref h0), (1, .int i0), (2, .int i1), (3, .ref z0)]) hx hb dL_copy_14 hl (by decide) rfl (fun ls hl => ?_)
  refine lv_iconst (v := 1) hx hb dL_copy_16 (by decide) ?_
  exact W.iret (v := 1) hx hb hr (fun t ht hW => ⟨⟨1, (), rfl, rfl, by rw [ht]; exact hP, va_K.moved hW.alike hK, hD⟩, hS.F ht⟩) hS.2.2 dL_copy_17
set_option maxHeartbeats 4000000 in
set_option maxRecDepth 100000 in
theorem kx_X5_copy_1 (l : Launch) (dC : Nat → ClassId) (dI : Nat → Nat → Nat) (h0 : Nat) (z0 : Nat) (z1 : Nat) (z2 : Nat) (sz : Nat) (i0 : Int32) (i0_l : (0 : Int) ≤ i0.toInt) (i0_u : i0.toInt ≤ (3 : Int)) (i1 : Int32) (i1_l : ((-2147483648) : Int) ≤ i1.toInt) (i1_u : i1.toInt ≤ ((-1) : Int)) : Met l yX5_copy wsX5_copy ({ frames := 2, cells := 0, slots := 0, locals := 42 }) (va_Pc [.ref h0, .int i0, .int i1] (fun U => U.heap.size = sz ∧ va_P (dC, dI) vwCl [(h0, .inr (9, [.int 0, .ref z0, .ref z1, .ref z2, .int 0, .int 0, .int 0]))] U.heap ∧ va_K (dC, dI) vwCl [] U ∧ va_D (fun _ => True) [(h0, .inr (9, [.int 0, .ref z0, .ref z1, .ref z2, .int 0, .int 0, .int 0]))])) (va_Qi (fun (r : Int32) (_ : Unit) => r = 0) (fun (_ : Unit) (t : State) => va_P (dC, dI) vwCl [(h0, .inr (9, [.int 1, .ref z0, .ref z1, .ref z2, .int 0, .int 0, .int 0]))] t.heap ∧ va_K (dC, dI) vwCl [] t ∧ va_D (va_A [(h0, .inr (9, [.int 0, .ref z0, .ref z1, .ref z2, .int 0, .int 0, .int 0]))] sz) [(h0, .inr (9, [.int 1, .ref z0, .ref z1, .ref z2, .int 0, .int 0, .int 0]))]) (va_A [(h0, .inr (9, [.int 0, .ref z0, .ref z1, .ref z2, .int 0, .int 0, .int 0]))] sz)) 0 0 (va_A [(h0, .inr (9, [.int 0, .ref z0, .ref z1, .ref z2, .int 0, .int 0, .int 0]))] sz) := by
  refine Met.ofW (cc := cX5_copy) (maxL := 3) (ret := (some .int)) (by decide) rfl ?_
  intro p e s m args below meth c s₁ B hml hv
  obtain ⟨rfl, hsz, hP, hK, hD0⟩ := hv
  have hx := B.exec
  have hb := B.bytes
  have hr := B.returns
  have hts := atoms_spec (ws := wsX5_copy) B.pre
  have hown : s.vm.findClass RX5 = some m.cls := findClass_of_methodNamed B.named
  have hlocks := B.notSynchronized
  subst hsz
  have hD := hD0.self (sz := s.heap.size)
  generalize hAe : va_A [(h0, .inr (9, [.int 0, .ref z0, .ref z1, .ref z2, .int 0, .int 0, .int 0]))] s.heap.size = A at hD ⊢
  have hA : ∀ q : Nat, s.heap.size ≤ q → A q := fun q h => by rw [← hAe]; exact Or.inr h
  have hS : va_S A s.heap s.heap [] := va_S.rf
  have hP : va_P (dC, dI) vwCl [(h0, .inr (9, [.int 0, .ref z0, .ref z1, .ref z2, .int 0, .int 0, .int 0]))] s.heap := hP
  have hl := lv_entry ([.ref h0, .int i0, .int i1]) (n := 3) (Nat.le_of_ble_eq_true rfl)
  rw [lg_entry_eq]
  generalize (lg_sl ([.ref h0, .int i0, .int i1]) ++ List.replicate (3 - (lg_sl ([.ref h0, .int i0, .int i1])).length) Slot.unset).toArray = ls at hl ⊢
  have hl : lv_has ls 3 [(0, .ref h0), (1, .int i0), (2, .int i1)] := hl
  refine lv_aload_n hx hb dX5_copy_0 rfl (lv_at hl 0 rfl) ?_
  refine lv_iload_n hx hb dX5_copy_1 rfl (lv_at hl 1 rfl) ?_
  have hPc := hP.sub (ws' := []) [] rfl
  have hDc := hD.sub (ws' := []) [] (by decide) rfl
  have hKc := hK.sub (tys' := []) [] rfl
  have hFc := va_free (wc := []) hD hS hA [] rfl
  refine va_calli (va_runS (As := [.int i0]) (rest := [.ref h0]) ⟨hx, hb, hml, hown, hts⟩ (kx_X5_isNo_1 l dC dI s.heap.size i0 i0_l i0_u) (cwS 1 hts gX5_copy_X5_isNo rfl rfl rfl (by decide +kernel) ⟨Nat.le_of_ble_eq_true rfl, Nat.le_of_ble_eq_true rfl⟩) ⟨fun a U g mk q => by obtain ⟨q0, q1, qP, qK, qD⟩ := q; exact ⟨q0, q1, qP, va_K.moved (u := U) (U := U.calling g mk a) (Vm.Alike.refl U.vm) qK, qD⟩, fun U hU hW => ⟨rfl, by rw [hU], by rw [hU]; exact hPc, va_K.moved hW.alike hKc, hDc.weaken (fun _ _ _ _ => trivial)⟩⟩ rfl rfl hl.1 rfl (lv_room (Nat.le_of_ble_eq_true rfl)) dX5_copy_2 ⟨Nat.le_of_ble_eq_true rfl, Nat.le_of_ble_eq_true rfl⟩) hS (fun q _ h => hFc q h) hFc (fun r9 u t H1 locs ht hvm hw hB hz1 hk1 hS => ?_)
  obtain rfl := hw
  obtain ⟨hP1, hK1, hD1⟩ := hB
  rw [ht] at hP1
  have hK1 := va_K.moved hvm.symm hK1
  obtain ⟨hP, hD⟩ := va_join (wr := [(h0, .inr (9, [.int 0, .ref z0, .ref z1, .ref z2, .int 0, .int 0, .int 0]))]) (w1 := []) hP hD [] [0] rfl rfl (by decide) (by decide) hk1 hFc hP1 hD1
  generalize H1 = H at hP hS ⊢
  have hP : va_P (dC, dI) vwCl [(h0, .inr (9, [.int 0, .ref z0, .ref z1, .ref z2, .int 0, .int 0, .int 0]))] H := hP
  have hD : va_D A [(h0, .inr (9, [.int 0, .ref z0, .ref z1, .ref z2, .int 0, .int 0, .int 0]))] := hD
  refine lv_if_ne (tgt := 15) hx hb dX5_copy_5 (by decide) (fun c9 => absurd (by decide) c9) (fun _ => ?_)
  refine lv_iload_n hx hb dX5_copy_8 rfl (lv_at hl 2 rfl) ?_
  have hPc := hP.sub (ws' := []) [] rfl
  have hDc := hD.sub (ws' := []) [] (by decide) rfl
  have hKc := hK.sub (tys' := []) [] rfl
  have hFc := va_free (wc := []) hD hS hA [] rfl
  refine va_calli (va_runS (As := [.int i1]) (rest := [.ref h0]) ⟨hx, hb, hml, hown, hts⟩ (kx_X5_isNo_0 l dC dI H.size i1 i1_l i1_u) (cwS 1 hts gX5_copy_X5_isNo rfl rfl rfl (by decide +kernel) ⟨Nat.le_of_ble_eq_true rfl, Nat.le_of_ble_eq_true rfl⟩) ⟨fun a U g mk q => by obtain ⟨q0, q1, qP, qK, qD⟩ := q; exact ⟨q0, q1, qP, va_K.moved (u := U) (U := U.calling g mk a) (Vm.Alike.refl U.vm) qK, qD⟩, fun U hU hW => ⟨rfl, by rw [hU], by rw [hU]; exact hPc, va_K.moved hW.alike hKc, hDc.weaken (fun _ _ _ _ => trivial)⟩⟩ rfl rfl hl.1 rfl (lv_room (Nat.le_of_ble_eq_true rfl)) dX5_copy_9 ⟨Nat.le_of_ble_eq_true rfl, Nat.le_of_ble_eq_true rfl⟩) hS (fun q _ h => hFc q h) hFc (fun r9 u t H1 locs ht hvm hw hB hz1 hk1 hS => ?_)
  obtain rfl := hw
  obtain ⟨hP1, hK1, hD1⟩ := hB
  rw [ht] at hP1
  have hK1 := va_K.moved hvm.symm hK1
  obtain ⟨hP, hD⟩ := va_join (wr := [(h0, .inr (9, [.int 0, .ref z0, .ref z1, .ref z2, .int 0, .int 0, .int 0]))]) (w1 := []) hP hD [] [0] rfl rfl (by decide) (by decide) hk1 hFc hP1 hD1
  generalize H1 = H at hP hS ⊢
  have hP : va_P (dC, dI) vwCl [(h0, .inr (9, [.int 0, .ref z0, .ref z1, .ref z2, .int 0, .int 0, .int 0]))] H := hP
  have hD : va_D A [(h0, .inr (9, [.int 0, .ref z0, .ref z1, .ref z2, .int 0, .int 0, .int 0]))] := hD
  refine lv_if_eq (tgt := 19) hx hb dX5_copy_12 (by decide) (fun c9 => absurd c9 (by decide)) (fun _ => ?_)
  refine lv_iconst (v := 1) hx hb dX5_copy_15 (by decide) ?_
  refine lv_goto (tgt := 20) hx hb dX5_copy_16 (by decide) ?_
  refine lv_iconst (v := 0) hx hb dX5_copy_20 (by decide) ?_
  refine lv_iconst (v := 0) hx hb dX5_copy_21 (by decide) ?_
  have hPc := hP.sub (ws' := [(h0, .inr (9, [.int 0, .ref z0, .ref z1, .ref z2, .int 0, .int 0, .int 0]))]) [0] rfl
  have hDc := hD.sub (ws' := [(h0, .inr (9, [.int 0, .ref z0, .ref z1, .ref z2, .int 0, .int 0, .int 0]))]) [0] (by decide) rfl
  have hKc := hK.sub (tys' := []) [] rfl
  have hFc := va_free (wc := [(h0, .inr (9, [.int 0, .ref z0, .ref z1, .ref z2, .int 0, .int 0, .int 0]))]) hD hS hA [0] rfl
  refine va_calli (va_runV (As := [.int 1, .int 0, .int 0]) (rest := []) ⟨hx, hb, hml, hown, hts⟩ (kx_X5_fails_0 l dC dI h0 z0 z1 z2 H.size) (cwV 3 hts gX5_copy_X5_fails rfl rfl rfl (by decide +kernel) ⟨Nat.le_of_ble_eq_true rfl, Nat.le_of_ble_eq_true rfl⟩) ⟨fun a U g mk q => by obtain ⟨q0, q1, qP, qK, qD⟩ := q; exact ⟨q0, q1, qP, va_K.moved (u := U) (U := U.calling g mk a) (Vm.Alike.refl U.vm) qK, qD⟩, va_recv hKc hPc (ci := 9) (q0 := 0) rfl rfl, fun U hU hW => ⟨rfl, by rw [hU], by rw [hU]; exact hPc, va_K.moved hW.alike hKc, hDc.weaken (fun _ _ _ _ => trivial)⟩⟩ rfl rfl hl.1 rfl (lv_room (Nat.le_of_ble_eq_true rfl)) dX5_copy_22 ⟨Nat.le_of_ble_eq_true rfl, Nat.le_of_ble_eq_true rfl⟩) hS (fun q _ h => hFc q h) hFc (fun r9 u t H1 locs ht hvm hw hB hz1 hk1 hS => ?_)
  obtain rfl := hw
  obtain ⟨hP1, hK1, hD1⟩ := hB
  rw [ht] at hP1
  have hK1 := va_K.moved hvm.symm hK1
  obtain ⟨hP, hD⟩ := va_join (wr := []) (w1 := [(h0, .inr (9, [.int 1, .ref z0, .ref z1, .ref z2, .int 0, .int 0, .int 0]))]) hP hD [0] [] rfl rfl (by decide) (by decide) hk1 hFc hP1 hD1
  generalize H1 = H at hP hS ⊢
  have hP : va_P (dC, dI) vwCl [(h0, .inr (9, [.int 1, .ref z0, .ref z1, .ref z2, .int 0, .int 0, .int 0]))] H := hP
  have hD : va_D A [(h0, .inr (9, [.int 1, .ref z0, .ref z1, .ref z2, .int 0, .int 0, .int 0]))] := hD
  refine lv_if_eq (tgt := 30) hx hb dX5_copy_25 (by decide) (fun c9 => absurd c9 (by decide)) (fun _ => ?_)
  refine lv_iconst (v := 0) hx hb dX5_copy_28 (by decide) ?_
  exact W.iret (v := 0) hx hb hr (fun t ht hW => ⟨⟨0, (), rfl, rfl, by rw [ht]; exact hP, va_K.moved hW.alike hK, hD⟩, hS.F ht⟩) hS.2.2 dX5_copy_29
set_option maxHeartbeats 4000000 in
set_option maxRecDepth 100000 in
theorem kx_X3_copy_17 (l : Launch) (hst : l.stackTraces = false) (dC : Nat → ClassId) (dI : Nat → Nat → Nat) (ge5 gea gv5 gva gde gic gi0 : Nat) (h0 : Nat) (z0 : Nat) (z1 : Nat) (z2 : Nat) (z3 : Nat) (z4 : Nat) (z5 : Nat) (sz : Nat) (i0 : Int32) (i0_l : (0 : Int) ≤ i0.toInt) (i0_u : i0.toInt ≤ (3 : Int)) (i1 : Int32) (i1_l : (4 : Int) ≤ i1.toInt) (i1_u : i1.toInt ≤ (2147483647 : Int)) : vx_Met l yX3_copy wsX3_copy ({ frames := 7, cells := 1, slots := 6, locals := 140 }) (va_Pc [.ref h0, .int i0, .int i1] (fun U => U.heap.size = sz ∧ va_P (dC, dI) vwCl [(h0, .inr (7, [.ref z0, .ref z1, .ref z2, .ref z3, .ref z4, .ref z5, .int 0, .int 0, .int 0]))] U.heap ∧ va_K (dC, dI) vwCl [] U ∧ va_D (fun _ => True) [(h0, .inr (7, [.ref z0, .ref z1, .ref z2, .ref z3, .ref z4, .ref z5, .int 0, .int 0, .int 0]))] ∧ gv ge5 gea gv5 gva gde gic gi0 (va_A [(h0, .inr (7, [.ref z0, .ref z1, .ref z2, .ref z3, .ref z4, .ref z5, .int 0, .int 0, .int 0]))] sz) U U.heap)) (va_Qi (fun (_ : Int32) (_ : Unit) => False) (fun _ _ => True) (va_A [(h0, .inr (7, [.ref z0, .ref z1, .ref z2, .ref z3, .ref z4, .ref z5, .int 0, .int 0, .int 0]))] sz)) (vx_X (fun _ : Unit => True) (fun (E : String) (_ : Unit) (t : State) => E = "java/lang/IndexOutOfBoundsException" ∧ va_P (dC, dI) vwCl [(h0, .inr (7, [.ref z0, .ref z1, .ref z2, .ref z3, .ref z4, .ref z5, .int 0, .int 0, .int 0]))] t.heap ∧ va_K (dC, dI) vwCl [] t ∧ va_D (va_A [(h0, .inr (7, [.ref z0, .ref z1, .ref z2, .ref z3, .ref z4, .ref z5, .int 0, .int 0, .int 0]))] sz) [(h0, .inr (7, [.ref z0, .ref z1, .ref z2, .ref z3, .ref z4, .ref z5, .int 0, .int 0, .int 0]))]) (va_A [(h0, .inr (7, [.ref z0, .ref z1, .ref z2, .ref z3, .ref z4, .ref z5, .int 0, .int 0, .int 0]))] sz)) 1 6 (va_A [(h0, .inr (7, [.ref z0, .ref z1, .ref z2, .ref z3, .ref z4, .ref z5, .int 0, .int 0, .int 0]))] sz) := by
  refine vx_ofW (cc := cX3_copy) (maxL := 3) (ret := (some .int)) (by decide) rfl ?_
  intro p e s m args below meth c s₁ B hml ht9 hv
  obtain ⟨rfl, hsz, hP, hK, hD0, hG⟩ := hv
  have hx := B.exec
  have hb := B.bytes
  have hr := B.returns
  have hts := atoms_spec (ws := wsX3_copy) B.pre
  have hown : s.vm.findClass RX3 = some m.cls := findClass_of_methodNamed B.named
  have hlocks := B.notSynchronized
  subst hsz
  have hD := hD0.self (sz := s.heap.size)
  generalize hAe : va_A [(h0, .inr (7, [.ref z0, .ref z1, .ref z2, .ref z3, .ref z4, .ref z5, .int 0, .int 0, .int 0]))] s.heap.size = A at hD hG ⊢
  obtain ⟨⟨g_AO_Text, g_AO_String, g_AO_Object, g_nm_RX1_20, g_nm_RX0_17, g_nm_RX3_31, g_nm_RX2_44, g_nm_RL_121, g_nf_RL_13, g_nf_RL_47, g_ca_IO, g_ca_IA, g_ca_IS, g_ca_IntObj, g_ca_StrObj, g_de_RT, g_de_EX, g_de_TH, g_nc_IA_IO, g_nc_IS_IO, g_nc_IS_IA⟩, ⟨g_s3, g_s5, g_sa, g_x278, g_x280, g_x282, g_x284, g_x286, g_x180, g_x238, g_x250⟩, ⟨g_o5, g_c5, g_v5, g_t5, g_oa, g_ca, g_va, g_ta, g_zc, g_zd, g_td, g_zf, g_zU, g_zN, g_zh, g_zk, g_tk, g_oi, g_vi⟩⟩ := id hG
  have hA : ∀ q : Nat, s.heap.size ≤ q → A q := fun q h => by rw [← hAe]; exact Or.inr h
  have hS : va_S A s.heap s.heap [] := va_S.rf
  have hP : va_P (dC, dI) vwCl [(h0, .inr (7, [.ref z0, .ref z1, .ref z2, .ref z3, .ref z4, .ref z5, .int 0, .int 0, .int 0]))] s.heap := hP
  have hl := lv_entry ([.ref h0, .int i0, .int i1]) (n := 3) (Nat.le_of_ble_eq_true rfl)
  rw [lg_entry_eq]
  generalize (lg_sl ([.ref h0, .int i0, .int i1]) ++ List.replicate (3 - (lg_sl ([.ref h0, .int i0, .int i1])).length) Slot.unset).toArray = ls at hl ⊢
  have hl : lv_has ls 3 [(0, .ref h0), (1, .int i0), (2, .int i1)] := hl
  refine lv_iload_n hx hb dX3_copy_0 rfl (lv_at hl 1 rfl) ?_
  have hPc := hP.sub (ws' := []) [] rfl
  have hDc := hD.sub (ws' := []) [] (by decide) rfl
  have hKc := hK.sub (tys' := []) [] rfl
  have hFc := va_free (wc := []) hD hS hA [] rfl
  refine va_callv (va_runS (As := [.int i0]) (rest := []) ⟨hx, hb, hml, hown, hts⟩ (kx_X3_needRope_4 l dC dI s.heap.size i0 i0_l i0_u) (cwS 1 hts gX3_copy_X3_needRope rfl rfl rfl (by decide +kernel) ⟨Nat.le_of_ble_eq_true rfl, Nat.le_of_ble_eq_true rfl⟩) ⟨fun a U g mk q => by obtain ⟨q0, q1, qP, qK, qD⟩ := q; exact ⟨q0, q1, qP, va_K.moved (u := U) (U := U.calling g mk a) (Vm.Alike.refl U.vm) qK, qD⟩, fun U hU hW => ⟨rfl, by rw [hU], by rw [hU]; exact hPc, va_K.moved hW.alike hKc, hDc.weaken (fun _ _ _ _ => trivial)⟩⟩ rfl rfl hl.1 rfl (lv_room (Nat.le_of_ble_eq_true rfl)) dX3_copy_1 ⟨Nat.le_of_ble_eq_true rfl, Nat.le_of_ble_eq_true rfl⟩) hS (fun q _ h => hFc q h) hFc (fun u t H1 locs ht hvm hw hB hz1 hk1 hS => ?_)
  obtain ⟨hP1, hK1, hD1⟩ := hB
  rw [ht] at hP1
  have hK1 := va_K.moved hvm.symm hK1
  obtain ⟨hP, hD⟩ := va_join (wr := [(h0, .inr (7, [.ref z0, .ref z1, .ref z2, .ref z3, .ref z4, .ref z5, .int 0, .int 0, .int 0]))]) (w1 := []) hP hD [] [0] rfl rfl (by decide) (by decide) hk1 hFc hP1 hD1
  generalize H1 = H at hP hS ⊢
  have hP : va_P (dC, dI) vwCl [(h0, .inr (7, [.ref z0, .ref z1, .ref z2, .ref z3, .ref z4, .ref z5, .int 0, .int 0, .int 0]))] H := hP
  have hD : va_D A [(h0, .inr (7, [.ref z0, .ref z1, .ref z2, .ref z3, .ref z4, .ref z5, .int 0, .int 0, .int 0]))] := hD
  refine lv_iload_n hx hb dX3_copy_4 rfl (lv_at hl 2 rfl) ?_
  have hPc := hP.sub (ws' := []) [] rfl
  have hDc := hD.sub (ws' := []) [] (by decide) rfl
  have hKc := hK.sub (tys' := []) [] rfl
  have hFc := va_free (wc := []) hD hS hA [] rfl
  refine vx_callv (vx_runS (As := [.int i1]) (rest := []) ⟨hx, hb, hml, hown, hts⟩ (kx_X3_needRope_6 l hst dC dI ge5 gea gv5 gva gde gic gi0 H.size i1 i1_l i1_u) (cwS 1 hts gX3_copy_X3_needRope rfl rfl rfl (by decide +kernel) ⟨Nat.le_of_ble_eq_true rfl, Nat.le_of_ble_eq_true rfl⟩) ⟨fun a U g mk q => by obtain ⟨q0, q1, qP, qK, qD, qG⟩ := q; exact ⟨q0, q1, qP, va_K.moved (u := U) (U := U.calling g mk a) (Vm.Alike.refl U.vm) qK, qD, gv.fb qG⟩, fun U hU hW => ⟨rfl, by rw [hU], by rw [hU]; exact hPc, va_K.moved hW.alike hKc, hDc.weaken (fun _ _ _ _ => trivial), gv.pass hW hU hS hFc hG⟩⟩ rfl rfl hl.1 rfl (lv_room (Nat.le_of_ble_eq_true rfl)) dX3_copy_5 ⟨Nat.le_of_ble_eq_true rfl, Nat.le_of_ble_eq_true rfl⟩) hS (fun q _ h => hFc q h) hFc (fun q _ h => hFc q h) (fun E ce q9 u t H1 locs ht hvm hpx hB hz1 hk1 hS hce hcv hcl => ?_) (fun u t H1 locs ht hvm hw hB hz1 hk1 hS => hw.elim)
  obtain ⟨rfl, hP1, hK1, hD1⟩ := hB
  rw [ht] at hP1
  have hK1 := va_K.moved hvm.symm hK1
  obtain ⟨hP, hD⟩ := va_join (wr := [(h0, .inr (7, [.ref z0, .ref z1, .ref z2, .ref z3, .ref z4, .ref z5, .int 0, .int 0, .int 0]))]) (w1 := []) hP hD [] [0] rfl rfl (by decide) (by decide) hk1 hFc hP1 hD1
  generalize H1 = H at hP hS hce ⊢
  have hP : va_P (dC, dI) vwCl [(h0, .inr (7, [.ref z0, .ref z1, .ref z2, .ref z3, .ref z4, .ref z5, .int 0, .int 0, .int 0]))] H := hP
  have hD : va_D A [(h0, .inr (7, [.ref z0, .ref z1, .ref z2, .ref z3, .ref z4, .ref z5, .int 0, .int 0, .int 0]))] := hD
  exact vx_out (fun x hx9 => (ht9 x hx9).elim) hlocks hce hcv hcl (fun t ht hW => ⟨(), trivial, ⟨rfl, by rw [ht]; exact hP, va_K.moved hW hK, hD⟩, hS.F ht⟩) hS.2.2 (by omega) (by omega)
set_option maxHeartbeats 4000000 in
set_option maxRecDepth 100000 in
theorem kx_L_copy_2 (l : Launch) (hst : l.stackTraces = false) (dC : Nat → ClassId) (dI : Nat → Nat → Nat) (ge5 gea gv5 gva gde gic gi0 : Nat) (h0 : Nat) (z0 : Nat) (z1 : Nat) (z2 : Nat) (z3 : Nat) (z4 : Nat) (z5 : Nat) (z6 : Nat) (sz : Nat) (i0 : Int32) (i0_l : (0 : Int) ≤ i0.toInt) (i0_u : i0.toInt ≤ (3 : Int)) (i1 : Int32) (i1_l : (4 : Int) ≤ i1.toInt) (i1_u : i1.toInt ≤ (2147483647 : Int)) : Met l yL_copy wsL_copy ({ frames := 8, cells := 1, slots := 6, locals := 162 }) (va_Pc [.ref h0, .int i0, .int i1, .ref z0] (fun U => U.heap.size = sz ∧ va_P (dC, dI) vwCl [(h0, .inr (7, [.ref z1, .ref z2, .ref z3, .ref z4, .ref z5, .ref z6, .int 0, .int 0, .int 0]))] U.heap ∧ va_K (dC, dI) vwCl [] U ∧ va_D (fun _ => True) [(h0, .inr (7, [.ref z1, .ref z2, .ref z3, .ref z4, .ref z5, .ref z6, .int 0, .int 0, .int 0]))] ∧ gv ge5 gea gv5 gva gde gic gi0 (va_A [(h0, .inr (7, [.ref z1, .ref z2, .ref z3, .ref z4, .ref z5, .ref z6, .int 0, .int 0, .int 0]))] sz) U U.heap)) (va_Qi (fun (r : Int32) (_ : Unit) => r = 1) (fun (_ : Unit) (t : State) => va_P (dC, dI) vwCl [(h0, .inr (7, [.ref z1, .ref z2, .ref z3, .ref z4, .ref z5, .ref z6, .int 0, .int 0, .int 0]))] t.heap ∧ va_K (dC, dI) vwCl [] t ∧ va_D (va_A [(h0, .inr (7, [.ref z1, .ref z2, .ref z3, .ref z4, .ref z5, .ref z6, .int 0, .int 0, .int 0]))] sz) [(h0, .inr (7, [.ref z1, .ref z2, .ref z3, .ref z4, .ref z5, .ref z6, .int 0, .int 0, .int 0]))]) (va_A [(h0, .inr (7, [.ref z1, .ref z2, .ref z3, .ref z4, .ref z5, .ref z6, .int 0, .int 0, .int 0]))] sz)) 1 6 (va_A [(h0, .inr (7, [.ref z1, .ref z2, .ref z3, .ref z4, .ref z5, .ref z6, .int 0, .int 0, .int 0]))] sz) := by
  refine kz_ofWH (cc := cL_copy) (maxL := 5) (ret := (some .int)) (hh := [(0, 11, 14, 19)]) (by decide) rfl ?_
  intro p e s m args below meth c s₁ B hml hv
  obtain ⟨rfl, hsz, hP, hK, hD0, hG⟩ := hv
  have hx := B.exec
  have hb := B.bytes
  have hr := B.returns
  have hts := atoms_spec (ws := wsL_copy) B.pre
  have hown : s.vm.findClass RL = some m.cls := findClass_of_methodNamed B.named
  have htab := vx_table (x := yL_copy) B (hts (.codeWith yL_copy cL_copy 5 (some .int) [(0, 11, 14, 19)]) (by decide +kernel))
  have hlocks := B.notSynchronized
  subst hsz
  have hD := hD0.self (sz := s.heap.size)
  generalize hAe : va_A [(h0, .inr (7, [.ref z1, .ref z2, .ref z3, .ref z4, .ref z5, .ref z6, .int 0, .int 0, .int 0]))] s.heap.size = A at hD hG ⊢
  obtain ⟨⟨g_AO_Text, g_AO_String, g_AO_Object, g_nm_RX1_20, g_nm_RX0_17, g_nm_RX3_31, g_nm_RX2_44, g_nm_RL_121, g_nf_RL_13, g_nf_RL_47, g_ca_IO, g_ca_IA, g_ca_IS, g_ca_IntObj, g_ca_StrObj, g_de_RT, g_de_EX, g_de_TH, g_nc_IA_IO, g_nc_IS_IO, g_nc_IS_IA⟩, ⟨g_s3, g_s5, g_sa, g_x278, g_x280, g_x282, g_x284, g_x286, g_x180, g_x238, g_x250⟩, ⟨g_o5, g_c5, g_v5, g_t5, g_oa, g_ca, g_va, g_ta, g_zc, g_zd, g_td, g_zf, g_zU, g_zN, g_zh, g_zk, g_tk, g_oi, g_vi⟩⟩ := id hG
  have hA : ∀ q : Nat, s.heap.size ≤ q → A q := fun q h => by rw [← hAe]; exact Or.inr h
  have hS : va_S A s.heap s.heap [] := va_S.rf
  have hP : va_P (dC, dI) vwCl [(h0, .inr (7, [.ref z1, .ref z2, .ref z3, .ref z4, .ref z5, .ref z6, .int 0, .int 0, .int 0]))] s.heap := hP
  have hl := lv_entry ([.ref h0, .int i0, .int i1, .ref z0]) (n := 5) (Nat.le_of_ble_eq_true rfl)
  rw [lg_entry_eq]
  generalize (lg_sl ([.ref h0, .int i0, .int i1, .ref z0]) ++ List.replicate (5 - (lg_sl ([.ref h0, .int i0, .int i1, .ref z0])).length) Slot.unset).toArray = ls at hl ⊢
  have hl : lv_has ls 5 [(0, .ref h0), (1, .int i0), (2, .int i1), (3, .ref z0)] := hl
  refine lv_aload_n hx hb dL_copy_0 rfl (lv_at hl 3 rfl) ?_
  refine lv_aload_n hx hb dL_copy_1 rfl (lv_at hl 0 rfl) ?_
  refine lv_iload_n hx hb dL_copy_2 rfl (lv_at hl 1 rfl) ?_
  refine lv_iload_n hx hb dL_copy_3 rfl (lv_at hl 2 rfl) ?_
  have hPc := hP.sub (ws' := [(h0, .inr (7, [.ref z1, .ref z2, .ref z3, .ref z4, .ref z5, .ref z6, .int 0, .int 0, .int 0]))]) [0] rfl
  have hDc := hD.sub (ws' := [(h0, .inr (7, [.ref z1, .ref z2, .ref z3, .ref z4, .ref z5, .ref z6, .int 0, .int 0, .int 0]))]) [0] (by decide) rfl
  have hKc := hK.sub (tys' := []) [] rfl
  have hFc := va_free (wc := [(h0, .inr (7, [.ref z1, .ref z2, .ref z3, .ref z4, .ref z5, .ref z6, .int 0, .int 0, .int 0]))]) hD hS hA [0] rfl
  refine vx_calli (vx_runV (As := [.int i0, .int i1]) (rest := [.ref z0]) ⟨hx, hb, hml, hown, hts⟩ (kx_X3_copy_17 l hst dC dI ge5 gea gv5 gva gde gic gi0 h0 z1 z2 z3 z4 z5 z6 s.heap.size i0 i0_l i0_u i1 i1_l i1_u) (cwV 2 hts gL_copy_X3_copy rfl rfl rfl (by decide +kernel) ⟨Nat.le_of_ble_eq_true rfl, Nat.le_of_ble_eq_true rfl⟩) ⟨fun a U g mk q => by obtain ⟨q0, q1, qP, qK, qD, qG⟩ := q; exact ⟨q0, q1, qP, va_K.moved (u := U) (U := U.calling g mk a) (Vm.Alike.refl U.vm) qK, qD, gv.fb qG⟩, va_recv hKc hPc (ci := 7) (q0 := 0) rfl rfl, fun U hU hW => ⟨rfl, by rw [hU], by rw [hU]; exact hPc, va_K.moved hW.alike hKc, hDc.weaken (fun _ _ _ _ => trivial), gv.pass hW hU hS hFc hG⟩⟩ rfl rfl hl.1 rfl (lv_room (Nat.le_of_ble_eq_true rfl)) dL_copy_4 ⟨Nat.le_of_ble_eq_true rfl, Nat.le_of_ble_eq_true rfl⟩) hS (fun q _ h => hFc q h) hFc (fun q _ h => hFc q h) (fun E ce q9 u t H1 locs ht hvm hpx hB hz1 hk1 hS hce hcv hcl => ?_) (fun r9 u t H1 locs ht hvm hw hB hz1 hk1 hS => hw.elim)
  obtain ⟨rfl, hP1, hK1, hD1⟩ := hB
  rw [ht] at hP1
  have hK1 := va_K.moved hvm.symm hK1
  obtain ⟨hP, hD⟩ := va_join (wr := []) (w1 := [(h0, .inr (7, [.ref z1, .ref z2, .ref z3, .ref z4, .ref z5, .ref z6, .int 0, .int 0, .int 0]))]) hP hD [0] [] rfl rfl (by decide) (by decide) hk1 hFc hP1 hD1
  generalize H1 = H at hP hS hce ⊢
  have hP : va_P (dC, dI) vwCl [(h0, .inr (7, [.ref z1, .ref z2, .ref z3, .ref z4, .ref z5, .ref z6, .int 0, .int 0, .int 0]))] H := hP
  have hD : va_D A [(h0, .inr (7, [.ref z1, .ref z2, .ref z3, .ref z4, .ref z5, .ref z6, .int 0, .int 0, .int 0]))] := hD
  refine vx_catch (own := RL) (name := "java/lang/IndexOutOfBoundsException") hown (tableOf []) ⟨0, 11, 14, 19⟩ (tableOf []) (by rw [htab]; rfl) (fun z hz => nomatch hz) (by decide +kernel) (by decide) (hts (.classLink RL 19 "java/lang/IndexOutOfBoundsException") (by decide +kernel)) (va_Nw.use rfl g_ca_IO) hce hcv hcl ?_
  refine W.eq (g2 := F0 m 14 ls [.ref q9]) rfl ?_
  refine lv_astore (lv' := [(4, .ref q9), (0, .ref h0), (1, .int i0), (2, .int i1), (3, .ref z0)]) hx hb dL_copy_14 hl (by decide) rfl (fun ls hl => ?_)
  refine lv_iconst (v := 1) hx hb dL_copy_16 (by decide) ?_
  exact W.iret (v := 1) hx hb hr (fun t ht hW => ⟨⟨1, (), rfl, rfl, by rw [ht]; exact hP, va_K.moved hW.alike hK, hD⟩, hS.F ht⟩) hS.2.2 dL_copy_17
set_option maxHeartbeats 4000000 in
set_option maxRecDepth 100000 in
theorem kx_X5_copy_2 (l : Launch) (dC : Nat → ClassId) (dI : Nat → Nat → Nat) (h0 : Nat) (z0 : Nat) (z1 : Nat) (z2 : Nat) (sz : Nat) (i0 : Int32) (i0_l : (0 : Int) ≤ i0.toInt) (i0_u : i0.toInt ≤ (3 : Int)) (i1 : Int32) (i1_l : (4 : Int) ≤ i1.toInt) (i1_u : i1.toInt ≤ (2147483647 : Int)) : Met l yX5_copy wsX5_copy ({ frames := 2, cells := 0, slots := 0, locals := 42 }) (va_Pc [.ref h0, .int i0, .int i1] (fun U => U.heap.size = sz ∧ va_P (dC, dI) vwCl [(h0, .inr (9, [.int 0, .ref z0, .ref z1, .ref z2, .int 0, .int 0, .int 0]))] U.heap ∧ va_K (dC, dI) vwCl [] U ∧ va_D (fun _ => True) [(h0, .inr (9, [.int 0, .ref z0, .ref z1, .ref z2, .int 0, .int 0, .int 0]))])) (va_Qi (fun (r : Int32) (_ : Unit) => r = 0) (fun (_ : Unit) (t : State) => va_P (dC, dI) vwCl [(h0, .inr (9, [.int 1, .ref z0, .ref z1, .ref z2, .int 0, .int 0, .int 0]))] t.heap ∧ va_K (dC, dI) vwCl [] t ∧ va_D (va_A [(h0, .inr (9, [.int 0, .ref z0, .ref z1, .ref z2, .int 0, .int 0, .int 0]))] sz) [(h0, .inr (9, [.int 1, .ref z0, .ref z1, .ref z2, .int 0, .int 0, .int 0]))]) (va_A [(h0, .inr (9, [.int 0, .ref z0, .ref z1, .ref z2, .int 0, .int 0, .int 0]))] sz)) 0 0 (va_A [(h0, .inr (9, [.int 0, .ref z0, .ref z1, .ref z2, .int 0, .int 0, .int 0]))] sz) := by
  refine Met.ofW (cc := cX5_copy) (maxL := 3) (ret := (some .int)) (by decide) rfl ?_
  intro p e s m args below meth c s₁ B hml hv
  obtain ⟨rfl, hsz, hP, hK, hD0⟩ := hv
  have hx := B.exec
  have hb := B.bytes
  have hr := B.returns
  have hts := atoms_spec (ws := wsX5_copy) B.pre
  have hown : s.vm.findClass RX5 = some m.cls := findClass_of_methodNamed B.named
  have hlocks := B.notSynchronized
  subst hsz
  have hD := hD0.self (sz := s.heap.size)
  generalize hAe : va_A [(h0, .inr (9, [.int 0, .ref z0, .ref z1, .ref z2, .int 0, .int 0, .int 0]))] s.heap.size = A at hD ⊢
  have hA : ∀ q : Nat, s.heap.size ≤ q → A q := fun q h => by rw [← hAe]; exact Or.inr h
  have hS : va_S A s.heap s.heap [] := va_S.rf
  have hP : va_P (dC, dI) vwCl [(h0, .inr (9, [.int 0, .ref z0, .ref z1, .ref z2, .int 0, .int 0, .int 0]))] s.heap := hP
  have hl := lv_entry ([.ref h0, .int i0, .int i1]) (n := 3) (Nat.le_of_ble_eq_true rfl)
  rw [lg_entry_eq]
  generalize (lg_sl ([.ref h0, .int i0, .int i1]) ++ List.replicate (3 - (lg_sl ([.ref h0, .int i0, .int i1])).length) Slot.unset).toArray = ls at hl ⊢
  have hl : lv_has ls 3 [(0, .ref h0), (1, .int i0), (2, .int i1)] := hl
  refine lv_aload_n hx hb dX5_copy_0 rfl (lv_at hl 0 rfl) ?_
  refine lv_iload_n hx hb dX5_copy_1 rfl (lv_at hl 1 rfl) ?_
  have hPc := hP.sub (ws' := []) [] rfl
  have hDc := hD.sub (ws' := []) [] (by decide) rfl
  have hKc := hK.sub (tys' := []) [] rfl
  have hFc := va_free (wc := []) hD hS hA [] rfl
  refine va_calli (va_runS (As := [.int i0]) (rest := [.ref h0]) ⟨hx, hb, hml, hown, hts⟩ (kx_X5_isNo_1 l dC dI s.heap.size i0 i0_l i0_u) (cwS 1 hts gX5_copy_X5_isNo rfl rfl rfl (by decide +kernel) ⟨Nat.le_of_ble_eq_true rfl, Nat.le_of_ble_eq_true rfl⟩) ⟨fun a U g mk q => by obtain ⟨q0, q1, qP, qK, qD⟩ := q; exact ⟨q0, q1, qP, va_K.moved (u := U) (U := U.calling g mk a) (Vm.Alike.refl U.vm) qK, qD⟩, fun U hU hW => ⟨rfl, by rw [hU], by rw [hU]; exact hPc, va_K.moved hW.alike hKc, hDc.weaken (fun _ _ _ _ => trivial)⟩⟩ rfl rfl hl.1 rfl (lv_room (Nat.le_of_ble_eq_true rfl)) dX5_copy_2 ⟨Nat.le_of_ble_eq_true rfl, Nat.le_of_ble_eq_true rfl⟩) hS (fun q _ h => hFc q h) hFc (fun r9 u t H1 locs ht hvm hw hB hz1 hk1 hS => ?_)
  obtain rfl := hw
  obtain ⟨hP1, hK1, hD1⟩ := hB
  rw [ht] at hP1
  have hK1 := va_K.moved hvm.symm hK1
  obtain ⟨hP, hD⟩ := va_join (wr := [(h0, .inr (9, [.int 0, .ref z0, .ref z1, .ref z2, .int 0, .int 0, .int 0]))]) (w1 := []) hP hD [] [0] rfl rfl (by decide) (by decide) hk1 hFc hP1 hD1
  generalize H1 = H at hP hS ⊢
  have hP : va_P (dC, dI) vwCl [(h0, .inr (9, [.int 0, .ref z0, .ref z1, .ref z2, .int 0, .int 0, .int 0]))] H := hP
  have hD : va_D A [(h0, .inr (9, [.int 0, .ref z0, .ref z1, .ref z2, .int 0, .int 0, .int 0]))] := hD
  refine lv_if_ne (tgt := 15) hx hb dX5_copy_5 (by decide) (fun c9 => absurd (by decide) c9) (fun _ => ?_)
  refine lv_iload_n hx hb dX5_copy_8 rfl (lv_at hl 2 rfl) ?_
  have hPc := hP.sub (ws' := []) [] rfl
  have hDc := hD.sub (ws' := []) [] (by decide) rfl
  have hKc := hK.sub (tys' := []) [] rfl
  have hFc := va_free (wc := []) hD hS hA [] rfl
  refine va_calli (va_runS (As := [.int i1]) (rest := [.ref h0]) ⟨hx, hb, hml, hown, hts⟩ (kx_X5_isNo_2 l dC dI H.size i1 i1_l i1_u) (cwS 1 hts gX5_copy_X5_isNo rfl rfl rfl (by decide +kernel) ⟨Nat.le_of_ble_eq_true rfl, Nat.le_of_ble_eq_true rfl⟩) ⟨fun a U g mk q => by obtain ⟨q0, q1, qP, qK, qD⟩ := q; exact ⟨q0, q1, qP, va_K.moved (u := U) (U := U.calling g mk a) (Vm.Alike.refl U.vm) qK, qD⟩, fun U hU hW => ⟨rfl, by rw [hU], by rw [hU]; exact hPc, va_K.moved hW.alike hKc, hDc.weaken (fun _ _ _ _ => trivial)⟩⟩ rfl rfl hl.1 rfl (lv_room (Nat.le_of_ble_eq_true rfl)) dX5_copy_9 ⟨Nat.le_of_ble_eq_true rfl, Nat.le_of_ble_eq_true rfl⟩) hS (fun q _ h => hFc q h) hFc (fun r9 u t H1 locs ht hvm hw hB hz1 hk1 hS => ?_)
  obtain rfl := hw
  obtain ⟨hP1, hK1, hD1⟩ := hB
  rw [ht] at hP1
  have hK1 := va_K.moved hvm.symm hK1
  obtain ⟨hP, hD⟩ := va_join (wr := [(h0, .inr (9, [.int 0, .ref z0, .ref z1, .ref z2, .int 0, .int 0, .int 0]))]) (w1 := []) hP hD [] [0] rfl rfl (by decide) (by decide) hk1 hFc hP1 hD1
  generalize H1 = H at hP hS ⊢
  have hP : va_P (dC, dI) vwCl [(h0, .inr (9, [.int 0, .ref z0, .ref z1, .ref z2, .int 0, .int 0, .int 0]))] H := hP
  have hD : va_D A [(h0, .inr (9, [.int 0, .ref z0, .ref z1, .ref z2, .int 0, .int 0, .int 0]))] := hD
  refine lv_if_eq (tgt := 19) hx hb dX5_copy_12 (by decide) (fun c9 => absurd c9 (by decide)) (fun _ => ?_)
  refine lv_iconst (v := 1) hx hb dX5_copy_15 (by decide) ?_
  refine lv_goto (tgt := 20) hx hb dX5_copy_16 (by decide) ?_
  refine lv_iconst (v := 0) hx hb dX5_copy_20 (by decide) ?_
  refine lv_iconst (v := 0) hx hb dX5_copy_21 (by decide) ?_
  have hPc := hP.sub (ws' := [(h0, .inr (9, [.int 0, .ref z0, .ref z1, .ref z2, .int 0, .int 0, .int 0]))]) [0] rfl
  have hDc := hD.sub (ws' := [(h0, .inr (9, [.int 0, .ref z0, .ref z1, .ref z2, .int 0, .int 0, .int 0]))]) [0] (by decide) rfl
  have hKc := hK.sub (tys' := []) [] rfl
  have hFc := va_free (wc := [(h0, .inr (9, [.int 0, .ref z0, .ref z1, .ref z2, .int 0, .int 0, .int 0]))]) hD hS hA [0] rfl
  refine va_calli (va_runV (As := [.int 1, .int 0, .int 0]) (rest := []) ⟨hx, hb, hml, hown, hts⟩ (kx_X5_fails_0 l dC dI h0 z0 z1 z2 H.size) (cwV 3 hts gX5_copy_X5_fails rfl rfl rfl (by decide +kernel) ⟨Nat.le_of_ble_eq_true rfl, Nat.le_of_ble_eq_true rfl⟩) ⟨fun a U g mk q => by obtain ⟨q0, q1, qP, qK, qD⟩ := q; exact ⟨q0, q1, qP, va_K.moved (u := U) (U := U.calling g mk a) (Vm.Alike.refl U.vm) qK, qD⟩, va_recv hKc hPc (ci := 9) (q0 := 0) rfl rfl, fun U hU hW => ⟨rfl, by rw [hU], by rw [hU]; exact hPc, va_K.moved hW.alike hKc, hDc.weaken (fun _ _ _ _ => trivial)⟩⟩ rfl rfl hl.1 rfl (lv_room (Nat.le_of_ble_eq_true rfl)) dX5_copy_22 ⟨Nat.le_of_ble_eq_true rfl, Nat.le_of_ble_eq_true rfl⟩) hS (fun q _ h => hFc q h) hFc (fun r9 u t H1 locs ht hvm hw hB hz1 hk1 hS => ?_)
  obtain rfl := hw
  obtain ⟨hP1, hK1, hD1⟩ := hB
  rw [ht] at hP1
  have hK1 := va_K.moved hvm.symm hK1
  obtain ⟨hP, hD⟩ := va_join (wr := []) (w1 := [(h0, .inr (9, [.int 1, .ref z0, .ref z1, .ref z2, .int 0, .int 0, .int 0]))]) hP hD [0] [] rfl rfl (by decide) (by decide) hk1 hFc hP1 hD1
  generalize H1 = H at hP hS ⊢
  have hP : va_P (dC, dI) vwCl [(h0, .inr (9, [.int 1, .ref z0, .ref z1, .ref z2, .int 0, .int 0, .int 0]))] H := hP
  have hD : va_D A [(h0, .inr (9, [.int 1, .ref z0, .ref z1, .ref z2, .int 0, .int 0, .int 0]))] := hD
  refine lv_if_eq (tgt := 30) hx hb dX5_copy_25 (by decide) (fun c9 => absurd c9 (by decide)) (fun _ => ?_)
  refine lv_iconst (v := 0) hx hb dX5_copy_28 (by decide) ?_
  exact W.iret (v := 0) hx hb hr (fun t ht hW => ⟨⟨0, (), rfl, rfl, by rw [ht]; exact hP, va_K.moved hW.alike hK, hD⟩, hS.F ht⟩) hS.2.2 dX5_copy_29
set_option maxHeartbeats 4000000 in
set_option maxRecDepth 100000 in
theorem kx_X3_copy_18 (l : Launch) (hst : l.stackTraces = false) (dC : Nat → ClassId) (dI : Nat → Nat → Nat) (ge5 gea gv5 gva gde gic gi0 : Nat) (h0 : Nat) (z0 : Nat) (z1 : Nat) (z2 : Nat) (z3 : Nat) (z4 : Nat) (z5 : Nat) (sz : Nat) (i0 : Int32) (i0_l : ((-2147483648) : Int) ≤ i0.toInt) (i0_u : i0.toInt ≤ ((-1) : Int)) (i1 : Int32) (i1_l : ((-2147483648) : Int) ≤ i1.toInt) (i1_u : i1.toInt ≤ (2147483647 : Int)) : vx_Met l yX3_copy wsX3_copy ({ frames := 7, cells := 1, slots := 6, locals := 140 }) (va_Pc [.ref h0, .int i0, .int i1] (fun U => U.heap.size = sz ∧ va_P (dC, dI) vwCl [(h0, .inr (7, [.ref z0, .ref z1, .ref z2, .ref z3, .ref z4, .ref z5, .int 0, .int 0, .int 0]))] U.heap ∧ va_K (dC, dI) vwCl [] U ∧ va_D (fun _ => True) [(h0, .inr (7, [.ref z0, .ref z1, .ref z2, .ref z3, .ref z4, .ref z5, .int 0, .int 0, .int 0]))] ∧ gv ge5 gea gv5 gva gde gic gi0 (va_A [(h0, .inr (7, [.ref z0, .ref z1, .ref z2, .ref z3, .ref z4, .ref z5, .int 0, .int 0, .int 0]))] sz) U U.heap)) (va_Qi (fun (_ : Int32) (_ : Unit) => False) (fun _ _ => True) (va_A [(h0, .inr (7, [.ref z0, .ref z1, .ref z2, .ref z3, .ref z4, .ref z5, .int 0, .int 0, .int 0]))] sz)) (vx_X (fun _ : Unit => True) (fun (E : String) (_ : Unit) (t : State) => E = "java/lang/IndexOutOfBoundsException" ∧ va_P (dC, dI) vwCl [(h0, .inr (7, [.ref z0, .ref z1, .ref z2, .ref z3, .ref z4, .ref z5, .int 0, .int 0, .int 0]))] t.heap ∧ va_K (dC, dI) vwCl [] t ∧ va_D (va_A [(h0, .inr (7, [.ref z0, .ref z1, .ref z2, .ref z3, .ref z4, .ref z5, .int 0, .int 0, .int 0]))] sz) [(h0, .inr (7, [.ref z0, .ref z1, .ref z2, .ref z3, .ref z4, .ref z5, .int 0, .int 0, .int 0]))]) (va_A [(h0, .inr (7, [.ref z0, .ref z1, .ref z2, .ref z3, .ref z4, .ref z5, .int 0, .int 0, .int 0]))] sz)) 1 6 (va_A [(h0, .inr (7, [.ref z0, .ref z1, .ref z2, .ref z3, .ref z4, .ref z5, .int 0, .int 0, .int 0]))] sz) := by
  refine vx_ofW (cc := cX3_copy) (maxL := 3) (ret := (some .int)) (by decide) rfl ?_
  intro p e s m args below meth c s₁ B hml ht9 hv
  obtain ⟨rfl, hsz, hP, hK, hD0, hG⟩ := hv
  have hx := B.exec
  have hb := B.bytes
  have hr := B.returns
  have hts := atoms_spec (ws := wsX3_copy) B.pre
  have hown : s.vm.findClass RX3 = some m.cls := findClass_of_methodNamed B.named
  have hlocks := B.notSynchronized
  subst hsz
  have hD := hD0.self (sz := s.heap.size)
  generalize hAe : va_A [(h0, .inr (7, [.ref z0, .ref z1, .ref z2, .ref z3, .ref z4, .ref z5, .int 0, .int 0, .int 0]))] s.heap.size = A at hD hG ⊢
  obtain ⟨⟨g_AO_Text, g_AO_String, g_AO_Object, g_nm_RX1_20, g_nm_RX0_17, g_nm_RX3_31, g_nm_RX2_44, g_nm_RL_121, g_nf_RL_13, g_nf_RL_47, g_ca_IO, g_ca_IA, g_ca_IS, g_ca_IntObj, g_ca_StrObj, g_de_RT, g_de_EX, g_de_TH, g_nc_IA_IO, g_nc_IS_IO, g_nc_IS_IA⟩, ⟨g_s3, g_s5, g_sa, g_x278, g_x280, g_x282, g_x284, g_x286, g_x180, g_x238, g_x250⟩, ⟨g_o5, g_c5, g_v5, g_t5, g_oa, g_ca, g_va, g_ta, g_zc, g_zd, g_td, g_zf, g_zU, g_zN, g_zh, g_zk, g_tk, g_oi, g_vi⟩⟩ := id hG
  have hA : ∀ q : Nat, s.heap.size ≤ q → A q := fun q h => by rw [← hAe]; exact Or.inr h
  have hS : va_S A s.heap s.heap [] := va_S.rf
  have hP : va_P (dC, dI) vwCl [(h0, .inr (7, [.ref z0, .ref z1, .ref z2, .ref z3, .ref z4, .ref z5, .int 0, .int 0, .int 0]))] s.heap := hP
  have hl := lv_entry ([.ref h0, .int i0, .int i1]) (n := 3) (Nat.le_of_ble_eq_true rfl)
  rw [lg_entry_eq]
  generalize (lg_sl ([.ref h0, .int i0, .int i1]) ++ List.replicate (3 - (lg_sl ([.ref h0, .int i0, .int i1])).length) Slot.unset).toArray = ls at hl ⊢
  have hl : lv_has ls 3 [(0, .ref h0), (1, .int i0), (2, .int i1)] := hl
  refine lv_iload_n hx hb dX3_copy_0 rfl (lv_at hl 1 rfl) ?_
  have hPc := hP.sub (ws' := []) [] rfl
  have hDc := hD.sub (ws' := []) [] (by decide) rfl
  have hKc := hK.sub (tys' := []) [] rfl
  have hFc := va_free (wc := []) hD hS hA [] rfl
  refine vx_callv (vx_runS (As := [.int i0]) (rest := []) ⟨hx, hb, hml, hown, hts⟩ (kx_X3_needRope_5 l hst dC dI ge5 gea gv5 gva gde gic gi0 s.heap.size i0 i0_l i0_u) (cwS 1 hts gX3_copy_X3_needRope rfl rfl rfl (by decide +kernel) ⟨Nat.le_of_ble_eq_true rfl, Nat.le_of_ble_eq_true rfl⟩) ⟨fun a U g mk q => by obtain ⟨q0, q1, qP, qK, qD, qG⟩ := q; exact ⟨q0, q1, qP, va_K.moved (u := U) (U := U.calling g mk a) (Vm.Alike.refl U.vm) qK, qD, gv.fb qG⟩, fun U hU hW => ⟨rfl, by rw [hU], by rw [hU]; exact hPc, va_K.moved hW.alike hKc, hDc.weaken (fun _ _ _ _ => trivial), gv.pass hW hU hS hFc hG⟩⟩ rfl rfl hl.1 rfl (lv_room (Nat.le_of_ble_eq_true rfl)) dX3_copy_1 ⟨Nat.le_of_ble_eq_true rfl, Nat.le_of_ble_eq_true rfl⟩) hS (fun q _ h => hFc q h) hFc (fun q _ h => hFc q h) (fun E ce q9 u t H1 locs ht hvm hpx hB hz1 hk1 hS hce hcv hcl => ?_) (fun u t H1 locs ht hvm hw hB hz1 hk1 hS => hw.elim)
  obtain ⟨rfl, hP1, hK1, hD1⟩ := hB
  rw [ht] at hP1
  have hK1 := va_K.moved hvm.symm hK1
  obtain ⟨hP, hD⟩ := va_join (wr := [(h0, .inr (7, [.ref z0, .ref z1, .ref z2, .ref z3, .ref z4, .ref z5, .int 0, .int 0, .int 0]))]) (w1 := []) hP hD [] [0] rfl rfl (by decide) (by decide) hk1 hFc hP1 hD1
  generalize H1 = H at hP hS hce ⊢
  have hP : va_P (dC, dI) vwCl [(h0, .inr (7, [.ref z0, .ref z1, .ref z2, .ref z3, .ref z4, .ref z5, .int 0, .int 0, .int 0]))] H := hP
  have hD : va_D A [(h0, .inr (7, [.ref z0, .ref z1, .ref z2, .ref z3, .ref z4, .ref z5, .int 0, .int 0, .int 0]))] := hD
  exact vx_out (fun x hx9 => (ht9 x hx9).elim) hlocks hce hcv hcl (fun t ht hW => ⟨(), trivial, ⟨rfl, by rw [ht]; exact hP, va_K.moved hW hK, hD⟩, hS.F ht⟩) hS.2.2 (by omega) (by omega)
set_option maxHeartbeats 4000000 in
set_option maxRecDepth 100000 in
theorem kx_L_copy_3 (l : Launch) (hst : l.stackTraces = false) (dC : Nat → ClassId) (dI : Nat → Nat → Nat) (ge5 gea gv5 gva gde gic gi0 : Nat) (h0 : Nat) (z0 : Nat) (z1 : Nat) (z2 : Nat) (z3 : Nat) (z4 : Nat) (z5 : Nat) (z6 : Nat) (sz : Nat) (i0 : Int32) (i0_l : ((-2147483648) : Int) ≤ i0.toInt) (i0_u : i0.toInt ≤ ((-1) : Int)) (i1 : Int32) (i1_l : ((-2147483648) : Int) ≤ i1.toInt) (i1_u : i1.toInt ≤ (2147483647 : Int)) : Met l yL_copy wsL_copy ({ frames := 8, cells := 1, slots := 6, locals := 162 }) (va_Pc [.ref h0, .int i0, .int i1, .ref z0] (fun U => U.heap.size = sz ∧ va_P (dC, dI) vwCl [(h0, .inr (7, [.ref z1, .ref z2, .ref z3, .ref z4, .ref z5, .ref z6, .int 0, .int 0, .int 0]))] U.heap ∧ va_K (dC, dI) vwCl [] U ∧ va_D (fun _ => True) [(h0, .inr (7, [.ref z1, .ref z2, .ref z3, .ref z4, .ref z5, .ref z6, .int 0, .int 0, .int 0]))] ∧ gv ge5 gea gv5 gva gde gic gi0 (va_A [(h0, .inr (7, [.ref z1, .ref z2, .ref z3, .ref z4, .ref z5, .ref z6, .int 0, .int 0, .int 0]))] sz) U U.heap)) (va_Qi (fun (r : Int32) (_ : Unit) => r = 1) (fun (_ : Unit) (t : State) => va_P (dC, dI) vwCl [(h0, .inr (7, [.ref z1, .ref z2, .ref z3, .ref z4, .ref z5, .ref z6, .int 0, .int 0, .int 0]))] t.heap ∧ va_K (dC, dI) vwCl [] t ∧ va_D (va_A [(h0, .inr (7, [.ref z1, .ref z2, .ref z3, .ref z4, .ref z5, .ref z6, .int 0, .int 0, .int 0]))] sz) [(h0, .inr (7, [.ref z1, .ref z2, .ref z3, .ref z4, .ref z5, .ref z6, .int 0, .int 0, .int 0]))]) (va_A [(h0, .inr (7, [.ref z1, .ref z2, .ref z3, .ref z4, .ref z5, .ref z6, .int 0, .int 0, .int 0]))] sz)) 1 6 (va_A [(h0, .inr (7, [.ref z1, .ref z2, .ref z3, .ref z4, .ref z5, .ref z6, .int 0, .int 0, .int 0]))] sz) := by
  refine kz_ofWH (cc := cL_copy) (maxL := 5) (ret := (some .int)) (hh := [(0, 11, 14, 19)]) (by decide) rfl ?_
  intro p e s m args below meth c s₁ B hml hv
  obtain ⟨rfl, hsz, hP, hK, hD0, hG⟩ := hv
  have hx := B.exec
  have hb := B.bytes
  have hr := B.returns
  have hts := atoms_spec (ws := wsL_copy) B.pre
  have hown : s.vm.findClass RL = some m.cls := findClass_of_methodNamed B.named
  have htab := vx_table (x := yL_copy) B (hts (.codeWith yL_copy cL_copy 5 (some .int) [(0, 11, 14, 19)]) (by decide +kernel))
  have hlocks := B.notSynchronized
  subst hsz
  have hD := hD0.self (sz := s.heap.size)
  generalize hAe : va_A [(h0, .inr (7, [.ref z1, .ref z2, .ref z3, .ref z4, .ref z5, .ref z6, .int 0, .int 0, .int 0]))] s.heap.size = A at hD hG ⊢
  obtain ⟨⟨g_AO_Text, g_AO_String, g_AO_Object, g_nm_RX1_20, g_nm_RX0_17, g_nm_RX3_31, g_nm_RX2_44, g_nm_RL_121, g_nf_RL_13, g_nf_RL_47, g_ca_IO, g_ca_IA, g_ca_IS, g_ca_IntObj, g_ca_StrObj, g_de_RT, g_de_EX, g_de_TH, g_nc_IA_IO, g_nc_IS_IO, g_nc_IS_IA⟩, ⟨g_s3, g_s5, g_sa, g_x278, g_x280, g_x282, g_x284, g_x286, g_x180, g_x238, g_x250⟩, ⟨g_o5, g_c5, g_v5, g_t5, g_oa, g_ca, g_va, g_ta, g_zc, g_zd, g_td, g_zf, g_zU, g_zN, g_zh, g_zk, g_tk, g_oi, g_vi⟩⟩ := id hG
  have hA : ∀ q : Nat, s.heap.size ≤ q → A q := fun q h => by rw [← hAe]; exact Or.inr h
  have hS : va_S A s.heap s.heap [] := va_S.rf
  have hP : va_P (dC, dI) vwCl [(h0, .inr (7, [.ref z1, .ref z2, .ref z3, .ref z4, .ref z5, .ref z6, .int 0, .int 0, .int 0]))] s.heap := hP
  have hl := lv_entry ([.ref h0, .int i0, .int i1, .ref z0]) (n := 5) (Nat.le_of_ble_eq_true rfl)
  rw [lg_entry_eq]
  generalize (lg_sl ([.ref h0, .int i0, .int i1, .ref z0]) ++ List.replicate (5 - (lg_sl ([.ref h0, .int i0, .int i1, .ref z0])).length) Slot.unset).toArray = ls at hl ⊢
  have hl : lv_has ls 5 [(0, .ref h0), (1, .int i0), (2, .int i1), (3, .ref z0)] := hl
  refine lv_aload_n hx hb dL_copy_0 rfl (lv_at hl 3 rfl) ?_
  refine lv_aload_n hx hb dL_copy_1 rfl (lv_at hl 0 rfl) ?_
  refine lv_iload_n hx hb dL_copy_2 rfl (lv_at hl 1 rfl) ?_
  refine lv_iload_n hx hb dL_copy_3 rfl (lv_at hl 2 rfl) ?_
  have hPc := hP.sub (ws' := [(h0, .inr (7, [.ref z1, .ref z2, .ref z3, .ref z4, .ref z5, .ref z6, .int 0, .int 0, .int 0]))]) [0] rfl
  have hDc := hD.sub (ws' := [(h0, .inr (7, [.ref z1, .ref z2, .ref z3, .ref z4, .ref z5, .ref z6, .int 0, .int 0, .int 0]))]) [0] (by decide) rfl
  have hKc := hK.sub (tys' := []) [] rfl
  have hFc := va_free (wc := [(h0, .inr (7, [.ref z1, .ref z2, .ref z3, .ref z4, .ref z5, .ref z6, .int 0, .int 0, .int 0]))]) hD hS hA [0] rfl
  refine vx_calli (vx_runV (As := [.int i0, .int i1]) (rest := [.ref z0]) ⟨hx, hb, hml, hown, hts⟩ (kx_X3_copy_18 l hst dC dI ge5 gea gv5 gva gde gic gi0 h0 z1 z2 z3 z4 z5 z6 s.heap.size i0 i0_l i0_u i1 i1_l i1_u) (cwV 2 hts gL_copy_X3_copy rfl rfl rfl (by decide +kernel) ⟨Nat.le_of_ble_eq_true rfl, Nat.le_of_ble_eq_true rfl⟩) ⟨fun a U g mk q => by obtain ⟨q0, q1, qP, qK, qD, qG⟩ := q; exact ⟨q0, q1, qP, va_K.moved (u := U) (U := U.calling g mk a) (Vm.Alike.refl U.vm) qK, qD, gv.fb qG⟩, va_recv hKc hPc (ci := 7) (q0 := 0) rfl rfl, fun U hU hW => ⟨rfl, by rw [hU], by rw [hU]; exact hPc, va_K.moved hW.alike hKc, hDc.weaken (fun _ _ _ _ => trivial), gv.pass hW hU hS hFc hG⟩⟩ rfl rfl hl.1 rfl (lv_room (Nat.le_of_ble_eq_true rfl)) dL_copy_4 ⟨Nat.le_of_ble_eq_true rfl, Nat.le_of_ble_eq_true rfl⟩) hS (fun q _ h => hFc q h) hFc (fun q _ h => hFc q h) (fun E ce q9 u t H1 locs ht hvm hpx hB hz1 hk1 hS hce hcv hcl => ?_) (fun r9 u t H1 locs ht hvm hw hB hz1 hk1 hS => hw.elim)
  obtain ⟨rfl, hP1, hK1, hD1⟩ := hB
  rw [ht] at hP1
  have hK1 := va_K.moved hvm.symm hK1
  obtain ⟨hP, hD⟩ := va_join (wr := []) (w1 := [(h0, .inr (7, [.ref z1, .ref z2, .ref z3, .ref z4, .ref z5, .ref z6, .int 0, .int 0, .int 0]))]) hP hD [0] [] rfl rfl (by decide) (by decide) hk1 hFc hP1 hD1
  generalize H1 = H at hP hS hce ⊢
  have hP : va_P (dC, dI) vwCl [(h0, .inr (7, [.ref z1, .ref z2, .ref z3, .ref z4, .ref z5, .ref z6, .int 0, .int 0, .int 0]))] H := hP
  have hD : va_D A [(h0, .inr (7, [.ref z1, .ref z2, .ref z3, .ref z4, .ref z5, .ref z6, .int 0, .int 0, .int 0]))] := hD
  refine vx_catch (own := RL) (name := "java/lang/IndexOutOfBoundsException") hown (tableOf []) ⟨0, 11, 14, 19⟩ (tableOf []) (by rw [htab]; rfl) (fun z hz => nomatch hz) (by decide +kernel) (by decide) (hts (.classLink RL 19 "java/lang/IndexOutOfBoundsException") (by decide +kernel)) (va_Nw.use rfl g_ca_IO) hce hcv hcl ?_
  refine W.eq (g2 := F0 m 14 ls [.ref q9]) rfl ?_
  refine lv_astore (lv' := [(4, .ref q9), (0, .ref h0), (1, .int i0), (2, .int i1), (3, .ref z0)]) hx hb dL_copy_14 hl (by decide) rfl (fun ls hl => ?_)
  refine lv_iconst (v := 1) hx hb dL_copy_16 (by decide) ?_
  exact W.iret (v := 1) hx hb hr (fun t ht hW => ⟨⟨1, (), rfl, rfl, by rw [ht]; exact hP, va_K.moved hW.alike hK, hD⟩, hS.F ht⟩) hS.2.2 dL_copy_17
set_option maxHeartbeats 4000000 in
set_option maxRecDepth 100000 in
theorem kx_X5_copy_3 (l : Launch) (dC : Nat → ClassId) (dI : Nat → Nat → Nat) (h0 : Nat) (z0 : Nat) (z1 : Nat) (z2 : Nat) (sz : Nat) (i0 : Int32) (i0_l : ((-2147483648) : Int) ≤ i0.toInt) (i0_u : i0.toInt ≤ ((-1) : Int)) (i1 : Int32) (i1_l : ((-2147483648) : Int) ≤ i1.toInt) (i1_u : i1.toInt ≤ (2147483647 : Int)) : Met l yX5_copy wsX5_copy ({ frames := 2, cells := 0, slots := 0, locals := 42 }) (va_Pc [.ref h0, .int i0, .int i1] (fun U => U.heap.size = sz ∧ va_P (dC, dI) vwCl [(h0, .inr (9, [.int 0, .ref z0, .ref z1, .ref z2, .int 0, .int 0, .int 0]))] U.heap ∧ va_K (dC, dI) vwCl [] U ∧ va_D (fun _ => True) [(h0, .inr (9, [.int 0, .ref z0, .ref z1, .ref z2, .int 0, .int 0, .int 0]))])) (va_Qi (fun (r : Int32) (_ : Unit) => r = 0) (fun (_ : Unit) (t : State) => va_P (dC, dI) vwCl [(h0, .inr (9, [.int 1, .ref z0, .ref z1, .ref z2, .int 0, .int 0, .int 0]))] t.heap ∧ va_K (dC, dI) vwCl [] t ∧ va_D (va_A [(h0, .inr (9, [.int 0, .ref z0, .ref z1, .ref z2, .int 0, .int 0, .int 0]))] sz) [(h0, .inr (9, [.int 1, .ref z0, .ref z1, .ref z2, .int 0, .int 0, .int 0]))]) (va_A [(h0, .inr (9, [.int 0, .ref z0, .ref z1, .ref z2, .int 0, .int 0, .int 0]))] sz)) 0 0 (va_A [(h0, .inr (9, [.int 0, .ref z0, .ref z1, .ref z2, .int 0, .int 0, .int 0]))] sz) := by
  refine Met.ofW (cc := cX5_copy) (maxL := 3) (ret := (some .int)) (by decide) rfl ?_
  intro p e s m args below meth c s₁ B hml hv
  obtain ⟨rfl, hsz, hP, hK, hD0⟩ := hv
  have hx := B.exec
  have hb := B.bytes
  have hr := B.returns
  have hts := atoms_spec (ws := wsX5_copy) B.pre
  have hown : s.vm.findClass RX5 = some m.cls := findClass_of_methodNamed B.named
  have hlocks := B.notSynchronized
  subst hsz
  have hD := hD0.self (sz := s.heap.size)
  generalize hAe : va_A [(h0, .inr (9, [.int 0, .ref z0, .ref z1, .ref z2, .int 0, .int 0, .int 0]))] s.heap.size = A at hD ⊢
  have hA : ∀ q : Nat, s.heap.size ≤ q → A q := fun q h => by rw [← hAe]; exact Or.inr h
  have hS : va_S A s.heap s.heap [] := va_S.rf
  have hP : va_P (dC, dI) vwCl [(h0, .inr (9, [.int 0, .ref z0, .ref z1, .ref z2, .int 0, .int 0, .int 0]))] s.heap := hP
  have hl := lv_entry ([.ref h0, .int i0, .int i1]) (n := 3) (Nat.le_of_ble_eq_true rfl)
  rw [lg_entry_eq]
  generalize (lg_sl ([.ref h0, .int i0, .int i1]) ++ List.replicate (3 - (lg_sl ([.ref h0, .int i0, .int i1])).length) Slot.unset).toArray = ls at hl ⊢
  have hl : lv_has ls 3 [(0, .ref h0), (1, .int i0), (2, .int i1)] := hl
  refine lv_aload_n hx hb dX5_copy_0 rfl (lv_at hl 0 rfl) ?_
  refine lv_iload_n hx hb dX5_copy_1 rfl (lv_at hl 1 rfl) ?_
  have hPc := hP.sub (ws' := []) [] rfl
  have hDc := hD.sub (ws' := []) [] (by decide) rfl
  have hKc := hK.sub (tys' := []) [] rfl
  have hFc := va_free (wc := []) hD hS hA [] rfl
  refine va_calli (va_runS (As := [.int i0]) (rest := [.ref h0]) ⟨hx, hb, hml, hown, hts⟩ (kx_X5_isNo_0 l dC dI s.heap.size i0 i0_l i0_u) (cwS 1 hts gX5_copy_X5_isNo rfl rfl rfl (by decide +kernel) ⟨Nat.le_of_ble_eq_true rfl, Nat.le_of_ble_eq_true rfl⟩) ⟨fun a U g mk q => by obtain ⟨q0, q1, qP, qK, qD⟩ := q; exact ⟨q0, q1, qP, va_K.moved (u := U) (U := U.calling g mk a) (Vm.Alike.refl U.vm) qK, qD⟩, fun U hU hW => ⟨rfl, by rw [hU], by rw [hU]; exact hPc, va_K.moved hW.alike hKc, hDc.weaken (fun _ _ _ _ => trivial)⟩⟩ rfl rfl hl.1 rfl (lv_room (Nat.le_of_ble_eq_true rfl)) dX5_copy_2 ⟨Nat.le_of_ble_eq_true rfl, Nat.le_of_ble_eq_true rfl⟩) hS (fun q _ h => hFc q h) hFc (fun r9 u t H1 locs ht hvm hw hB hz1 hk1 hS => ?_)
  obtain rfl := hw
  obtain ⟨hP1, hK1, hD1⟩ := hB
  rw [ht] at hP1
  have hK1 := va_K.moved hvm.symm hK1
  obtain ⟨hP, hD⟩ := va_join (wr := [(h0, .inr (9, [.int 0, .ref z0, .ref z1, .ref z2, .int 0, .int 0, .int 0]))]) (w1 := []) hP hD [] [0] rfl rfl (by decide) (by decide) hk1 hFc hP1 hD1
  generalize H1 = H at hP hS ⊢
  have hP : va_P (dC, dI) vwCl [(h0, .inr (9, [.int 0, .ref z0, .ref z1, .ref z2, .int 0, .int 0, .int 0]))] H := hP
  have hD : va_D A [(h0, .inr (9, [.int 0, .ref z0, .ref z1, .ref z2, .int 0, .int 0, .int 0]))] := hD
  refine lv_if_ne (tgt := 15) hx hb dX5_copy_5 (by decide) (fun _ => ?_) (fun c9 => absurd c9 (by decide))
  refine lv_iconst (v := 1) hx hb dX5_copy_15 (by decide) ?_
  refine lv_goto (tgt := 20) hx hb dX5_copy_16 (by decide) ?_
  refine lv_iconst (v := 0) hx hb dX5_copy_20 (by decide) ?_
  refine lv_iconst (v := 0) hx hb dX5_copy_21 (by decide) ?_
  have hPc := hP.sub (ws' := [(h0, .inr (9, [.int 0, .ref z0, .ref z1, .ref z2, .int 0, .int 0, .int 0]))]) [0] rfl
  have hDc := hD.sub (ws' := [(h0, .inr (9, [.int 0, .ref z0, .ref z1, .ref z2, .int 0, .int 0, .int 0]))]) [0] (by decide) rfl
  have hKc := hK.sub (tys' := []) [] rfl
  have hFc := va_free (wc := [(h0, .inr (9, [.int 0, .ref z0, .ref z1, .ref z2, .int 0, .int 0, .int 0]))]) hD hS hA [0] rfl
  refine va_calli (va_runV (As := [.int 1, .int 0, .int 0]) (rest := []) ⟨hx, hb, hml, hown, hts⟩ (kx_X5_fails_0 l dC dI h0 z0 z1 z2 H.size) (cwV 3 hts gX5_copy_X5_fails rfl rfl rfl (by decide +kernel) ⟨Nat.le_of_ble_eq_true rfl, Nat.le_of_ble_eq_true rfl⟩) ⟨fun a U g mk q => by obtain ⟨q0, q1, qP, qK, qD⟩ := q; exact ⟨q0, q1, qP, va_K.moved (u := U) (U := U.calling g mk a) (Vm.Alike.refl U.vm) qK, qD⟩, va_recv hKc hPc (ci := 9) (q0 := 0) rfl rfl, fun U hU hW => ⟨rfl, by rw [hU], by rw [hU]; exact hPc, va_K.moved hW.alike hKc, hDc.weaken (fun _ _ _ _ => trivial)⟩⟩ rfl rfl hl.1 rfl (lv_room (Nat.le_of_ble_eq_true rfl)) dX5_copy_22 ⟨Nat.le_of_ble_eq_true rfl, Nat.le_of_ble_eq_true rfl⟩) hS (fun q _ h => hFc q h) hFc (fun r9 u t H1 locs ht hvm hw hB hz1 hk1 hS => ?_)
  obtain rfl := hw
  obtain ⟨hP1, hK1, hD1⟩ := hB
  rw [ht] at hP1
  have hK1 := va_K.moved hvm.symm hK1
  obtain ⟨hP, hD⟩ := va_join (wr := []) (w1 := [(h0, .inr (9, [.int 1, .ref z0, .ref z1, .ref z2, .int 0, .int 0, .int 0]))]) hP hD [0] [] rfl rfl (by decide) (by decide) hk1 hFc hP1 hD1
  generalize H1 = H at hP hS ⊢
  have hP : va_P (dC, dI) vwCl [(h0, .inr (9, [.int 1, .ref z0, .ref z1, .ref z2, .int 0, .int 0, .int 0]))] H := hP
  have hD : va_D A [(h0, .inr (9, [.int 1, .ref z0, .ref z1, .ref z2, .int 0, .int 0, .int 0]))] := hD
  refine lv_if_eq (tgt := 30) hx hb dX5_copy_25 (by decide) (fun c9 => absurd c9 (by decide)) (fun _ => ?_)
  refine lv_iconst (v := 0) hx hb dX5_copy_28 (by decide) ?_
  exact W.iret (v := 0) hx hb hr (fun t ht hW => ⟨⟨0, (), rfl, rfl, by rw [ht]; exact hP, va_K.moved hW.alike hK, hD⟩, hS.F ht⟩) hS.2.2 dX5_copy_29
set_option maxHeartbeats 4000000 in
set_option maxRecDepth 100000 in
theorem kx_X3_copy_19 (l : Launch) (hst : l.stackTraces = false) (dC : Nat → ClassId) (dI : Nat → Nat → Nat) (ge5 gea gv5 gva gde gic gi0 : Nat) (h0 : Nat) (z0 : Nat) (z1 : Nat) (z2 : Nat) (z3 : Nat) (z4 : Nat) (z5 : Nat) (sz : Nat) (i0 : Int32) (i0_l : (4 : Int) ≤ i0.toInt) (i0_u : i0.toInt ≤ (2147483647 : Int)) (i1 : Int32) (i1_l : ((-2147483648) : Int) ≤ i1.toInt) (i1_u : i1.toInt ≤ (2147483647 : Int)) : vx_Met l yX3_copy wsX3_copy ({ frames := 7, cells := 1, slots := 6, locals := 140 }) (va_Pc [.ref h0, .int i0, .int i1] (fun U => U.heap.size = sz ∧ va_P (dC, dI) vwCl [(h0, .inr (7, [.ref z0, .ref z1, .ref z2, .ref z3, .ref z4, .ref z5, .int 0, .int 0, .int 0]))] U.heap ∧ va_K (dC, dI) vwCl [] U ∧ va_D (fun _ => True) [(h0, .inr (7, [.ref z0, .ref z1, .ref z2, .ref z3, .ref z4, .ref z5, .int 0, .int 0, .int 0]))] ∧ gv ge5 gea gv5 gva gde gic gi0 (va_A [(h0, .inr (7, [.ref z0, .ref z1, .ref z2, .ref z3, .ref z4, .ref z5, .int 0, .int 0, .int 0]))] sz) U U.heap)) (va_Qi (fun (_ : Int32) (_ : Unit) => False) (fun _ _ => True) (va_A [(h0, .inr (7, [.ref z0, .ref z1, .ref z2, .ref z3, .ref z4, .ref z5, .int 0, .int 0, .int 0]))] sz)) (vx_X (fun _ : Unit => True) (fun (E : String) (_ : Unit) (t : State) => E = "java/lang/IndexOutOfBoundsException" ∧ va_P (dC, dI) vwCl [(h0, .inr (7, [.ref z0, .ref z1, .ref z2, .ref z3, .ref z4, .ref z5, .int 0, .int 0, .int 0]))] t.heap ∧ va_K (dC, dI) vwCl [] t ∧ va_D (va_A [(h0, .inr (7, [.ref z0, .ref z1, .ref z2, .ref z3, .ref z4, .ref z5, .int 0, .int 0, .int 0]))] sz) [(h0, .inr (7, [.ref z0, .ref z1, .ref z2, .ref z3, .ref z4, .ref z5, .int 0, .int 0, .int 0]))]) (va_A [(h0, .inr (7, [.ref z0, .ref z1, .ref z2, .ref z3, .ref z4, .ref z5, .int 0, .int 0, .int 0]))] sz)) 1 6 (va_A [(h0, .inr (7, [.ref z0, .ref z1, .ref z2, .ref z3, .ref z4, .ref z5, .int 0, .int 0, .int 0]))] sz) := by
  refine vx_ofW (cc := cX3_copy) (maxL := 3) (ret := (some .int)) (by decide) rfl ?_
  intro p e s m args below meth c s₁ B hml ht9 hv
  obtain ⟨rfl, hsz, hP, hK, hD0, hG⟩ := hv
  have hx := B.exec
  have hb := B.bytes
  have hr := B.returns
  have hts := atoms_spec (ws := wsX3_copy) B.pre
  have hown : s.vm.findClass RX3 = some m.cls := findClass_of_methodNamed B.named
  have hlocks := B.notSynchronized
  subst hsz
  have hD := hD0.self (sz := s.heap.size)
  generalize hAe : va_A [(h0, .inr (7, [.ref z0, .ref z1, .ref z2, .ref z3, .ref z4, .ref z5, .int 0, .int 0, .int 0]))] s.heap.size = A at hD hG ⊢
  obtain ⟨⟨g_AO_Text, g_AO_String, g_AO_Object, g_nm_RX1_20, g_nm_RX0_17, g_nm_RX3_31, g_nm_RX2_44, g_nm_RL_121, g_nf_RL_13, g_nf_RL_47, g_ca_IO, g_ca_IA, g_ca_IS, g_ca_IntObj, g_ca_StrObj, g_de_RT, g_de_EX, g_de_TH, g_nc_IA_IO, g_nc_IS_IO, g_nc_IS_IA⟩, ⟨g_s3, g_s5, g_sa, g_x278, g_x280, g_x282, g_x284, g_x286, g_x180, g_x238, g_x250⟩, ⟨g_o5, g_c5, g_v5, g_t5, g_oa, g_ca, g_va, g_ta, g_zc, g_zd, g_td, g_zf, g_zU, g_zN, g_zh, g_zk, g_tk, g_oi, g_vi⟩⟩ := id hG
  have hA : ∀ q : Nat, s.heap.size ≤ q → A q := fun q h => by rw [← hAe]; exact Or.inr h
  have hS : va_S A s.heap s.heap [] := va_S.rf
  have hP : va_P (dC, dI) vwCl [(h0, .inr (7, [.ref z0, .ref z1, .ref z2, .ref z3, .ref z4, .ref z5, .int 0, .int 0, .int 0]))] s.heap := hP
  have hl := lv_entry ([.ref h0, .int i0, .int i1]) (n := 3) (Nat.le_of_ble_eq_true rfl)
  rw [lg_entry_eq]
  generalize (lg_sl ([.ref h0, .int i0, .int i1]) ++ List.replicate (3 - (lg_sl ([.ref h0, .int i0, .int i1])).length) Slot.unset).toArray = ls at hl ⊢
  have hl : lv_has ls 3 [(0, .ref h0), (1, .int i0), (2, .int i1)] := hl
  refine lv_iload_n hx hb dX3_copy_0 rfl (lv_at hl 1 rfl) ?_
  have hPc := hP.sub (ws' := []) [] rfl
  have hDc := hD.sub (ws' := []) [] (by decide) rfl
  have hKc := hK.sub (tys' := []) [] rfl
  have hFc := va_free (wc := []) hD hS hA [] rfl
  refine vx_callv (vx_runS (As := [.int i0]) (rest := []) ⟨hx, hb, hml, hown, hts⟩ (kx_X3_needRope_6 l hst dC dI ge5 gea gv5 gva gde gic gi0 s.heap.size i0 i0_l i0_u) (cwS 1 hts gX3_copy_X3_needRope rfl rfl rfl (by decide +kernel) ⟨Nat.le_of_ble_eq_true rfl, Nat.le_of_ble_eq_true rfl⟩) ⟨fun a U g mk q => by obtain ⟨q0, q1, qP, qK, qD, qG⟩ := q; exact ⟨q0, q1, qP, va_K.moved (u := U) (U := U.calling g mk a) (Vm.Alike.refl U.vm) qK, qD, gv.fb qG⟩, fun U hU hW => ⟨rfl, by rw [hU], by rw [hU]; exact hPc, va_K.moved hW.alike hKc, hDc.weaken (fun _ _ _ _ => trivial), gv.pass hW hU hS hFc hG⟩⟩ rfl rfl hl.1 rfl (lv_room (Nat.le_of_ble_eq_true rfl)) dX3_copy_1 ⟨Nat.le_of_ble_eq_true rfl, Nat.le_of_ble_eq_true rfl⟩) hS (fun q _ h => hFc q h) hFc (fun q _ h => hFc q h) (fun E ce q9 u t H1 locs ht hvm hpx hB hz1 hk1 hS hce hcv hcl => ?_) (fun u t H1 locs ht hvm hw hB hz1 hk1 hS => hw.elim)
  obtain ⟨rfl, hP1, hK1, hD1⟩ := hB
  rw [ht] at hP1
  have hK1 := va_K.moved hvm.symm hK1
  obtain ⟨hP, hD⟩ := va_join (wr := [(h0, .inr (7, [.ref z0, .ref z1, .ref z2, .ref z3, .ref z4, .ref z5, .int 0, .int 0, .int 0]))]) (w1 := []) hP hD [] [0] rfl rfl (by decide) (by decide) hk1 hFc hP1 hD1
  generalize H1 = H at hP hS hce ⊢
  have hP : va_P (dC, dI) vwCl [(h0, .inr (7, [.ref z0, .ref z1, .ref z2, .ref z3, .ref z4, .ref z5, .int 0, .int 0, .int 0]))] H := hP
  have hD : va_D A [(h0, .inr (7, [.ref z0, .ref z1, .ref z2, .ref z3, .ref z4, .ref z5, .int 0, .int 0, .int 0]))] := hD
  exact vx_out (fun x hx9 => (ht9 x hx9).elim) hlocks hce hcv hcl (fun t ht hW => ⟨(), trivial, ⟨rfl, by rw [ht]; exact hP, va_K.moved hW hK, hD⟩, hS.F ht⟩) hS.2.2 (by omega) (by omega)
set_option maxHeartbeats 4000000 in
set_option maxRecDepth 100000 in
theorem kx_L_copy_4 (l : Launch) (hst : l.stackTraces = false) (dC : Nat → ClassId) (dI : Nat → Nat → Nat) (ge5 gea gv5 gva gde gic gi0 : Nat) (h0 : Nat) (z0 : Nat) (z1 : Nat) (z2 : Nat) (z3 : Nat) (z4 : Nat) (z5 : Nat) (z6 : Nat) (sz : Nat) (i0 : Int32) (i0_l : (4 : Int) ≤ i0.toInt) (i0_u : i0.toInt ≤ (2147483647 : Int)) (i1 : Int32) (i1_l : ((-2147483648) : Int) ≤ i1.toInt) (i1_u : i1.toInt ≤ (2147483647 : Int)) : Met l yL_copy wsL_copy ({ frames := 8, cells := 1, slots := 6, locals := 162 }) (va_Pc [.ref h0, .int i0, .int i1, .ref z0] (fun U => U.heap.size = sz ∧ va_P (dC, dI) vwCl [(h0, .inr (7, [.ref z1, .ref z2, .ref z3, .ref z4, .ref z5, .ref z6, .int 0, .int 0, .int 0]))] U.heap ∧ va_K (dC, dI) vwCl [] U ∧ va_D (fun _ => True) [(h0, .inr (7, [.ref z1, .ref z2, .ref z3, .ref z4, .ref z5, .ref z6, .int 0, .int 0, .int 0]))] ∧ gv ge5 gea gv5 gva gde gic gi0 (va_A [(h0, .inr (7, [.ref z1, .ref z2, .ref z3, .ref z4, .ref z5, .ref z6, .int 0, .int 0, .int 0]))] sz) U U.heap)) (va_Qi (fun (r : Int32) (_ : Unit) => r = 1) (fun (_ : Unit) (t : State) => va_P (dC, dI) vwCl [(h0, .inr (7, [.ref z1, .ref z2, .ref z3, .ref z4, .ref z5, .ref z6, .int 0, .int 0, .int 0]))] t.heap ∧ va_K (dC, dI) vwCl [] t ∧ va_D (va_A [(h0, .inr (7, [.ref z1, .ref z2, .ref z3, .ref z4, .ref z5, .ref z6, .int 0, .int 0, .int 0]))] sz) [(h0, .inr (7, [.ref z1, .ref z2, .ref z3, .ref z4, .ref z5, .ref z6, .int 0, .int 0, .int 0]))]) (va_A [(h0, .inr (7, [.ref z1, .ref z2, .ref z3, .ref z4, .ref z5, .ref z6, .int 0, .int 0, .int 0]))] sz)) 1 6 (va_A [(h0, .inr (7, [.ref z1, .ref z2, .ref z3, .ref z4, .ref z5, .ref z6, .int 0, .int 0, .int 0]))] sz) := by
  refine kz_ofWH (cc := cL_copy) (maxL := 5) (ret := (some .int)) (hh := [(0, 11, 14, 19)]) (by decide) rfl ?_
  intro p e s m args below meth c s₁ B hml hv
  obtain ⟨rfl, hsz, hP, hK, hD0, hG⟩ := hv
  have hx := B.exec
  have hb := B.bytes
  have hr := B.returns
  have hts := atoms_spec (ws := wsL_copy) B.pre
  have hown : s.vm.findClass RL = some m.cls := findClass_of_methodNamed B.named
  have htab := vx_table (x := yL_copy) B (hts (.codeWith yL_copy cL_copy 5 (some .int) [(0, 11, 14, 19)]) (by decide +kernel))
  have hlocks := B.notSynchronized
  subst hsz
  have hD := hD0.self (sz := s.heap.size)
  generalize hAe : va_A [(h0, .inr (7, [.ref z1, .ref z2, .ref z3, .ref z4, .ref z5, .ref z6, .int 0, .int 0, .int 0]))] s.heap.size = A at hD hG ⊢
  obtain ⟨⟨g_AO_Text, g_AO_String, g_AO_Object, g_nm_RX1_20, g_nm_RX0_17, g_nm_RX3_31, g_nm_RX2_44, g_nm_RL_121, g_nf_RL_13, g_nf_RL_47, g_ca_IO, g_ca_IA, g_ca_IS, g_ca_IntObj, g_ca_StrObj, g_de_RT, g_de_EX, g_de_TH, g_nc_IA_IO, g_nc_IS_IO, g_nc_IS_IA⟩, ⟨g_s3, g_s5, g_sa, g_x278, g_x280, g_x282, g_x284, g_x286, g_x180, g_x238, g_x250⟩, ⟨g_o5, g_c5, g_v5, g_t5, g_oa, g_ca, g_va, g_ta, g_zc, g_zd, g_td, g_zf, g_zU, g_zN, g_zh, g_zk, g_tk, g_oi, g_vi⟩⟩ := id hG
  have hA : ∀ q : Nat, s.heap.size ≤ q → A q := fun q h => by rw [← hAe]; exact Or.inr h
  have hS : va_S A s.heap s.heap [] := va_S.rf
  have hP : va_P (dC, dI) vwCl [(h0, .inr (7, [.ref z1, .ref z2, .ref z3, .ref z4, .ref z5, .ref z6, .int 0, .int 0, .int 0]))] s.heap := hP
  have hl := lv_entry ([.ref h0, .int i0, .int i1, .ref z0]) (n := 5) (Nat.le_of_ble_eq_true rfl)
  rw [lg_entry_eq]
  generalize (lg_sl ([.ref h0, .int i0, .int i1, .ref z0]) ++ List.replicate (5 - (lg_sl ([.ref h0, .int i0, .int i1, .ref z0])).length) Slot.unset).toArray = ls at hl ⊢
  have hl : lv_has ls 5 [(0, .ref h0), (1, .int i0), (2, .int i1), (3, .ref z0)] := hl
  refine lv_aload_n hx hb dL_copy_0 rfl (lv_at hl 3 rfl) ?_
  refine lv_aload_n hx hb dL_copy_1 rfl (lv_at hl 0 rfl) ?_
  refine lv_iload_n hx hb dL_copy_2 rfl (lv_at hl 1 rfl) ?_
  refine lv_iload_n hx hb dL_copy_3 rfl (lv_at hl 2 rfl) ?_
  have hPc := hP.sub (ws' := [(h0, .inr (7, [.ref z1, .ref z2, .ref z3, .ref z4, .ref z5, .ref z6, .int 0, .int 0, .int 0]))]) [0] rfl
  have hDc := hD.sub (ws' := [(h0, .inr (7, [.ref z1, .ref z2, .ref z3, .ref z4, .ref z5, .ref z6, .int 0, .int 0, .int 0]))]) [0] (by decide) rfl
  have hKc := hK.sub (tys' := []) [] rfl
  have hFc := va_free (wc := [(h0, .inr (7, [.ref z1, .ref z2, .ref z3, .ref z4, .ref z5, .ref z6, .int 0, .int 0, .int 0]))]) hD hS hA [0] rfl
  refine vx_calli (vx_runV (As := [.int i0, .int i1]) (rest := [.ref z0]) ⟨hx, hb, hml, hown, hts⟩ (kx_X3_copy_19 l hst dC dI ge5 gea gv5 gva gde gic gi0 h0 z1 z2 z3 z4 z5 z6 s.heap.size i0 i0_l i0_u i1 i1_l i1_u) (cwV 2 hts gL_copy_X3_copy rfl rfl rfl (by decide +kernel) ⟨Nat.le_of_ble_eq_true rfl, Nat.le_of_ble_eq_true rfl⟩) ⟨fun a U g mk q => by obtain ⟨q0, q1, qP, qK, qD, qG⟩ := q; exact ⟨q0, q1, qP, va_K.moved (u := U) (U := U.calling g mk a) (Vm.Alike.refl U.vm) qK, qD, gv.fb qG⟩, va_recv hKc hPc (ci := 7) (q0 := 0) rfl rfl, fun U hU hW => ⟨rfl, by rw [hU], by rw [hU]; exact hPc, va_K.moved hW.alike hKc, hDc.weaken (fun _ _ _ _ => trivial), gv.pass hW hU hS hFc hG⟩⟩ rfl rfl hl.1 rfl (lv_room (Nat.le_of_ble_eq_true rfl)) dL_copy_4 ⟨Nat.le_of_ble_eq_true rfl, Nat.le_of_ble_eq_true rfl⟩) hS (fun q _ h => hFc q h) hFc (fun q _ h => hFc q h) (fun E ce q9 u t H1 locs ht hvm hpx hB hz1 hk1 hS hce hcv hcl => ?_) (fun r9 u t H1 locs ht hvm hw hB hz1 hk1 hS => hw.elim)
  obtain ⟨rfl, hP1, hK1, hD1⟩ := hB
  rw [ht] at hP1
  have hK1 := va_K.moved hvm.symm hK1
  obtain ⟨hP, hD⟩ := va_join (wr := []) (w1 := [(h0, .inr (7, [.ref z1, .ref z2, .ref z3, .ref z4, .ref z5, .ref z6, .int 0, .int 0, .int 0]))]) hP hD [0] [] rfl rfl (by decide) (by decide) hk1 hFc hP1 hD1
  generalize H1 = H at hP hS hce ⊢
  have hP : va_P (dC, dI) vwCl [(h0, .inr (7, [.ref z1, .ref z2, .ref z3, .ref z4, .ref z5, .ref z6, .int 0, .int 0, .int 0]))] H := hP
  have hD : va_D A [(h0, .inr (7, [.ref z1, .ref z2, .ref z3, .ref z4, .ref z5, .ref z6, .int 0, .int 0, .int 0]))] := hD
  refine vx_catch (own := RL) (name := "java/lang/IndexOutOfBoundsException") hown (tableOf []) ⟨0, 11, 14, 19⟩ (tableOf []) (by rw [htab]; rfl) (fun z hz => nomatch hz) (by decide +kernel) (by decide) (hts (.classLink RL 19 "java/lang/IndexOutOfBoundsException") (by decide +kernel)) (va_Nw.use rfl g_ca_IO) hce hcv hcl ?_
  refine W.eq (g2 := F0 m 14 ls [.ref q9]) rfl ?_
  refine lv_astore (lv' := [(4, .ref q9), (0, .ref h0), (1, .int i0), (2, .int i1), (3, .ref z0)]) hx hb dL_copy_14 hl (by decide) rfl (fun ls hl => ?_)
  refine lv_iconst (v := 1) hx hb dL_copy_16 (by decide) ?_
  exact W.iret (v := 1) hx hb hr (fun t ht hW => ⟨⟨1, (), rfl, rfl, by rw [ht]; exact hP, va_K.moved hW.alike hK, hD⟩, hS.F ht⟩) hS.2.2 dL_copy_17
set_option maxHeartbeats 4000000 in
set_option maxRecDepth 100000 in
theorem kx_X5_copy_4 (l : Launch) (dC : Nat → ClassId) (dI : Nat → Nat → Nat) (h0 : Nat) (z0 : Nat) (z1 : Nat) (z2 : Nat) (sz : Nat) (i0 : Int32) (i0_l : (4 : Int) ≤ i0.toInt) (i0_u : i0.toInt ≤ (2147483647 : Int)) (i1 : Int32) (i1_l : ((-2147483648) : Int) ≤ i1.toInt) (i1_u : i1.toInt ≤ (2147483647 : Int)) : Met l yX5_copy wsX5_copy ({ frames := 2, cells := 0, slots := 0, locals := 42 }) (va_Pc [.ref h0, .int i0, .int i1] (fun U => U.heap.size = sz ∧ va_P (dC, dI) vwCl [(h0, .inr (9, [.int 0, .ref z0, .ref z1, .ref z2, .int 0, .int 0, .int 0]))] U.heap ∧ va_K (dC, dI) vwCl [] U ∧ va_D (fun _ => True) [(h0, .inr (9, [.int 0, .ref z0, .ref z1, .ref z2, .int 0, .int 0, .int 0]))])) (va_Qi (fun (r : Int32) (_ : Unit) => r = 0) (fun (_ : Unit) (t : State) => va_P (dC, dI) vwCl [(h0, .inr (9, [.int 1, .ref z0, .ref z1, .ref z2, .int 0, .int 0, .int 0]))] t.heap ∧ va_K (dC, dI) vwCl [] t ∧ va_D (va_A [(h0, .inr (9, [.int 0, .ref z0, .ref z1, .ref z2, .int 0, .int 0, .int 0]))] sz) [(h0, .inr (9, [.int 1, .ref z0, .ref z1, .ref z2, .int 0, .int 0, .int 0]))]) (va_A [(h0, .inr (9, [.int 0, .ref z0, .ref z1, .ref z2, .int 0, .int 0, .int 0]))] sz)) 0 0 (va_A [(h0, .inr (9, [.int 0, .ref z0, .ref z1, .ref z2, .int 0, .int 0, .int 0]))] sz) := by
  refine Met.ofW (cc := cX5_copy) (maxL := 3) (ret := (some .int)) (by decide) rfl ?_
  intro p e s m args below meth c s₁ B hml hv
  obtain ⟨rfl, hsz, hP, hK, hD0⟩ := hv
  have hx := B.exec
  have hb := B.bytes
  have hr := B.returns
  have hts := atoms_spec (ws := wsX5_copy) B.pre
  have hown : s.vm.findClass RX5 = some m.cls := findClass_of_methodNamed B.named
  have hlocks := B.notSynchronized
  subst hsz
  have hD := hD0.self (sz := s.heap.size)
  generalize hAe : va_A [(h0, .inr (9, [.int 0, .ref z0, .ref z1, .ref z2, .int 0, .int 0, .int 0]))] s.heap.size = A at hD ⊢
  have hA : ∀ q : Nat, s.heap.size ≤ q → A q := fun q h => by rw [← hAe]; exact Or.inr h
  have hS : va_S A s.heap s.heap [] := va_S.rf
  have hP : va_P (dC, dI) vwCl [(h0, .inr (9, [.int 0, .ref z0, .ref z1, .ref z2, .int 0, .int 0, .int 0]))] s.heap := hP
  have hl := lv_entry ([.ref h0, .int i0, .int i1]) (n := 3) (Nat.le_of_ble_eq_true rfl)
  rw [lg_entry_eq]
  generalize (lg_sl ([.ref h0, .int i0, .int i1]) ++ List.replicate (3 - (lg_sl ([.ref h0, .int i0, .int i1])).length) Slot.unset).toArray = ls at hl ⊢
  have hl : lv_has ls 3 [(0, .ref h0), (1, .int i0), (2, .int i1)] := hl
  refine lv_aload_n hx hb dX5_copy_0 rfl (lv_at hl 0 rfl) ?_
  refine lv_iload_n hx hb dX5_copy_1 rfl (lv_at hl 1 rfl) ?_
  have hPc := hP.sub (ws' := []) [] rfl
  have hDc := hD.sub (ws' := []) [] (by decide) rfl
  have hKc := hK.sub (tys' := []) [] rfl
  have hFc := va_free (wc := []) hD hS hA [] rfl
  refine va_calli (va_runS (As := [.int i0]) (rest := [.ref h0]) ⟨hx, hb, hml, hown, hts⟩ (kx_X5_isNo_2 l dC dI s.heap.size i0 i0_l i0_u) (cwS 1 hts gX5_copy_X5_isNo rfl rfl rfl (by decide +kernel) ⟨Nat.le_of_ble_eq_true rfl, Nat.le_of_ble_eq_true rfl⟩) ⟨fun a U g mk q => by obtain ⟨q0, q1, qP, qK, qD⟩ := q; exact ⟨q0, q1, qP, va_K.moved (u := U) (U := U.calling g mk a) (Vm.Alike.refl U.vm) qK, qD⟩, fun U hU hW => ⟨rfl, by rw [hU], by rw [hU]; exact hPc, va_K.moved hW.alike hKc, hDc.weaken (fun _ _ _ _ => trivial)⟩⟩ rfl rfl hl.1 rfl (lv_room (Nat.le_of_ble_eq_true rfl)) dX5_copy_2 ⟨Nat.le_of_ble_eq_true rfl, Nat.le_of_ble_eq_true rfl⟩) hS (fun q _ h => hFc q h) hFc (fun r9 u t H1 locs ht hvm hw hB hz1 hk1 hS => ?_)
  obtain rfl := hw
  obtain ⟨hP1, hK1, hD1⟩ := hB
  rw [ht] at hP1
  have hK1 := va_K.moved hvm.symm hK1
  obtain ⟨hP, hD⟩ := va_join (wr := [(h0, .inr (9, [.int 0, .ref z0, .ref z1, .ref z2, .int 0, .int 0, .int 0]))]) (w1 := []) hP hD [] [0] rfl rfl (by decide) (by decide) hk1 hFc hP1 hD1
  generalize H1 = H at hP hS ⊢
  have hP : va_P (dC, dI) vwCl [(h0, .inr (9, [.int 0, .ref z0, .ref z1, .ref z2, .int 0, .int 0, .int 0]))] H := hP
  have hD : va_D A [(h0, .inr (9, [.int 0, .ref z0, .ref z1, .ref z2, .int 0, .int 0, .int 0]))] := hD
  refine lv_if_ne (tgt := 15) hx hb dX5_copy_5 (by decide) (fun _ => ?_) (fun c9 => absurd c9 (by decide))
  refine lv_iconst (v := 1) hx hb dX5_copy_15 (by decide) ?_
  refine lv_goto (tgt := 20) hx hb dX5_copy_16 (by decide) ?_
  refine lv_iconst (v := 0) hx hb dX5_copy_20 (by decide) ?_
  refine lv_iconst (v := 0) hx hb dX5_copy_21 (by decide) ?_
  have hPc := hP.sub (ws' := [(h0, .inr (9, [.int 0, .ref z0, .ref z1, .ref z2, .int 0, .int 0, .int 0]))]) [0] rfl
  have hDc := hD.sub (ws' := [(h0, .inr (9, [.int 0, .ref z0, .ref z1, .ref z2, .int 0, .int 0, .int 0]))]) [0] (by decide) rfl
  have hKc := hK.sub (tys' := []) [] rfl
  have hFc := va_free (wc := [(h0, .inr (9, [.int 0, .ref z0, .ref z1, .ref z2, .int 0, .int 0, .int 0]))]) hD hS hA [0] rfl
  refine va_calli (va_runV (As := [.int 1, .int 0, .int 0]) (rest := []) ⟨hx, hb, hml, hown, hts⟩ (kx_X5_fails_0 l dC dI h0 z0 z1 z2 H.size) (cwV 3 hts gX5_copy_X5_fails rfl rfl rfl (by decide +kernel) ⟨Nat.le_of_ble_eq_true rfl, Nat.le_of_ble_eq_true rfl⟩) ⟨fun a U g mk q => by obtain ⟨q0, q1, qP, qK, qD⟩ := q; exact ⟨q0, q1, qP, va_K.moved (u := U) (U := U.calling g mk a) (Vm.Alike.refl U.vm) qK, qD⟩, va_recv hKc hPc (ci := 9) (q0 := 0) rfl rfl, fun U hU hW => ⟨rfl, by rw [hU], by rw [hU]; exact hPc, va_K.moved hW.alike hKc, hDc.weaken (fun _ _ _ _ => trivial)⟩⟩ rfl rfl hl.1 rfl (lv_room (Nat.le_of_ble_eq_true rfl)) dX5_copy_22 ⟨Nat.le_of_ble_eq_true rfl, Nat.le_of_ble_eq_true rfl⟩) hS (fun q _ h => hFc q h) hFc (fun r9 u t H1 locs ht hvm hw hB hz1 hk1 hS => ?_)
  obtain rfl := hw
  obtain ⟨hP1, hK1, hD1⟩ := hB
  rw [ht] at hP1
  have hK1 := va_K.moved hvm.symm hK1
  obtain ⟨hP, hD⟩ := va_join (wr := []) (w1 := [(h0, .inr (9, [.int 1, .ref z0, .ref z1, .ref z2, .int 0, .int 0, .int 0]))]) hP hD [0] [] rfl rfl (by decide) (by decide) hk1 hFc hP1 hD1
  generalize H1 = H at hP hS ⊢
  have hP : va_P (dC, dI) vwCl [(h0, .inr (9, [.int 1, .ref z0, .ref z1, .ref z2, .int 0, .int 0, .int 0]))] H := hP
  have hD : va_D A [(h0, .inr (9, [.int 1, .ref z0, .ref z1, .ref z2, .int 0, .int 0, .int 0]))] := hD
  refine lv_if_eq (tgt := 30) hx hb dX5_copy_25 (by decide) (fun c9 => absurd c9 (by decide)) (fun _ => ?_)
  refine lv_iconst (v := 0) hx hb dX5_copy_28 (by decide) ?_
  exact W.iret (v := 0) hx hb hr (fun t ht hW => ⟨⟨0, (), rfl, rfl, by rw [ht]; exact hP, va_K.moved hW.alike hK, hD⟩, hS.F ht⟩) hS.2.2 dX5_copy_29
set_option maxHeartbeats 4000000 in
set_option maxRecDepth 100000 in
theorem kx_X3_lay_0 (l : Launch) (hst : l.stackTraces = false) (dC : Nat → ClassId) (dI : Nat → Nat → Nat) (ge5 gea gv5 gva gde gic gi0 : Nat) (h0 : Nat) (z0 : Nat) (z1 : Nat) (z2 : Nat) (z3 : Nat) (z4 : Nat) (z5 : Nat) (sz : Nat) (i0 : Int32) (i0_l : ((-2147483648) : Int) ≤ i0.toInt) (i0_u : i0.toInt ≤ ((-1) : Int)) (i1 : Int32) (i1_l : ((-2147483648) : Int) ≤ i1.toInt) (i1_u : i1.toInt ≤ (2147483647 : Int)) (i2 : Int32) (i2_l : ((-2147483648) : Int) ≤ i2.toInt) (i2_u : i2.toInt ≤ (2147483647 : Int)) : vx_Met l yX3_lay wsX3_lay ({ frames := 7, cells := 1, slots := 6, locals := 140 }) (va_Pc [.ref h0, .int i0, .int i1, .int i2] (fun U => U.heap.size = sz ∧ va_P (dC, dI) vwCl [(h0, .inr (7, [.ref z0, .ref z1, .ref z2, .ref z3, .ref z4, .ref z5, .int 0, .int 0, .int 0]))] U.heap ∧ va_K (dC, dI) vwCl [] U ∧ va_D (fun _ => True) [(h0, .inr (7, [.ref z0, .ref z1, .ref z2, .ref z3, .ref z4, .ref z5, .int 0, .int 0, .int 0]))] ∧ gv ge5 gea gv5 gva gde gic gi0 (va_A [(h0, .inr (7, [.ref z0, .ref z1, .ref z2, .ref z3, .ref z4, .ref z5, .int 0, .int 0, .int 0]))] sz) U U.heap)) (va_Qi (fun (_ : Int32) (_ : Unit) => False) (fun _ _ => True) (va_A [(h0, .inr (7, [.ref z0, .ref z1, .ref z2, .ref z3, .ref z4, .ref z5, .int 0, .int 0, .int 0]))] sz)) (vx_X (fun _ : Unit => True) (fun (E : String) (_ : Unit) (t : State) => E = "java/lang/IndexOutOfBoundsException" ∧ va_P (dC, dI) vwCl [(h0, .inr (7, [.ref z0, .ref z1, .ref z2, .ref z3, .ref z4, .ref z5, .int 0, .int 0, .int 0]))] t.heap ∧ va_K (dC, dI) vwCl [] t ∧ va_D (va_A [(h0, .inr (7, [.ref z0, .ref z1, .ref z2, .ref z3, .ref z4, .ref z5, .int 0, .int 0, .int 0]))] sz) [(h0, .inr (7, [.ref z0, .ref z1, .ref z2, .ref z3, .ref z4, .ref z5, .int 0, .int 0, .int 0]))]) (va_A [(h0, .inr (7, [.ref z0, .ref z1, .ref z2, .ref z3, .ref z4, .ref z5, .int 0, .int 0, .int 0]))] sz)) 1 6 (va_A [(h0, .inr (7, [.ref z0, .ref z1, .ref z2, .ref z3, .ref z4, .ref z5, .int 0, .int 0, .int 0]))] sz) := by
  refine vx_ofW (cc := cX3_lay) (maxL := 5) (ret := (some .int)) (by decide) rfl ?_
  intro p e s m args below meth c s₁ B hml ht9 hv
  obtain ⟨rfl, hsz, hP, hK, hD0, hG⟩ := hv
  have hx := B.exec
  have hb := B.bytes
  have hr := B.returns
  have hts := atoms_spec (ws := wsX3_lay) B.pre
  have hown : s.vm.findClass RX3 = some m.cls := findClass_of_methodNamed B.named
  have hlocks := B.notSynchronized
  subst hsz
  have hD := hD0.self (sz := s.heap.size)
  generalize hAe : va_A [(h0, .inr (7, [.ref z0, .ref z1, .ref z2, .ref z3, .ref z4, .ref z5, .int 0, .int 0, .int 0]))] s.heap.size = A at hD hG ⊢
  obtain ⟨⟨g_AO_Text, g_AO_String, g_AO_Object, g_nm_RX1_20, g_nm_RX0_17, g_nm_RX3_31, g_nm_RX2_44, g_nm_RL_121, g_nf_RL_13, g_nf_RL_47, g_ca_IO, g_ca_IA, g_ca_IS, g_ca_IntObj, g_ca_StrObj, g_de_RT, g_de_EX, g_de_TH, g_nc_IA_IO, g_nc_IS_IO, g_nc_IS_IA⟩, ⟨g_s3, g_s5, g_sa, g_x278, g_x280, g_x282, g_x284, g_x286, g_x180, g_x238, g_x250⟩, ⟨g_o5, g_c5, g_v5, g_t5, g_oa, g_ca, g_va, g_ta, g_zc, g_zd, g_td, g_zf, g_zU, g_zN, g_zh, g_zk, g_tk, g_oi, g_vi⟩⟩ := id hG
  have hA : ∀ q : Nat, s.heap.size ≤ q → A q := fun q h => by rw [← hAe]; exact Or.inr h
  have hS : va_S A s.heap s.heap [] := va_S.rf
  have hP : va_P (dC, dI) vwCl [(h0, .inr (7, [.ref z0, .ref z1, .ref z2, .ref z3, .ref z4, .ref z5, .int 0, .int 0, .int 0]))] s.heap := hP
  have hl := lv_entry ([.ref h0, .int i0, .int i1, .int i2]) (n := 5) (Nat.le_of_ble_eq_true rfl)
  rw [lg_entry_eq]
  generalize (lg_sl ([.ref h0, .int i0, .int i1, .int i2]) ++ List.replicate (5 - (lg_sl ([.ref h0, .int i0, .int i1, .int i2])).length) Slot.unset).toArray = ls at hl ⊢
  have hl : lv_has ls 5 [(0, .ref h0), (1, .int i0), (2, .int i1), (3, .int i2)] := hl
  refine lv_iload_n hx hb dX3_lay_0 rfl (lv_at hl 1 rfl) ?_
  have hPc := hP.sub (ws' := []) [] rfl
  have hDc := hD.sub (ws' := []) [] (by decide) rfl
  have hKc := hK.sub (tys' := []) [] rfl
  have hFc := va_free (wc := []) hD hS hA [] rfl
  refine vx_callv (vx_runS (As := [.int i0]) (rest := []) ⟨hx, hb, hml, hown, hts⟩ (kx_X3_needRope_5 l hst dC dI ge5 gea gv5 gva gde gic gi0 s.heap.size i0 i0_l i0_u) (cwS 1 hts gX3_lay_X3_needRope rfl rfl rfl (by decide +kernel) ⟨Nat.le_of_ble_eq_true rfl, Nat.le_of_ble_eq_true rfl⟩) ⟨fun a U g mk q => by obtain ⟨q0, q1, qP, qK, qD, qG⟩ := q; exact ⟨q0, q1, qP, va_K.moved (u := U) (U := U.calling g mk a) (Vm.Alike.refl U.vm) qK, qD, gv.fb qG⟩, fun U hU hW => ⟨rfl, by rw [hU], by rw [hU]; exact hPc, va_K.moved hW.alike hKc, hDc.weaken (fun _ _ _ _ => trivial), gv.pass hW hU hS hFc hG⟩⟩ rfl rfl hl.1 rfl (lv_room (Nat.le_of_ble_eq_true rfl)) dX3_lay_1 ⟨Nat.le_of_ble_eq_true rfl, Nat.le_of_ble_eq_true rfl⟩) hS (fun q _ h => hFc q h) hFc (fun q _ h => hFc q h) (fun E ce q9 u t H1 locs ht hvm hpx hB hz1 hk1 hS hce hcv hcl => ?_) (fun u t H1 locs ht hvm hw hB hz1 hk1 hS => hw.elim)
  obtain ⟨rfl, hP1, hK1, hD1⟩ := hB
  rw [ht] at hP1
  have hK1 := va_K.moved hvm.symm hK1
  obtain ⟨hP, hD⟩ := va_join (wr := [(h0, .inr (7, [.ref z0, .ref z1, .ref z2, .ref z3, .ref z4, .ref z5, .int 0, .int 0, .int 0]))]) (w1 := []) hP hD [] [0] rfl rfl (by decide) (by decide) hk1 hFc hP1 hD1
  generalize H1 = H at hP hS hce ⊢
  have hP : va_P (dC, dI) vwCl [(h0, .inr (7, [.ref z0, .ref z1, .ref z2, .ref z3, .ref z4, .ref z5, .int 0, .int 0, .int 0]))] H := hP
  have hD : va_D A [(h0, .inr (7, [.ref z0, .ref z1, .ref z2, .ref z3, .ref z4, .ref z5, .int 0, .int 0, .int 0]))] := hD
  exact vx_out (fun x hx9 => (ht9 x hx9).elim) hlocks hce hcv hcl (fun t ht hW => ⟨(), trivial, ⟨rfl, by rw [ht]; exact hP, va_K.moved hW hK, hD⟩, hS.F ht⟩) hS.2.2 (by omega) (by omega)
set_option maxHeartbeats 4000000 in
set_option maxRecDepth 100000 in
theorem kx_L_lay_0 (l : Launch) (hst : l.stackTraces = false) (dC : Nat → ClassId) (dI : Nat → Nat → Nat) (ge5 gea gv5 gva gde gic gi0 : Nat) (h0 : Nat) (z0 : Nat) (z1 : Nat) (z2 : Nat) (z3 : Nat) (z4 : Nat) (z5 : Nat) (z6 : Nat) (sz : Nat) (i0 : Int32) (i0_l : ((-2147483648) : Int) ≤ i0.toInt) (i0_u : i0.toInt ≤ ((-1) : Int)) (i1 : Int32) (i1_l : ((-2147483648) : Int) ≤ i1.toInt) (i1_u : i1.toInt ≤ (2147483647 : Int)) (i2 : Int32) (i2_l : ((-2147483648) : Int) ≤ i2.toInt) (i2_u : i2.toInt ≤ (2147483647 : Int)) : Met l yL_lay wsL_lay ({ frames := 8, cells := 1, slots := 6, locals := 164 }) (va_Pc [.ref h0, .int i0, .int i1, .int i2, .ref z0] (fun U => U.heap.size = sz ∧ va_P (dC, dI) vwCl [(h0, .inr (7, [.ref z1, .ref z2, .ref z3, .ref z4, .ref z5, .ref z6, .int 0, .int 0, .int 0]))] U.heap ∧ va_K (dC, dI) vwCl [] U ∧ va_D (fun _ => True) [(h0, .inr (7, [.ref z1, .ref z2, .ref z3, .ref z4, .ref z5, .ref z6, .int 0, .int 0, .int 0]))] ∧ gv ge5 gea gv5 gva gde gic gi0 (va_A [(h0, .inr (7, [.ref z1, .ref z2, .ref z3, .ref z4, .ref z5, .ref z6, .int 0, .int 0, .int 0]))] sz) U U.heap)) (va_Qi (fun (r : Int32) (_ : Unit) => r = 1) (fun (_ : Unit) (t : State) => va_P (dC, dI) vwCl [(h0, .inr (7, [.ref z1, .ref z2, .ref z3, .ref z4, .ref z5, .ref z6, .int 0, .int 0, .int 0]))] t.heap ∧ va_K (dC, dI) vwCl [] t ∧ va_D (va_A [(h0, .inr (7, [.ref z1, .ref z2, .ref z3, .ref z4, .ref z5, .ref z6, .int 0, .int 0, .int 0]))] sz) [(h0, .inr (7, [.ref z1, .ref z2, .ref z3, .ref z4, .ref z5, .ref z6, .int 0, .int 0, .int 0]))]) (va_A [(h0, .inr (7, [.ref z1, .ref z2, .ref z3, .ref z4, .ref z5, .ref z6, .int 0, .int 0, .int 0]))] sz)) 1 6 (va_A [(h0, .inr (7, [.ref z1, .ref z2, .ref z3, .ref z4, .ref z5, .ref z6, .int 0, .int 0, .int 0]))] sz) := by
  refine kz_ofWH (cc := cL_lay) (maxL := 6) (ret := (some .int)) (hh := [(0, 13, 16, 19)]) (by decide) rfl ?_
  intro p e s m args below meth c s₁ B hml hv
  obtain ⟨rfl, hsz, hP, hK, hD0, hG⟩ := hv
  have hx := B.exec
  have hb := B.bytes
  have hr := B.returns
  have hts := atoms_spec (ws := wsL_lay) B.pre
  have hown : s.vm.findClass RL = some m.cls := findClass_of_methodNamed B.named
  have htab := vx_table (x := yL_lay) B (hts (.codeWith yL_lay cL_lay 6 (some .int) [(0, 13, 16, 19)]) (by decide +kernel))
  have hlocks := B.notSynchronized
  subst hsz
  have hD := hD0.self (sz := s.heap.size)
  generalize hAe : va_A [(h0, .inr (7, [.ref z1, .ref z2, .ref z3, .ref z4, .ref z5, .ref z6, .int 0, .int 0, .int 0]))] s.heap.size = A at hD hG ⊢
  obtain ⟨⟨g_AO_Text, g_AO_String, g_AO_Object, g_nm_RX1_20, g_nm_RX0_17, g_nm_RX3_31, g_nm_RX2_44, g_nm_RL_121, g_nf_RL_13, g_nf_RL_47, g_ca_IO, g_ca_IA, g_ca_IS, g_ca_IntObj, g_ca_StrObj, g_de_RT, g_de_EX, g_de_TH, g_nc_IA_IO, g_nc_IS_IO, g_nc_IS_IA⟩, ⟨g_s3, g_s5, g_sa, g_x278, g_x280, g_x282, g_x284, g_x286, g_x180, g_x238, g_x250⟩, ⟨g_o5, g_c5, g_v5, g_t5, g_oa, g_ca, g_va, g_ta, g_zc, g_zd, g_td, g_zf, g_zU, g_zN, g_zh, g_zk, g_tk, g_oi, g_vi⟩⟩ := id hG
  have hA : ∀ q : Nat, s.heap.size ≤ q → A q := fun q h => by rw [← hAe]; exact Or.inr h
  have hS : va_S A s.heap s.heap [] := va_S.rf
  have hP : va_P (dC, dI) vwCl [(h0, .inr (7, [.ref z1, .ref z2, .ref z3, .ref z4, .ref z5, .ref z6, .int 0, .int 0, .int 0]))] s.heap := hP
  have hl := lv_entry ([.ref h0, .int i0, .int i1, .int i2, .ref z0]) (n := 6) (Nat.le_of_ble_eq_true rfl)
  rw [lg_entry_eq]
  generalize (lg_sl ([.ref h0, .int i0, .int i1, .int i2, .ref z0]) ++ List.replicate (6 - (lg_sl ([.ref h0, .int i0, .int i1, .int i2, .ref z0])).length) Slot.unset).toArray = ls at hl ⊢
  have hl : lv_has ls 6 [(0, .ref h0), (1, .int i0), (2, .int i1), (3, .int i2), (4, .ref z0)] := hl
  refine lv_aload hx hb dL_lay_0 (lv_at hl 4 rfl) ?_
  refine lv_aload_n hx hb dL_lay_2 rfl (lv_at hl 0 rfl) ?_
  refine lv_iload_n hx hb dL_lay_3 rfl (lv_at hl 1 rfl) ?_
  refine lv_iload_n hx hb dL_lay_4 rfl (lv_at hl 2 rfl) ?_
  refine lv_iload_n hx hb dL_lay_5 rfl (lv_at hl 3 rfl) ?_
  have hPc := hP.sub (ws' := [(h0, .inr (7, [.ref z1, .ref z2, .ref z3, .ref z4, .ref z5, .ref z6, .int 0, .int 0, .int 0]))]) [0] rfl
  have hDc := hD.sub (ws' := [(h0, .inr (7, [.ref z1, .ref z2, .ref z3, .ref z4, .ref z5, .ref z6, .int 0, .int 0, .int 0]))]) [0] (by decide) rfl
  have hKc := hK.sub (tys' := []) [] rfl
  have hFc := va_free (wc := [(h0, .inr (7, [.ref z1, .ref z2, .ref z3, .ref z4, .ref z5, .ref z6, .int 0, .int 0, .int 0]))]) hD hS hA [0] rfl
  refine vx_calli (vx_runV (As := [.int i0, .int i1, .int i2]) (rest := [.ref z0]) ⟨hx, hb, hml, hown, hts⟩ (kx_X3_lay_0 l hst dC dI ge5 gea gv5 gva gde gic gi0 h0 z1 z2 z3 z4 z5 z6 s.heap.size i0 i0_l i0_u i1 i1_l i1_u i2 i2_l i2_u) (cwV 3 hts gL_lay_X3_lay rfl rfl rfl (by decide +kernel) ⟨Nat.le_of_ble_eq_true rfl, Nat.le_of_ble_eq_true rfl⟩) ⟨fun a U g mk q => by obtain ⟨q0, q1, qP, qK, qD, qG⟩ := q; exact ⟨q0, q1, qP, va_K.moved (u := U) (U := U.calling g mk a) (Vm.Alike.refl U.vm) qK, qD, gv.fb qG⟩, va_recv hKc hPc (ci := 7) (q0 := 0) rfl rfl, fun U hU hW => ⟨rfl, by rw [hU], by rw [hU]; exact hPc, va_K.moved hW.alike hKc, hDc.weaken (fun _ _ _ _ => trivial), gv.pass hW hU hS hFc hG⟩⟩ rfl rfl hl.1 rfl (lv_room (Nat.le_of_ble_eq_true rfl)) dL_lay_6 ⟨Nat.le_of_ble_eq_true rfl, Nat.le_of_ble_eq_true rfl⟩) hS (fun q _ h => hFc q h) hFc (fun q _ h => hFc q h) (fun E ce q9 u t H1 locs ht hvm hpx hB hz1 hk1 hS hce hcv hcl => ?_) (fun r9 u t H1 locs ht hvm hw hB hz1 hk1 hS => hw.elim)
  obtain ⟨rfl, hP1, hK1, hD1⟩ := hB
  rw [ht] at hP1
  have hK1 := va_K.moved hvm.symm hK1
  obtain ⟨hP, hD⟩ := va_join (wr := []) (w1 := [(h0, .inr (7, [.ref z1, .ref z2, .ref z3, .ref z4, .ref z5, .ref z6, .int 0, .int 0, .int 0]))]) hP hD [0] [] rfl rfl (by decide) (by decide) hk1 hFc hP1 hD1
  generalize H1 = H at hP hS hce ⊢
  have hP : va_P (dC, dI) vwCl [(h0, .inr (7, [.ref z1, .ref z2, .ref z3, .ref z4, .ref z5, .ref z6, .int 0, .int 0, .int 0]))] H := hP
  have hD : va_D A [(h0, .inr (7, [.ref z1, .ref z2, .ref z3, .ref z4, .ref z5, .ref z6, .int 0, .int 0, .int 0]))] := hD
  refine vx_catch (own := RL) (name := "java/lang/IndexOutOfBoundsException") hown (tableOf []) ⟨0, 13, 16, 19⟩ (tableOf []) (by rw [htab]; rfl) (fun z hz => nomatch hz) (by decide +kernel) (by decide) (hts (.classLink RL 19 "java/lang/IndexOutOfBoundsException") (by decide +kernel)) (va_Nw.use rfl g_ca_IO) hce hcv hcl ?_
  refine W.eq (g2 := F0 m 16 ls [.ref q9]) rfl ?_
  refine lv_astore (lv' := [(5, .ref q9), (0, .ref h0), (1, .int i0), (2, .int i1), (3, .int i2), (4, .ref z0)]) hx hb dL_lay_16 hl (by decide) rfl (fun ls hl => ?_)
  refine lv_iconst (v := 1) hx hb dL_lay_18 (by decide) ?_
  exact W.iret (v := 1) hx hb hr (fun t ht hW => ⟨⟨1, (), rfl, rfl, by rw [ht]; exact hP, va_K.moved hW.alike hK, hD⟩, hS.F ht⟩) hS.2.2 dL_lay_19
set_option maxHeartbeats 4000000 in
set_option maxRecDepth 100000 in
theorem kx_X5_lay_0 (l : Launch) (dC : Nat → ClassId) (dI : Nat → Nat → Nat) (h0 : Nat) (z0 : Nat) (z1 : Nat) (z2 : Nat) (sz : Nat) (i0 : Int32) (i0_l : ((-2147483648) : Int) ≤ i0.toInt) (i0_u : i0.toInt ≤ ((-1) : Int)) (i1 : Int32) (i1_l : ((-2147483648) : Int) ≤ i1.toInt) (i1_u : i1.toInt ≤ (2147483647 : Int)) (i2 : Int32) (i2_l : ((-2147483648) : Int) ≤ i2.toInt) (i2_u : i2.toInt ≤ (2147483647 : Int)) : Met l yX5_lay wsX5_lay ({ frames := 2, cells := 0, slots := 0, locals := 42 }) (va_Pc [.ref h0, .int i0, .int i1, .int i2] (fun U => U.heap.size = sz ∧ va_P (dC, dI) vwCl [(h0, .inr (9, [.int 0, .ref z0, .ref z1, .ref z2, .int 0, .int 0, .int 0]))] U.heap ∧ va_K (dC, dI) vwCl [] U ∧ va_D (fun _ => True) [(h0, .inr (9, [.int 0, .ref z0, .ref z1, .ref z2, .int 0, .int 0, .int 0]))])) (va_Qi (fun (r : Int32) (_ : Unit) => r = 0) (fun (_ : Unit) (t : State) => va_P (dC, dI) vwCl [(h0, .inr (9, [.int 1, .ref z0, .ref z1, .ref z2, .int 0, .int 0, .int 0]))] t.heap ∧ va_K (dC, dI) vwCl [] t ∧ va_D (va_A [(h0, .inr (9, [.int 0, .ref z0, .ref z1, .ref z2, .int 0, .int 0, .int 0]))] sz) [(h0, .inr (9, [.int 1, .ref z0, .ref z1, .ref z2, .int 0, .int 0, .int 0]))]) (va_A [(h0, .inr (9, [.int 0, .ref z0, .ref z1, .ref z2, .int 0, .int 0, .int 0]))] sz)) 0 0 (va_A [(h0, .inr (9, [.int 0, .ref z0, .ref z1, .ref z2, .int 0, .int 0, .int 0]))] sz) := by
  refine Met.ofW (cc := cX5_lay) (maxL := 5) (ret := (some .int)) (by decide) rfl ?_
  intro p e s m args below meth c s₁ B hml hv
  obtain ⟨rfl, hsz, hP, hK, hD0⟩ := hv
  have hx := B.exec
  have hb := B.bytes
  have hr := B.returns
  have hts := atoms_spec (ws := wsX5_lay) B.pre
  have hown : s.vm.findClass RX5 = some m.cls := findClass_of_methodNamed B.named
  have hlocks := B.notSynchronized
  subst hsz
  have hD := hD0.self (sz := s.heap.size)
  generalize hAe : va_A [(h0, .inr (9, [.int 0, .ref z0, .ref z1, .ref z2, .int 0, .int 0, .int 0]))] s.heap.size = A at hD ⊢
  have hA : ∀ q : Nat, s.heap.size ≤ q → A q := fun q h => by rw [← hAe]; exact Or.inr h
  have hS : va_S A s.heap s.heap [] := va_S.rf
  have hP : va_P (dC, dI) vwCl [(h0, .inr (9, [.int 0, .ref z0, .ref z1, .ref z2, .int 0, .int 0, .int 0]))] s.heap := hP
  have hl := lv_entry ([.ref h0, .int i0, .int i1, .int i2]) (n := 5) (Nat.le_of_ble_eq_true rfl)
  rw [lg_entry_eq]
  generalize (lg_sl ([.ref h0, .int i0, .int i1, .int i2]) ++ List.replicate (5 - (lg_sl ([.ref h0, .int i0, .int i1, .int i2])).length) Slot.unset).toArray = ls at hl ⊢
  have hl : lv_has ls 5 [(0, .ref h0), (1, .int i0), (2, .int i1), (3, .int i2)] := hl
  refine lv_aload_n hx hb dX5_lay_0 rfl (lv_at hl 0 rfl) ?_
  refine lv_iload_n hx hb dX5_lay_1 rfl (lv_at hl 1 rfl) ?_
  have hPc := hP.sub (ws' := []) [] rfl
  have hDc := hD.sub (ws' := []) [] (by decide) rfl
  have hKc := hK.sub (tys' := []) [] rfl
  have hFc := va_free (wc := []) hD hS hA [] rfl
  refine va_calli (va_runS (As := [.int i0]) (rest := [.ref h0]) ⟨hx, hb, hml, hown, hts⟩ (kx_X5_isNo_0 l dC dI s.heap.size i0 i0_l i0_u) (cwS 1 hts gX5_lay_X5_isNo rfl rfl rfl (by decide +kernel) ⟨Nat.le_of_ble_eq_true rfl, Nat.le_of_ble_eq_true rfl⟩) ⟨fun a U g mk q => by obtain ⟨q0, q1, qP, qK, qD⟩ := q; exact ⟨q0, q1, qP, va_K.moved (u := U) (U := U.calling g mk a) (Vm.Alike.refl U.vm) qK, qD⟩, fun U hU hW => ⟨rfl, by rw [hU], by rw [hU]; exact hPc, va_K.moved hW.alike hKc, hDc.weaken (fun _ _ _ _ => trivial)⟩⟩ rfl rfl hl.1 rfl (lv_room (Nat.le_of_ble_eq_true rfl)) dX5_lay_2 ⟨Nat.le_of_ble_eq_true rfl, Nat.le_of_ble_eq_true rfl⟩) hS (fun q _ h => hFc q h) hFc (fun r9 u t H1 locs ht hvm hw hB hz1 hk1 hS => ?_)
  obtain rfl := hw
  obtain ⟨hP1, hK1, hD1⟩ := hB
  rw [ht] at hP1
  have hK1 := va_K.moved hvm.symm hK1
  obtain ⟨hP, hD⟩ := va_join (wr := [(h0, .inr (9, [.int 0, .ref z0, .ref z1, .ref z2, .int 0, .int 0, .int 0]))]) (w1 := []) hP hD [] [0] rfl rfl (by decide) (by decide) hk1 hFc hP1 hD1
  generalize H1 = H at hP hS ⊢
  have hP : va_P (dC, dI) vwCl [(h0, .inr (9, [.int 0, .ref z0, .ref z1, .ref z2, .int 0, .int 0, .int 0]))] H := hP
  have hD : va_D A [(h0, .inr (9, [.int 0, .ref z0, .ref z1, .ref z2, .int 0, .int 0, .int 0]))] := hD
  refine lv_if_ne (tgt := 32) hx hb dX5_lay_5 (by decide) (fun _ => ?_) (fun c9 => absurd c9 (by decide))
  refine lv_iconst (v := 1) hx hb dX5_lay_32 (by decide) ?_
  refine lv_goto (tgt := 37) hx hb dX5_lay_33 (by decide) ?_
  refine lv_iconst (v := 0) hx hb dX5_lay_37 (by decide) ?_
  refine lv_iconst (v := 0) hx hb dX5_lay_38 (by decide) ?_
  have hPc := hP.sub (ws' := [(h0, .inr (9, [.int 0, .ref z0, .ref z1, .ref z2, .int 0, .int 0, .int 0]))]) [0] rfl
  have hDc := hD.sub (ws' := [(h0, .inr (9, [.int 0, .ref z0, .ref z1, .ref z2, .int 0, .int 0, .int 0]))]) [0] (by decide) rfl
  have hKc := hK.sub (tys' := []) [] rfl
  have hFc := va_free (wc := [(h0, .inr (9, [.int 0, .ref z0, .ref z1, .ref z2, .int 0, .int 0, .int 0]))]) hD hS hA [0] rfl
  refine va_calli (va_runV (As := [.int 1, .int 0, .int 0]) (rest := []) ⟨hx, hb, hml, hown, hts⟩ (kx_X5_fails_0 l dC dI h0 z0 z1 z2 H.size) (cwV 3 hts gX5_lay_X5_fails rfl rfl rfl (by decide +kernel) ⟨Nat.le_of_ble_eq_true rfl, Nat.le_of_ble_eq_true rfl⟩) ⟨fun a U g mk q => by obtain ⟨q0, q1, qP, qK, qD⟩ := q; exact ⟨q0, q1, qP, va_K.moved (u := U) (U := U.calling g mk a) (Vm.Alike.refl U.vm) qK, qD⟩, va_recv hKc hPc (ci := 9) (q0 := 0) rfl rfl, fun U hU hW => ⟨rfl, by rw [hU], by rw [hU]; exact hPc, va_K.moved hW.alike hKc, hDc.weaken (fun _ _ _ _ => trivial)⟩⟩ rfl rfl hl.1 rfl (lv_room (Nat.le_of_ble_eq_true rfl)) dX5_lay_39 ⟨Nat.le_of_ble_eq_true rfl, Nat.le_of_ble_eq_true rfl⟩) hS (fun q _ h => hFc q h) hFc (fun r9 u t H1 locs ht hvm hw hB hz1 hk1 hS => ?_)
  obtain rfl := hw
  obtain ⟨hP1, hK1, hD1⟩ := hB
  rw [ht] at hP1
  have hK1 := va_K.moved hvm.symm hK1
  obtain ⟨hP, hD⟩ := va_join (wr := []) (w1 := [(h0, .inr (9, [.int 1, .ref z0, .ref z1, .ref z2, .int 0, .int 0, .int 0]))]) hP hD [0] [] rfl rfl (by decide) (by decide) hk1 hFc hP1 hD1
  generalize H1 = H at hP hS ⊢
  have hP : va_P (dC, dI) vwCl [(h0, .inr (9, [.int 1, .ref z0, .ref z1, .ref z2, .int 0, .int 0, .int 0]))] H := hP
  have hD : va_D A [(h0, .inr (9, [.int 1, .ref z0, .ref z1, .ref z2, .int 0, .int 0, .int 0]))] := hD
  refine lv_if_eq (tgt := 47) hx hb dX5_lay_42 (by decide) (fun c9 => absurd c9 (by decide)) (fun _ => ?_)
  refine lv_iconst (v := 0) hx hb dX5_lay_45 (by decide) ?_
  exact W.iret (v := 0) hx hb hr (fun t ht hW => ⟨⟨0, (), rfl, rfl, by rw [ht]; exact hP, va_K.moved hW.alike hK, hD⟩, hS.F ht⟩) hS.2.2 dX5_lay_46
set_option maxHeartbeats 4000000 in
set_option maxRecDepth 100000 in
theorem kx_X3_lay_1 (l : Launch) (hst : l.stackTraces = false) (dC : Nat → ClassId) (dI : Nat → Nat → Nat) (ge5 gea gv5 gva gde gic gi0 : Nat) (h0 : Nat) (z0 : Nat) (z1 : Nat) (z2 : Nat) (z3 : Nat) (z4 : Nat) (z5 : Nat) (sz : Nat) (i0 : Int32) (i0_l : (4 : Int) ≤ i0.toInt) (i0_u : i0.toInt ≤ (2147483647 : Int)) (i1 : Int32) (i1_l : ((-2147483648) : Int) ≤ i1.toInt) (i1_u : i1.toInt ≤ (2147483647 : Int)) (i2 : Int32) (i2_l : ((-2147483648) : Int) ≤ i2.toInt) (i2_u : i2.toInt ≤ (2147483647 : Int)) : vx_Met l yX3_lay wsX3_lay ({ frames := 7, cells := 1, slots := 6, locals := 140 }) (va_Pc [.ref h0, .int i0, .int i1, .int i2] (fun U => U.heap.size = sz ∧ va_P (dC, dI) vwCl [(h0, .inr (7, [.ref z0, .ref z1, .ref z2, .ref z3, .ref z4, .ref z5, .int 0, .int 0, .int 0]))] U.heap ∧ va_K (dC, dI) vwCl [] U ∧ va_D (fun _ => True) [(h0, .inr (7, [.ref z0, .ref z1, .ref z2, .ref z3, .ref z4, .ref z5, .int 0, .int 0, .int 0]))] ∧ gv ge5 gea gv5 gva gde gic gi0 (va_A [(h0, .inr (7, [.ref z0, .ref z1, .ref z2, .ref z3, .ref z4, .ref z5, .int 0, .int 0, .int 0]))] sz) U U.heap)) (va_Qi (fun (_ : Int32) (_ : Unit) => False) (fun _ _ => True) (va_A [(h0, .inr (7, [.ref z0, .ref z1, .ref z2, .ref z3, .ref z4, .ref z5, .int 0, .int 0, .int 0]))] sz)) (vx_X (fun _ : Unit => True) (fun (E : String) (_ : Unit) (t : State) => E = "java/lang/IndexOutOfBoundsException" ∧ va_P (dC, dI) vwCl [(h0, .inr (7, [.ref z0, .ref z1, .ref z2, .ref z3, .ref z4, .ref z5, .int 0, .int 0, .int 0]))] t.heap ∧ va_K (dC, dI) vwCl [] t ∧ va_D (va_A [(h0, .inr (7, [.ref z0, .ref z1, .ref z2, .ref z3, .ref z4, .ref z5, .int 0, .int 0, .int 0]))] sz) [(h0, .inr (7, [.ref z0, .ref z1, .ref z2, .ref z3, .ref z4, .ref z5, .int 0, .int 0, .int 0]))]) (va_A [(h0, .inr (7, [.ref z0, .ref z1, .ref z2, .ref z3, .ref z4, .ref z5, .int 0, .int 0, .int 0]))] sz)) 1 6 (va_A [(h0, .inr (7, [.ref z0, .ref z1, .ref z2, .ref z3, .ref z4, .ref z5, .int 0, .int 0, .int 0]))] sz) := by
  refine vx_ofW (cc := cX3_lay) (maxL := 5) (ret := (some .int)) (by decide) rfl ?_
  intro p e s m args below meth c s₁ B hml ht9 hv
  obtain ⟨rfl, hsz, hP, hK, hD0, hG⟩ := hv
  have hx := B.exec
  have hb := B.bytes
  have hr := B.returns
  have hts := atoms_spec (ws := wsX3_lay) B.pre
  have hown : s.vm.findClass RX3 = some m.cls := findClass_of_methodNamed B.named
  have hlocks := B.notSynchronized
  subst hsz
  have hD := hD0.self (sz := s.heap.size)
  generalize hAe : va_A [(h0, .inr (7, [.ref z0, .ref z1, .ref z2, .ref z3, .ref z4, .ref z5, .int 0, .int 0, .int 0]))] s.heap.size = A at hD hG ⊢
  obtain ⟨⟨g_AO_Text, g_AO_String, g_AO_Object, g_nm_RX1_20, g_nm_RX0_17, g_nm_RX3_31, g_nm_RX2_44, g_nm_RL_121, g_nf_RL_13, g_nf_RL_47, g_ca_IO, g_ca_IA, g_ca_IS, g_ca_IntObj, g_ca_StrObj, g_de_RT, g_de_EX, g_de_TH, g_nc_IA_IO, g_nc_IS_IO, g_nc_IS_IA⟩, ⟨g_s3, g_s5, g_sa, g_x278, g_x280, g_x282, g_x284, g_x286, g_x180, g_x238, g_x250⟩, ⟨g_o5, g_c5, g_v5, g_t5, g_oa, g_ca, g_va, g_ta, g_zc, g_zd, g_td, g_zf, g_zU, g_zN, g_zh, g_zk, g_tk, g_oi, g_vi⟩⟩ := id hG
  have hA : ∀ q : Nat, s.heap.size ≤ q → A q := fun q h => by rw [← hAe]; exact Or.inr h
  have hS : va_S A s.heap s.heap [] := va_S.rf
  have hP : va_P (dC, dI) vwCl [(h0, .inr (7, [.ref z0, .ref z1, .ref z2, .ref z3, .ref z4, .ref z5, .int 0, .int 0, .int 0]))] s.heap := hP
  have hl := lv_entry ([.ref h0, .int i0, .int i1, .int i2]) (n := 5) (Nat.le_of_ble_eq_true rfl)
  rw [lg_entry_eq]
  generalize (lg_sl ([.ref h0, .int i0, .int i1, .int i2]) ++ List.replicate (5 - (lg_sl ([.ref h0, .int i0, .int i1, .int i2])).length) Slot.unset).toArray = ls at hl ⊢
  have hl : lv_has ls 5 [(0, .ref h0), (1, .int i0), (2, .int i1), (3, .int i2)] := hl
  refine lv_iload_n hx hb dX3_lay_0 rfl (lv_at hl 1 rfl) ?_
  have hPc := hP.sub (ws' := []) [] rfl
  have hDc := hD.sub (ws' := []) [] (by decide) rfl
  have hKc := hK.sub (tys' := []) [] rfl
  have hFc := va_free (wc := []) hD hS hA [] rfl
  refine vx_callv (vx_runS (As := [.int i0]) (rest := []) ⟨hx, hb, hml, hown, hts⟩ (kx_X3_needRope_6 l hst dC dI ge5 gea gv5 gva gde gic gi0 s.heap.size i0 i0_l i0_u) (cwS 1 hts gX3_lay_X3_needRope rfl rfl rfl (by decide +kernel) ⟨Nat.le_of_ble_eq_true rfl, Nat.le_of_ble_eq_true rfl⟩) ⟨fun a U g mk q => by obtain ⟨q0, q1, qP, qK, qD, qG⟩ := q; exact ⟨q0, q1, qP, va_K.moved (u := U) (U := U.calling g mk a) (Vm.Alike.refl U.vm) qK, qD, gv.fb qG⟩, fun U hU hW => ⟨rfl, by rw [hU], by rw [hU]; exact hPc, va_K.moved hW.alike hKc, hDc.weaken (fun _ _ _ _ => trivial), gv.pass hW hU hS hFc hG⟩⟩ rfl rfl hl.1 rfl (lv_room (Nat.le_of_ble_eq_true rfl)) dX3_lay_1 ⟨Nat.le_of_ble_eq_true rfl, Nat.le_of_ble_eq_true rfl⟩) hS (fun q _ h => hFc q h) hFc (fun q _ h => hFc q h) (fun E ce q9 u t H1 locs ht hvm hpx hB hz1 hk1 hS hce hcv hcl => ?_) (fun u t H1 locs ht hvm hw hB hz1 hk1 hS => hw.elim)
  obtain ⟨rfl, hP1, hK1, hD1⟩ := hB
  rw [ht] at hP1
  have hK1 := va_K.moved hvm.symm hK1
  obtain ⟨hP, hD⟩ := va_join (wr := [(h0, .inr (7, [.ref z0, .ref z1, .ref z2, .ref z3, .ref z4, .ref z5, .int 0, .int 0, .int 0]))]) (w1 := []) hP hD [] [0] rfl rfl (by decide) (by decide) hk1 hFc hP1 hD1
  generalize H1 = H at hP hS hce ⊢
  have hP : va_P (dC, dI) vwCl [(h0, .inr (7, [.ref z0, .ref z1, .ref z2, .ref z3, .ref z4, .ref z5, .int 0, .int 0, .int 0]))] H := hP
  have hD : va_D A [(h0, .inr (7, [.ref z0, .ref z1, .ref z2, .ref z3, .ref z4, .ref z5, .int 0, .int 0, .int 0]))] := hD
  exact vx_out (fun x hx9 => (ht9 x hx9).elim) hlocks hce hcv hcl (fun t ht hW => ⟨(), trivial, ⟨rfl, by rw [ht]; exact hP, va_K.moved hW hK, hD⟩, hS.F ht⟩) hS.2.2 (by omega) (by omega)
set_option maxHeartbeats 4000000 in
set_option maxRecDepth 100000 in
theorem kx_L_lay_1 (l : Launch) (hst : l.stackTraces = false) (dC : Nat → ClassId) (dI : Nat → Nat → Nat) (ge5 gea gv5 gva gde gic gi0 : Nat) (h0 : Nat) (z0 : Nat) (z1 : Nat) (z2 : Nat) (z3 : Nat) (z4 : Nat) (z5 : Nat) (z6 : Nat) (sz : Nat) (i0 : Int32) (i0_l : (4 : Int) ≤ i0.toInt) (i0_u : i0.toInt ≤ (2147483647 : Int)) (i1 : Int32) (i1_l : ((-2147483648) : Int) ≤ i1.toInt) (i1_u : i1.toInt ≤ (2147483647 : Int)) (i2 : Int32) (i2_l : ((-2147483648) : Int) ≤ i2.toInt) (i2_u : i2.toInt ≤ (2147483647 : Int)) : Met l yL_lay wsL_lay ({ frames := 8, cells := 1, slots := 6, locals := 164 }) (va_Pc [.ref h0, .int i0, .int i1, .int i2, .ref z0] (fun U => U.heap.size = sz ∧ va_P (dC, dI) vwCl [(h0, .inr (7, [.ref z1, .ref z2, .ref z3, .ref z4, .ref z5, .ref z6, .int 0, .int 0, .int 0]))] U.heap ∧ va_K (dC, dI) vwCl [] U ∧ va_D (fun _ => True) [(h0, .inr (7, [.ref z1, .ref z2, .ref z3, .ref z4, .ref z5, .ref z6, .int 0, .int 0, .int 0]))] ∧ gv ge5 gea gv5 gva gde gic gi0 (va_A [(h0, .inr (7, [.ref z1, .ref z2, .ref z3, .ref z4, .ref z5, .ref z6, .int 0, .int 0, .int 0]))] sz) U U.heap)) (va_Qi (fun (r : Int32) (_ : Unit) => r = 1) (fun (_ : Unit) (t : State) => va_P (dC, dI) vwCl [(h0, .inr (7, [.ref z1, .ref z2, .ref z3, .ref z4, .ref z5, .ref z6, .int 0, .int 0, .int 0]))] t.heap ∧ va_K (dC, dI) vwCl [] t ∧ va_D (va_A [(h0, .inr (7, [.ref z1, .ref z2, .ref z3, .ref z4, .ref z5, .ref z6, .int 0, .int 0, .int 0]))] sz) [(h0, .inr (7, [.ref z1, .ref z2, .ref z3, .ref z4, .ref z5, .ref z6, .int 0, .int 0, .int 0]))]) (va_A [(h0, .inr (7, [.ref z1, .ref z2, .ref z3, .ref z4, .ref z5, .ref z6, .int 0, .int 0, .int 0]))] sz)) 1 6 (va_A [(h0, .inr (7, [.ref z1, .ref z2, .ref z3, .ref z4, .ref z5, .ref z6, .int 0, .int 0, .int 0]))] sz) := by
  refine kz_ofWH (cc := cL_lay) (maxL := 6) (ret := (some .int)) (hh := [(0, 13, 16, 19)]) (by decide) rfl ?_
  intro p e s m args below meth c s₁ B hml hv
  obtain ⟨rfl, hsz, hP, hK, hD0, hG⟩ := hv
  have hx := B.exec
  have hb := B.bytes
  have hr := B.returns
  have hts := atoms_spec (ws := wsL_lay) B.pre
  have hown : s.vm.findClass RL = some m.cls := findClass_of_methodNamed B.named
  have htab := vx_table (x := yL_lay) B (hts (.codeWith yL_lay cL_lay 6 (some .int) [(0, 13, 16, 19)]) (by decide +kernel))
  have hlocks := B.notSynchronized
  subst hsz
  have hD := hD0.self (sz := s.heap.size)
  generalize hAe : va_A [(h0, .inr (7, [.ref z1, .ref z2, .ref z3, .ref z4, .ref z5, .ref z6, .int 0, .int 0, .int 0]))] s.heap.size = A at hD hG ⊢
  obtain ⟨⟨g_AO_Text, g_AO_String, g_AO_Object, g_nm_RX1_20, g_nm_RX0_17, g_nm_RX3_31, g_nm_RX2_44, g_nm_RL_121, g_nf_RL_13, g_nf_RL_47, g_ca_IO, g_ca_IA, g_ca_IS, g_ca_IntObj, g_ca_StrObj, g_de_RT, g_de_EX, g_de_TH, g_nc_IA_IO, g_nc_IS_IO, g_nc_IS_IA⟩, ⟨g_s3, g_s5, g_sa, g_x278, g_x280, g_x282, g_x284, g_x286, g_x180, g_x238, g_x250⟩, ⟨g_o5, g_c5, g_v5, g_t5, g_oa, g_ca, g_va, g_ta, g_zc, g_zd, g_td, g_zf, g_zU, g_zN, g_zh, g_zk, g_tk, g_oi, g_vi⟩⟩ := id hG
  have hA : ∀ q : Nat, s.heap.size ≤ q → A q := fun q h => by rw [← hAe]; exact Or.inr h
  have hS : va_S A s.heap s.heap [] := va_S.rf
  have hP : va_P (dC, dI) vwCl [(h0, .inr (7, [.ref z1, .ref z2, .ref z3, .ref z4, .ref z5, .ref z6, .int 0, .int 0, .int 0]))] s.heap := hP
  have hl := lv_entry ([.ref h0, .int i0, .int i1, .int i2, .ref z0]) (n := 6) (Nat.le_of_ble_eq_true rfl)
  rw [lg_entry_eq]
  generalize (lg_sl ([.ref h0, .int i0, .int i1, .int i2, .ref z0]) ++ List.replicate (6 - (lg_sl ([.ref h0, .int i0, .int i1, .int i2, .ref z0])).length) Slot.unset).toArray = ls at hl ⊢
  have hl : lv_has ls 6 [(0, .ref h0), (1, .int i0), (2, .int i1), (3, .int i2), (4, .ref z0)] := hl
  refine lv_aload hx hb dL_lay_0 (lv_at hl 4 rfl) ?_
  refine lv_aload_n hx hb dL_lay_2 rfl (lv_at hl 0 rfl) ?_
  refine lv_iload_n hx hb dL_lay_3 rfl (lv_at hl 1 rfl) ?_
  refine lv_iload_n hx hb dL_lay_4 rfl (lv_at hl 2 rfl) ?_
  refine lv_iload_n hx hb dL_lay_5 rfl (lv_at hl 3 rfl) ?_
  have hPc := hP.sub (ws' := [(h0, .inr (7, [.ref z1, .ref z2, .ref z3, .ref z4, .ref z5, .ref z6, .int 0, .int 0, .int 0]))]) [0] rfl
  have hDc := hD.sub (ws' := [(h0, .inr (7, [.ref z1, .ref z2, .ref z3, .ref z4, .ref z5, .ref z6, .int 0, .int 0, .int 0]))]) [0] (by decide) rfl
  have hKc := hK.sub (tys' := []) [] rfl
  have hFc := va_free (wc := [(h0, .inr (7, [.ref z1, .ref z2, .ref z3, .ref z4, .ref z5, .ref z6, .int 0, .int 0, .int 0]))]) hD hS hA [0] rfl
  refine vx_calli (vx_runV (As := [.int i0, .int i1, .int i2]) (rest := [.ref z0]) ⟨hx, hb, hml, hown, hts⟩ (kx_X3_lay_1 l hst dC dI ge5 gea gv5 gva gde gic gi0 h0 z1 z2 z3 z4 z5 z6 s.heap.size i0 i0_l i0_u i1 i1_l i1_u i2 i2_l i2_u) (cwV 3 hts gL_lay_X3_lay rfl rfl rfl (by decide +kernel) ⟨Nat.le_of_ble_eq_true rfl, Nat.le_of_ble_eq_true rfl⟩) ⟨fun a U g mk q => by obtain ⟨q0, q1, qP, qK, qD, qG⟩ := q; exact ⟨q0, q1, qP, va_K.moved (u := U) (U := U.calling g mk a) (Vm.Alike.refl U.vm) qK, qD, gv.fb qG⟩, va_recv hKc hPc (ci := 7) (q0 := 0) rfl rfl, fun U hU hW => ⟨rfl, by rw [hU], by rw [hU]; exact hPc, va_K.moved hW.alike hKc, hDc.weaken (fun _ _ _ _ => trivial), gv.pass hW hU hS hFc hG⟩⟩ rfl rfl hl.1 rfl (lv_room (Nat.le_of_ble_eq_true rfl)) dL_lay_6 ⟨Nat.le_of_ble_eq_true rfl, Nat.le_of_ble_eq_true rfl⟩) hS (fun q _ h => hFc q h) hFc (fun q _ h => hFc q h) (fun E ce q9 u t H1 locs ht hvm hpx hB hz1 hk1 hS hce hcv hcl => ?_) (fun r9 u t H1 locs ht hvm hw hB hz1 hk1 hS => hw.elim)
  obtain ⟨rfl, hP1, hK1, hD1⟩ := hB
  rw [ht] at hP1
  have hK1 := va_K.moved hvm.symm hK1
  obtain ⟨hP, hD⟩ := va_join (wr := []) (w1 := [(h0, .inr (7, [.ref z1, .ref z2, .ref z3, .ref z4, .ref z5, .ref z6, .int 0, .int 0, .int 0]))]) hP hD [0] [] rfl rfl (by decide) (by decide) hk1 hFc hP1 hD1
  generalize H1 = H at hP hS hce ⊢
  have hP : va_P (dC, dI) vwCl [(h0, .inr (7, [.ref z1, .ref z2, .ref z3, .ref z4, .ref z5, .ref z6, .int 0, .int 0, .int 0]))] H := hP
  have hD : va_D A [(h0, .inr (7, [.ref z1, .ref z2, .ref z3, .ref z4, .ref z5, .ref z6, .int 0, .int 0, .int 0]))] := hD
  refine vx_catch (own := RL) (name := "java/lang/IndexOutOfBoundsException") hown (tableOf []) ⟨0, 13, 16, 19⟩ (tableOf []) (by rw [htab]; rfl) (fun z hz => nomatch hz) (by decide +kernel) (by decide) (hts (.classLink RL 19 "java/lang/IndexOutOfBoundsException") (by decide +kernel)) (va_Nw.use rfl g_ca_IO) hce hcv hcl ?_
  refine W.eq (g2 := F0 m 16 ls [.ref q9]) rfl ?_
  refine lv_astore (lv' := [(5, .ref q9), (0, .ref h0), (1, .int i0), (2, .int i1), (3, .int i2), (4, .ref z0)]) hx hb dL_lay_16 hl (by decide) rfl (fun ls hl => ?_)
  refine lv_iconst (v := 1) hx hb dL_lay_18 (by decide) ?_
  exact W.iret (v := 1) hx hb hr (fun t ht hW => ⟨⟨1, (), rfl, rfl, by rw [ht]; exact hP, va_K.moved hW.alike hK, hD⟩, hS.F ht⟩) hS.2.2 dL_lay_19
set_option maxHeartbeats 4000000 in
set_option maxRecDepth 100000 in
theorem kx_X5_lay_1 (l : Launch) (dC : Nat → ClassId) (dI : Nat → Nat → Nat) (h0 : Nat) (z0 : Nat) (z1 : Nat) (z2 : Nat) (sz : Nat) (i0 : Int32) (i0_l : (4 : Int) ≤ i0.toInt) (i0_u : i0.toInt ≤ (2147483647 : Int)) (i1 : Int32) (i1_l : ((-2147483648) : Int) ≤ i1.toInt) (i1_u : i1.toInt ≤ (2147483647 : Int)) (i2 : Int32) (i2_l : ((-2147483648) : Int) ≤ i2.toInt) (i2_u : i2.toInt ≤ (2147483647 : Int)) : Met l yX5_lay wsX5_lay ({ frames := 2, cells := 0, slots := 0, locals := 42 }) (va_Pc [.ref h0, .int i0, .int i1, .int i2] (fun U => U.heap.size = sz ∧ va_P (dC, dI) vwCl [(h0, .inr (9, [.int 0, .ref z0, .ref z1, .ref z2, .int 0, .int 0, .int 0]))] U.heap ∧ va_K (dC, dI) vwCl [] U ∧ va_D (fun _ => True) [(h0, .inr (9, [.int 0, .ref z0, .ref z1, .ref z2, .int 0, .int 0, .int 0]))])) (va_Qi (fun (r : Int32) (_ : Unit) => r = 0) (fun (_ : Unit) (t : State) => va_P (dC, dI) vwCl [(h0, .inr (9, [.int 1, .ref z0, .ref z1, .ref z2, .int 0, .int 0, .int 0]))] t.heap ∧ va_K (dC, dI) vwCl [] t ∧ va_D (va_A [(h0, .inr (9, [.int 0, .ref z0, .ref z1, .ref z2, .int 0, .int 0, .int 0]))] sz) [(h0, .inr (9, [.int 1, .ref z0, .ref z1, .ref z2, .int 0, .int 0, .int 0]))]) (va_A [(h0, .inr (9, [.int 0, .ref z0, .ref z1, .ref z2, .int 0, .int 0, .int 0]))] sz)) 0 0 (va_A [(h0, .inr (9, [.int 0, .ref z0, .ref z1, .ref z2, .int 0, .int 0, .int 0]))] sz) := by
  refine Met.ofW (cc := cX5_lay) (maxL := 5) (ret := (some .int)) (by decide) rfl ?_
  intro p e s m args below meth c s₁ B hml hv
  obtain ⟨rfl, hsz, hP, hK, hD0⟩ := hv
  have hx := B.exec
  have hb := B.bytes
  have hr := B.returns
  have hts := atoms_spec (ws := wsX5_lay) B.pre
  have hown : s.vm.findClass RX5 = some m.cls := findClass_of_methodNamed B.named
  have hlocks := B.notSynchronized
  subst hsz
  have hD := hD0.self (sz := s.heap.size)
  generalize hAe : va_A [(h0, .inr (9, [.int 0, .ref z0, .ref z1, .ref z2, .int 0, .int 0, .int 0]))] s.heap.size = A at hD ⊢
  have hA : ∀ q : Nat, s.heap.size ≤ q → A q := fun q h => by rw [← hAe]; exact Or.inr h
  have hS : va_S A s.heap s.heap [] := va_S.rf
  have hP : va_P (dC, dI) vwCl [(h0, .inr (9, [.int 0, .ref z0, .ref z1, .ref z2, .int 0, .int 0, .int 0]))] s.heap := hP
  have hl := lv_entry ([.ref h0, .int i0, .int i1, .int i2]) (n := 5) (Nat.le_of_ble_eq_true rfl)
  rw [lg_entry_eq]
  generalize (lg_sl ([.ref h0, .int i0, .int i1, .int i2]) ++ List.replicate (5 - (lg_sl ([.ref h0, .int i0, .int i1, .int i2])).length) Slot.unset).toArray = ls at hl ⊢
  have hl : lv_has ls 5 [(0, .ref h0), (1, .int i0), (2, .int i1), (3, .int i2)] := hl
  refine lv_aload_n hx hb dX5_lay_0 rfl (lv_at hl 0 rfl) ?_
  refine lv_iload_n hx hb dX5_lay_1 rfl (lv_at hl 1 rfl) ?_
  have hPc := hP.sub (ws' := []) [] rfl
  have hDc := hD.sub (ws' := []) [] (by decide) rfl
  have hKc := hK.sub (tys' := []) [] rfl
  have hFc := va_free (wc := []) hD hS hA [] rfl
  refine va_calli (va_runS (As := [.int i0]) (rest := [.ref h0]) ⟨hx, hb, hml, hown, hts⟩ (kx_X5_isNo_2 l dC dI s.heap.size i0 i0_l i0_u) (cwS 1 hts gX5_lay_X5_isNo rfl rfl rfl (by decide +kernel) ⟨Nat.le_of_ble_eq_true rfl, Nat.le_of_ble_eq_true rfl⟩) ⟨fun a U g mk q => by obtain ⟨q0, q1, qP, qK, qD⟩ := q; exact ⟨q0, q1, qP, va_K.moved (u := U) (U := U.calling g mk a) (Vm.Alike.refl U.vm) qK, qD⟩, fun U hU hW => ⟨rfl, by rw [hU], by rw [hU]; exact hPc, va_K.moved hW.alike hKc, hDc.weaken (fun _ _ _ _ => trivial)⟩⟩ rfl rfl hl.1 rfl (lv_room (Nat.le_of_ble_eq_true rfl)) dX5_lay_2 ⟨Nat.le_of_ble_eq_true rfl, Nat.le_of_ble_eq_true rfl⟩) hS (fun q _ h => hFc q h) hFc (fun r9 u t H1 locs ht hvm hw hB hz1 hk1 hS => ?_)
  obtain rfl := hw
  obtain ⟨hP1, hK1, hD1⟩ := hB
  rw [ht] at hP1
  have hK1 := va_K.moved hvm.symm hK1
  obtain ⟨hP, hD⟩ := va_join (wr := [(h0, .inr (9, [.int 0, .ref z0, .ref z1, .ref z2, .int 0, .int 0, .int 0]))]) (w1 := []) hP hD [] [0] rfl rfl (by decide) (by decide) hk1 hFc hP1 hD1
  generalize H1 = H at hP hS ⊢
  have hP : va_P (dC, dI) vwCl [(h0, .inr (9, [.int 0, .ref z0, .ref z1, .ref z2, .int 0, .int 0, .int 0]))] H := hP
  have hD : va_D A [(h0, .inr (9, [.int 0, .ref z0, .ref z1, .ref z2, .int 0, .int 0, .int 0]))] := hD
  refine lv_if_ne (tgt := 32) hx hb dX5_lay_5 (by decide) (fun _ => ?_) (fun c9 => absurd c9 (by decide))
  refine lv_iconst (v := 1) hx hb dX5_lay_32 (by decide) ?_
  refine lv_goto (tgt := 37) hx hb dX5_lay_33 (by decide) ?_
  refine lv_iconst (v := 0) hx hb dX5_lay_37 (by decide) ?_
  refine lv_iconst (v := 0) hx hb dX5_lay_38 (by decide) ?_
  have hPc := hP.sub (ws' := [(h0, .inr (9, [.int 0, .ref z0, .ref z1, .ref z2, .int 0, .int 0, .int 0]))]) [0] rfl
  have hDc := hD.sub (ws' := [(h0, .inr (9, [.int 0, .ref z0, .ref z1, .ref z2, .int 0, .int 0, .int 0]))]) [0] (by decide) rfl
  have hKc := hK.sub (tys' := []) [] rfl
  have hFc := va_free (wc := [(h0, .inr (9, [.int 0, .ref z0, .ref z1, .ref z2, .int 0, .int 0, .int 0]))]) hD hS hA [0] rfl
  refine va_calli (va_runV (As := [.int 1, .int 0, .int 0]) (rest := []) ⟨hx, hb, hml, hown, hts⟩ (kx_X5_fails_0 l dC dI h0 z0 z1 z2 H.size) (cwV 3 hts gX5_lay_X5_fails rfl rfl rfl (by decide +kernel) ⟨Nat.le_of_ble_eq_true rfl, Nat.le_of_ble_eq_true rfl⟩) ⟨fun a U g mk q => by obtain ⟨q0, q1, qP, qK, qD⟩ := q; exact ⟨q0, q1, qP, va_K.moved (u := U) (U := U.calling g mk a) (Vm.Alike.refl U.vm) qK, qD⟩, va_recv hKc hPc (ci := 9) (q0 := 0) rfl rfl, fun U hU hW => ⟨rfl, by rw [hU], by rw [hU]; exact hPc, va_K.moved hW.alike hKc, hDc.weaken (fun _ _ _ _ => trivial)⟩⟩ rfl rfl hl.1 rfl (lv_room (Nat.le_of_ble_eq_true rfl)) dX5_lay_39 ⟨Nat.le_of_ble_eq_true rfl, Nat.le_of_ble_eq_true rfl⟩) hS (fun q _ h => hFc q h) hFc (fun r9 u t H1 locs ht hvm hw hB hz1 hk1 hS => ?_)
  obtain rfl := hw
  obtain ⟨hP1, hK1, hD1⟩ := hB
  rw [ht] at hP1
  have hK1 := va_K.moved hvm.symm hK1
  obtain ⟨hP, hD⟩ := va_join (wr := []) (w1 := [(h0, .inr (9, [.int 1, .ref z0, .ref z1, .ref z2, .int 0, .int 0, .int 0]))]) hP hD [0] [] rfl rfl (by decide) (by decide) hk1 hFc hP1 hD1
  generalize H1 = H at hP hS ⊢
  have hP : va_P (dC, dI) vwCl [(h0, .inr (9, [.int 1, .ref z0, .ref z1, .ref z2, .int 0, .int 0, .int 0]))] H := hP
  have hD : va_D A [(h0, .inr (9, [.int 1, .ref z0, .ref z1, .ref z2, .int 0, .int 0, .int 0]))] := hD
  refine lv_if_eq (tgt := 47) hx hb dX5_lay_42 (by decide) (fun c9 => absurd c9 (by decide)) (fun _ => ?_)
  refine lv_iconst (v := 0) hx hb dX5_lay_45 (by decide) ?_
  exact W.iret (v := 0) hx hb hr (fun t ht hW => ⟨⟨0, (), rfl, rfl, by rw [ht]; exact hP, va_K.moved hW.alike hK, hD⟩, hS.F ht⟩) hS.2.2 dX5_lay_46
set_option maxHeartbeats 4000000 in
set_option maxRecDepth 100000 in
theorem kx_X3_lay_2 (l : Launch) (hst : l.stackTraces = false) (dC : Nat → ClassId) (dI : Nat → Nat → Nat) (ge5 gea gv5 gva gde gic gi0 : Nat) (h0 : Nat) (z0 : Nat) (z1 : Nat) (z2 : Nat) (z3 : Nat) (z4 : Nat) (z5 : Nat) (sz : Nat) (i0 : Int32) (i0_l : (0 : Int) ≤ i0.toInt) (i0_u : i0.toInt ≤ (3 : Int)) (i1 : Int32) (i1_l : ((-2147483648) : Int) ≤ i1.toInt) (i1_u : i1.toInt ≤ (2147483647 : Int)) (i2 : Int32) (i2_l : ((-2147483648) : Int) ≤ i2.toInt) (i2_u : i2.toInt ≤ ((-1) : Int)) : vx_Met l yX3_lay wsX3_lay ({ frames := 7, cells := 1, slots := 6, locals := 140 }) (va_Pc [.ref h0, .int i0, .int i1, .int i2] (fun U => U.heap.size = sz ∧ va_P (dC, dI) vwCl [(h0, .inr (7, [.ref z0, .ref z1, .ref z2, .ref z3, .ref z4, .ref z5, .int 0, .int 0, .int 0]))] U.heap ∧ va_K (dC, dI) vwCl [] U ∧ va_D (fun _ => True) [(h0, .inr (7, [.ref z0, .ref z1, .ref z2, .ref z3, .ref z4, .ref z5, .int 0, .int 0, .int 0]))] ∧ gv ge5 gea gv5 gva gde gic gi0 (va_A [(h0, .inr (7, [.ref z0, .ref z1, .ref z2, .ref z3, .ref z4, .ref z5, .int 0, .int 0, .int 0]))] sz) U U.heap)) (va_Qi (fun (_ : Int32) (_ : Unit) => False) (fun _ _ => True) (va_A [(h0, .inr (7, [.ref z0, .ref z1, .ref z2, .ref z3, .ref z4, .ref z5, .int 0, .int 0, .int 0]))] sz)) (vx_X (fun _ : Unit => True) (fun (E : String) (_ : Unit) (t : State) => E = "java/lang/IndexOutOfBoundsException" ∧ va_P (dC, dI) vwCl [(h0, .inr (7, [.ref z0, .ref z1, .ref z2, .ref z3, .ref z4, .ref z5, .int 0, .int 0, .int 0]))] t.heap ∧ va_K (dC, dI) vwCl [] t ∧ va_D (va_A [(h0, .inr (7, [.ref z0, .ref z1, .ref z2, .ref z3, .ref z4, .ref z5, .int 0, .int 0, .int 0]))] sz) [(h0, .inr (7, [.ref z0, .ref z1, .ref z2, .ref z3, .ref z4, .ref z5, .int 0, .int 0, .int 0]))]) (va_A [(h0, .inr (7, [.ref z0, .ref z1, .ref z2, .ref z3, .ref z4, .ref z5, .int 0, .int 0, .int 0]))] sz)) 1 6 (va_A [(h0, .inr (7, [.ref z0, .ref z1, .ref z2, .ref z3, .ref z4, .ref z5, .int 0, .int 0, .int 0]))] sz) := by
  refine vx_ofW (cc := cX3_lay) (maxL := 5) (ret := (some .int)) (by decide) rfl ?_
  intro p e s m args below meth c s₁ B hml ht9 hv
  obtain ⟨rfl, hsz, hP, hK, hD0, hG⟩ := hv
  have hx := B.exec
  have hb := B.bytes
  have hr := B.returns
  have hts := atoms_spec (ws := wsX3_lay) B.pre
  have hown : s.vm.findClass RX3 = some m.cls := findClass_of_methodNamed B.named
  have hlocks := B.notSynchronized
  subst hsz
  have hD := hD0.self (sz := s.heap.size)
  generalize hAe : va_A [(h0, .inr (7, [.ref z0, .ref z1, .ref z2, .ref z3, .ref z4, .ref z5, .int 0, .int 0, .int 0]))] s.heap.size = A at hD hG ⊢
  obtain ⟨⟨g_AO_Text, g_AO_String, g_AO_Object, g_nm_RX1_20, g_nm_RX0_17, g_nm_RX3_31, g_nm_RX2_44, g_nm_RL_121, g_nf_RL_13, g_nf_RL_47, g_ca_IO, g_ca_IA, g_ca_IS, g_ca_IntObj, g_ca_StrObj, g_de_RT, g_de_EX, g_de_TH, g_nc_IA_IO, g_nc_IS_IO, g_nc_IS_IA⟩, ⟨g_s3, g_s5, g_sa, g_x278, g_x280, g_x282, g_x284, g_x286, g_x180, g_x238, g_x250⟩, ⟨g_o5, g_c5, g_v5, g_t5, g_oa, g_ca, g_va, g_ta, g_zc, g_zd, g_td, g_zf, g_zU, g_zN, g_zh, g_zk, g_tk, g_oi, g_vi⟩⟩ := id hG
  have hA : ∀ q : Nat, s.heap.size ≤ q → A q := fun q h => by rw [← hAe]; exact Or.inr h
  have hS : va_S A s.heap s.heap [] := va_S.rf
  have hP : va_P (dC, dI) vwCl [(h0, .inr (7, [.ref z0, .ref z1, .ref z2, .ref z3, .ref z4, .ref z5, .int 0, .int 0, .int 0]))] s.heap := hP
  have hl := lv_entry ([.ref h0, .int i0, .int i1, .int i2]) (n := 5) (Nat.le_of_ble_eq_true rfl)
  rw [lg_entry_eq]
  generalize (lg_sl ([.ref h0, .int i0, .int i1, .int i2]) ++ List.replicate (5 - (lg_sl ([.ref h0, .int i0, .int i1, .int i2])).length) Slot.unset).toArray = ls at hl ⊢
  have hl : lv_has ls 5 [(0, .ref h0), (1, .int i0), (2, .int i1), (3, .int i2)] := hl
  refine lv_iload_n hx hb dX3_lay_0 rfl (lv_at hl 1 rfl) ?_
  have hPc := hP.sub (ws' := []) [] rfl
  have hDc := hD.sub (ws' := []) [] (by decide) rfl
  have hKc := hK.sub (tys' := []) [] rfl
  have hFc := va_free (wc := []) hD hS hA [] rfl
  refine va_callv (va_runS (As := [.int i0]) (rest := []) ⟨hx, hb, hml, hown, hts⟩ (kx_X3_needRope_4 l dC dI s.heap.size i0 i0_l i0_u) (cwS 1 hts gX3_lay_X3_needRope rfl rfl rfl (by decide +kernel) ⟨Nat.le_of_ble_eq_true rfl, Nat.le_of_ble_eq_true rfl⟩) ⟨fun a U g mk q => by obtain ⟨q0, q1, qP, qK, qD⟩ := q; exact ⟨q0, q1, qP, va_K.moved (u := U) (U := U.calling g mk a) (Vm.Alike.refl U.vm) qK, qD⟩, fun U hU hW => ⟨rfl, by rw [hU], by rw [hU]; exact hPc, va_K.moved hW.alike hKc, hDc.weaken (fun _ _ _ _ => trivial)⟩⟩ rfl rfl hl.1 rfl (lv_room (Nat.le_of_ble_eq_true rfl)) dX3_lay_1 ⟨Nat.le_of_ble_eq_true rfl, Nat.le_of_ble_eq_true rfl⟩) hS (fun q _ h => hFc q h) hFc (fun u t H1 locs ht hvm hw hB hz1 hk1 hS => ?_)
  obtain ⟨hP1, hK1, hD1⟩ := hB
  rw [ht] at hP1
  have hK1 := va_K.moved hvm.symm hK1
  obtain ⟨hP, hD⟩ := va_join (wr := [(h0, .inr (7, [.ref z0, .ref z1, .ref z2, .ref z3, .ref z4, .ref z5, .int 0, .int 0, .int 0]))]) (w1 := []) hP hD [] [0] rfl rfl (by decide) (by decide) hk1 hFc hP1 hD1
  generalize H1 = H at hP hS ⊢
  have hP : va_P (dC, dI) vwCl [(h0, .inr (7, [.ref z0, .ref z1, .ref z2, .ref z3, .ref z4, .ref z5, .int 0, .int 0, .int 0]))] H := hP
  have hD : va_D A [(h0, .inr (7, [.ref z0, .ref z1, .ref z2, .ref z3, .ref z4, .ref z5, .int 0, .int 0, .int 0]))] := hD
  refine lv_iload_n hx hb dX3_lay_4 rfl (lv_at hl 3 rfl) ?_
  have hPc := hP.sub (ws' := []) [] rfl
  have hDc := hD.sub (ws' := []) [] (by decide) rfl
  have hKc := hK.sub (tys' := []) [] rfl
  have hFc := va_free (wc := []) hD hS hA [] rfl
  refine vx_callv (vx_runS (As := [.int i2]) (rest := []) ⟨hx, hb, hml, hown, hts⟩ (kx_X3_needRope_5 l hst dC dI ge5 gea gv5 gva gde gic gi0 H.size i2 i2_l i2_u) (cwS 1 hts gX3_lay_X3_needRope rfl rfl rfl (by decide +kernel) ⟨Nat.le_of_ble_eq_true rfl, Nat.le_of_ble_eq_true rfl⟩) ⟨fun a U g mk q => by obtain ⟨q0, q1, qP, qK, qD, qG⟩ := q; exact ⟨q0, q1, qP, va_K.moved (u := U) (U := U.calling g mk a) (Vm.Alike.refl U.vm) qK, qD, gv.fb qG⟩, fun U hU hW => ⟨rfl, by rw [hU], by rw [hU]; exact hPc, va_K.moved hW.alike hKc, hDc.weaken (fun _ _ _ _ => trivial), gv.pass hW hU hS hFc hG⟩⟩ rfl rfl hl.1 rfl (lv_room (Nat.le_of_ble_eq_true rfl)) dX3_lay_5 ⟨Nat.le_of_ble_eq_true rfl, Nat.le_of_ble_eq_true rfl⟩) hS (fun q _ h => hFc q h) hFc (fun q _ h => hFc q h) (fun E ce q9 u t H1 locs ht hvm hpx hB hz1 hk1 hS hce hcv hcl => ?_) (fun u t H1 locs ht hvm hw hB hz1 hk1 hS => hw.elim)
  obtain ⟨rfl, hP1, hK1, hD1⟩ := hB
  rw [ht] at hP1
  have hK1 := va_K.moved hvm.symm hK1
  obtain ⟨hP, hD⟩ := va_join (wr := [(h0, .inr (7, [.ref z0, .ref z1, .ref z2, .ref z3, .ref z4, .ref z5, .int 0, .int 0, .int 0]))]) (w1 := []) hP hD [] [0] rfl rfl (by decide) (by decide) hk1 hFc hP1 hD1
  generalize H1 = H at hP hS hce ⊢
  have hP : va_P (dC, dI) vwCl [(h0, .inr (7, [.ref z0, .ref z1, .ref z2, .ref z3, .ref z4, .ref z5, .int 0, .int 0, .int 0]))] H := hP
  have hD : va_D A [(h0, .inr (7, [.ref z0, .ref z1, .ref z2, .ref z3, .ref z4, .ref z5, .int 0, .int 0, .int 0]))] := hD
  exact vx_out (fun x hx9 => (ht9 x hx9).elim) hlocks hce hcv hcl (fun t ht hW => ⟨(), trivial, ⟨rfl, by rw [ht]; exact hP, va_K.moved hW hK, hD⟩, hS.F ht⟩) hS.2.2 (by omega) (by omega)
set_option maxHeartbeats 4000000 in
set_option maxRecDepth 100000 in
theorem kx_L_lay_2 (l : Launch) (hst : l.stackTraces = false) (dC : Nat → ClassId) (dI : Nat → Nat → Nat) (ge5 gea gv5 gva gde gic gi0 : Nat) (h0 : Nat) (z0 : Nat) (z1 : Nat) (z2 : Nat) (z3 : Nat) (z4 : Nat) (z5 : Nat) (z6 : Nat) (sz : Nat) (i0 : Int32) (i0_l : (0 : Int) ≤ i0.toInt) (i0_u : i0.toInt ≤ (3 : Int)) (i1 : Int32) (i1_l : ((-2147483648) : Int) ≤ i1.toInt) (i1_u : i1.toInt ≤ (2147483647 : Int)) (i2 : Int32) (i2_l : ((-2147483648) : Int) ≤ i2.toInt) (i2_u : i2.toInt ≤ ((-1) : Int)) : Met l yL_lay wsL_lay ({ frames := 8, cells := 1, slots := 6, locals := 164 }) (va_Pc [.ref h0, .int i0, .int i1, .int i2, .ref z0] (fun U => U.heap.size = sz ∧ va_P (dC, dI) vwCl [(h0, .inr (7, [.ref z1, .ref z2, .ref z3, .ref z4, .ref z5, .ref z6, .int 0, .int 0, .int 0]))] U.heap ∧ va_K (dC, dI) vwCl [] U ∧ va_D (fun _ => True) [(h0, .inr (7, [.ref z1, .ref z2, .ref z3, .ref z4, .ref z5, .ref z6, .int 0, .int 0, .int 0]))] ∧ gv ge5 gea gv5 gva gde gic gi0 (va_A [(h0, .inr (7, [.ref z1, .ref z2, .ref z3, .ref z4, .ref z5, .ref z6, .int 0, .int 0, .int 0]))] sz) U U.heap)) (va_Qi (fun (r : Int32) (_ : Unit) => r = 1) (fun (_ : Unit) (t : State) => va_P (dC, dI) vwCl [(h0, .inr (7, [.ref z1, .ref z2, .ref z3, .ref z4, .ref z5, .ref z6, .int 0, .int 0, .int 0]))] t.heap ∧ va_K (dC, dI) vwCl [] t ∧ va_D (va_A [(h0, .inr (7, [.ref z1, .ref z2, .ref z3, .ref z4, .ref z5, .ref z6, .int 0, .int 0, .int 0]))] sz) [(h0, .inr (7, [.ref z1, .ref z2, .ref z3, .ref z4, .ref z5, .ref z6, .int 0, .int 0, .int 0]))]) (va_A [(h0, .inr (7, [.ref z1, .ref z2, .ref z3, .ref z4, .ref z5, .ref z6, .int 0, .int 0, .int 0]))] sz)) 1 6 (va_A [(h0, .inr (7, [.ref z1, .ref z2, .ref z3, .ref z4, .ref z5, .ref z6, .int 0, .int 0, .int 0]))] sz) := by
  refine kz_ofWH (cc := cL_lay) (maxL := 6) (ret := (some .int)) (hh := [(0, 13, 16, 19)]) (by decide) rfl ?_
  intro p e s m args below meth c s₁ B hml hv
  obtain ⟨rfl, hsz, hP, hK, hD0, hG⟩ := hv
  have hx := B.exec
  have hb := B.bytes
  have hr := B.returns
  have hts := atoms_spec (ws := wsL_lay) B.pre
  have hown : s.vm.findClass RL = some m.cls := findClass_of_methodNamed B.named
  have htab := vx_table (x := yL_lay) B (hts (.codeWith yL_lay cL_lay 6 (some .int) [(0, 13, 16, 19)]) (by decide +kernel))
  have hlocks := B.notSynchronized
  subst hsz
  have hD := hD0.self (sz := s.heap.size)
  generalize hAe : va_A [(h0, .inr (7, [.ref z1, .ref z2, .ref z3, .ref z4, .ref z5, .ref z6, .int 0, .int 0, .int 0]))] s.heap.size = A at hD hG ⊢
  obtain ⟨⟨g_AO_Text, g_AO_String, g_AO_Object, g_nm_RX1_20, g_nm_RX0_17, g_nm_RX3_31, g_nm_RX2_44, g_nm_RL_121, g_nf_RL_13, g_nf_RL_47, g_ca_IO, g_ca_IA, g_ca_IS, g_ca_IntObj, g_ca_StrObj, g_de_RT, g_de_EX, g_de_TH, g_nc_IA_IO, g_nc_IS_IO, g_nc_IS_IA⟩, ⟨g_s3, g_s5, g_sa, g_x278, g_x280, g_x282, g_x284, g_x286, g_x180, g_x238, g_x250⟩, ⟨g_o5, g_c5, g_v5, g_t5, g_oa, g_ca, g_va, g_ta, g_zc, g_zd, g_td, g_zf, g_zU, g_zN, g_zh, g_zk, g_tk, g_oi, g_vi⟩⟩ := id hG
  have hA : ∀ q : Nat, s.heap.size ≤ q → A q := fun q h => by rw [← hAe]; exact Or.inr h
  have hS : va_S A s.heap s.heap [] := va_S.rf
  have hP : va_P (dC, dI) vwCl [(h0, .inr (7, [.ref z1, .ref z2, .ref z3, .ref z4, .ref z5, .ref z6, .int 0, .int 0, .int 0]))] s.heap := hP
  have hl := lv_entry ([.ref h0, .int i0, .int i1, .int i2, .ref z0]) (n := 6) (Nat.le_of_ble_eq_true rfl)
  rw [lg_entry_eq]
  generalize (lg_sl ([.ref h0, .int i0, .int i1, .int i2, .ref z0]) ++ List.replicate (6 - (lg_sl ([.ref h0, .int i0, .int i1, .int i2, .ref z0])).length) Slot.unset).toArray = ls at hl ⊢
  have hl : lv_has ls 6 [(0, .ref h0), (1, .int i0), (2, .int i1), (3, .int i2), (4, .ref z0)] := hl
  refine lv_aload hx hb dL_lay_0 (lv_at hl 4 rfl) ?_
  refine lv_aload_n hx hb dL_lay_2 rfl (lv_at hl 0 rfl) ?_
  refine lv_iload_n hx hb dL_lay_3 rfl (lv_at hl 1 rfl) ?_
  refine lv_iload_n hx hb dL_lay_4 rfl (lv_at hl 2 rfl) ?_
  refine lv_iload_n hx hb dL_lay_5 rfl (lv_at hl 3 rfl) ?_
  have hPc := hP.sub (ws' := [(h0, .inr (7, [.ref z1, .ref z2, .ref z3, .ref z4, .ref z5, .ref z6, .int 0, .int 0, .int 0]))]) [0] rfl
  have hDc := hD.sub (ws' := [(h0, .inr (7, [.ref z1, .ref z2, .ref z3, .ref z4, .ref z5, .ref z6, .int 0, .int 0, .int 0]))]) [0] (by decide) rfl
  have hKc := hK.sub (tys' := []) [] rfl
  have hFc := va_free (wc := [(h0, .inr (7, [.ref z1, .ref z2, .ref z3, .ref z4, .ref z5, .ref z6, .int 0, .int 0, .int 0]))]) hD hS hA [0] rfl
  refine vx_calli (vx_runV (As := [.int i0, .int i1, .int i2]) (rest := [.ref z0]) ⟨hx, hb, hml, hown, hts⟩ (kx_X3_lay_2 l hst dC dI ge5 gea gv5 gva gde gic gi0 h0 z1 z2 z3 z4 z5 z6 s.heap.size i0 i0_l i0_u i1 i1_l i1_u i2 i2_l i2_u) (cwV 3 hts gL_lay_X3_lay rfl rfl rfl (by decide +kernel) ⟨Nat.le_of_ble_eq_true rfl, Nat.le_of_ble_eq_true rfl⟩) ⟨fun a U g mk q => by obtain ⟨q0, q1, qP, qK, qD, qG⟩ := q; exact ⟨q0, q1, qP, va_K.moved (u := U) (U := U.calling g mk a) (Vm.Alike.refl U.vm) qK, qD, gv.fb qG⟩, va_recv hKc hPc (ci := 7) (q0 := 0) rfl rfl, fun U hU hW => ⟨rfl, by rw [hU], by rw [hU]; exact hPc, va_K.moved hW.alike hKc, hDc.weaken (fun _ _ _ _ => trivial), gv.pass hW hU hS hFc hG⟩⟩ rfl rfl hl.1 rfl (lv_room (Nat.le_of_ble_eq_true rfl)) dL_lay_6 ⟨Nat.le_of_ble_eq_true rfl, Nat.le_of_ble_eq_true rfl⟩) hS (fun q _ h => hFc q h) hFc (fun q _ h => hFc q h) (fun E ce q9 u t H1 locs ht hvm hpx hB hz1 hk1 hS hce hcv hcl => ?_) (fun r9 u t H1 locs ht hvm hw hB hz1 hk1 hS => hw.elim)
  obtain ⟨rfl, hP1, hK1, hD1⟩ := hB
  rw [ht] at hP1
  have hK1 := va_K.moved hvm.symm hK1
  obtain ⟨hP, hD⟩ := va_join (wr := []) (w1 := [(h0, .inr (7, [.ref z1, .ref z2, .ref z3, .ref z4, .ref z5, .ref z6, .int 0, .int 0, .int 0]))]) hP hD [0] [] rfl rfl (by decide) (by decide) hk1 hFc hP1 hD1
  generalize H1 = H at hP hS hce ⊢
  have hP : va_P (dC, dI) vwCl [(h0, .inr (7, [.ref z1, .ref z2, .ref z3, .ref z4, .ref z5, .ref z6, .int 0, .int 0, .int 0]))] H := hP
  have hD : va_D A [(h0, .inr (7, [.ref z1, .ref z2, .ref z3, .ref z4, .ref z5, .ref z6, .int 0, .int 0, .int 0]))] := hD
  refine vx_catch (own := RL) (name := "java/lang/IndexOutOfBoundsException") hown (tableOf []) ⟨0, 13, 16, 19⟩ (tableOf []) (by rw [htab]; rfl) (fun z hz => nomatch hz) (by decide +kernel) (by decide) (hts (.classLink RL 19 "java/lang/IndexOutOfBoundsException") (by decide +kernel)) (va_Nw.use rfl g_ca_IO) hce hcv hcl ?_
  refine W.eq (g2 := F0 m 16 ls [.ref q9]) rfl ?_
  refine lv_astore (lv' := [(5, .ref q9), (0, .ref h0), (1, .int i0), (2, .int i1), (3, .int i2), (4, .ref z0)]) hx hb dL_lay_16 hl (by decide) rfl (fun ls hl => ?_)
  refine lv_iconst (v := 1) hx hb dL_lay_18 (by decide) ?_
  exact W.iret (v := 1) hx hb hr (fun t ht hW => ⟨⟨1, (), rfl, rfl, by rw [ht]; exact hP, va_K.moved hW.alike hK, hD⟩, hS.F ht⟩) hS.2.2 dL_lay_19
set_option maxHeartbeats 4000000 in
set_option maxRecDepth 100000 in
theorem kx_X5_lay_2 (l : Launch) (dC : Nat → ClassId) (dI : Nat → Nat → Nat) (h0 : Nat) (z0 : Nat) (z1 : Nat) (z2 : Nat) (sz : Nat) (i0 : Int32) (i0_l : (0 : Int) ≤ i0.toInt) (i0_u : i0.toInt ≤ (3 : Int)) (i1 : Int32) (i1_l : ((-2147483648) : Int) ≤ i1.toInt) (i1_u : i1.toInt ≤ (2147483647 : Int)) (i2 : Int32) (i2_l : ((-2147483648) : Int) ≤ i2.toInt) (i2_u : i2.toInt ≤ ((-1) : Int)) : Met l yX5_lay wsX5_lay ({ frames := 2, cells := 0, slots := 0, locals := 42 }) (va_Pc [.ref h0, .int i0, .int i1, .int i2] (fun U => U.heap.size = sz ∧ va_P (dC, dI) vwCl [(h0, .inr (9, [.int 0, .ref z0, .ref z1, .ref z2, .int 0, .int 0, .int 0]))] U.heap ∧ va_K (dC, dI) vwCl [] U ∧ va_D (fun _ => True) [(h0, .inr (9, [.int 0, .ref z0, .ref z1, .ref z2, .int 0, .int 0, .int 0]))])) (va_Qi (fun (r : Int32) (_ : Unit) => r = 0) (fun (_ : Unit) (t : State) => va_P (dC, dI) vwCl [(h0, .inr (9, [.int 1, .ref z0, .ref z1, .ref z2, .int 0, .int 0, .int 0]))] t.heap ∧ va_K (dC, dI) vwCl [] t ∧ va_D (va_A [(h0, .inr (9, [.int 0, .ref z0, .ref z1, .ref z2, .int 0, .int 0, .int 0]))] sz) [(h0, .inr (9, [.int 1, .ref z0, .ref z1, .ref z2, .int 0, .int 0, .int 0]))]) (va_A [(h0, .inr (9, [.int 0, .ref z0, .ref z1, .ref z2, .int 0, .int 0, .int 0]))] sz)) 0 0 (va_A [(h0, .inr (9, [.int 0, .ref z0, .ref z1, .ref z2, .int 0, .int 0, .int 0]))] sz) := by
  refine Met.ofW (cc := cX5_lay) (maxL := 5) (ret := (some .int)) (by decide) rfl ?_
  intro p e s m args below meth c s₁ B hml hv
  obtain ⟨rfl, hsz, hP, hK, hD0⟩ := hv
  have hx := B.exec
  have hb := B.bytes
  have hr := B.returns
  have hts := atoms_spec (ws := wsX5_lay) B.pre
  have hown : s.vm.findClass RX5 = some m.cls := findClass_of_methodNamed B.named
  have hlocks := B.notSynchronized
  subst hsz
  have hD := hD0.self (sz := s.heap.size)
  generalize hAe : va_A [(h0, .inr (9, [.int 0, .ref z0, .ref z1, .ref z2, .int 0, .int 0, .int 0]))] s.heap.size = A at hD ⊢
  have hA : ∀ q : Nat, s.heap.size ≤ q → A q := fun q h => by rw [← hAe]; exact Or.inr h
  have hS : va_S A s.heap s.heap [] := va_S.rf
  have hP : va_P (dC, dI) vwCl [(h0, .inr (9, [.int 0, .ref z0, .ref z1, .ref z2, .int 0, .int 0, .int 0]))] s.heap := hP
  have hl := lv_entry ([.ref h0, .int i0, .int i1, .int i2]) (n := 5) (Nat.le_of_ble_eq_true rfl)
  rw [lg_entry_eq]
  generalize (lg_sl ([.ref h0, .int i0, .int i1, .int i2]) ++ List.replicate (5 - (lg_sl ([.ref h0, .int i0, .int i1, .int i2])).length) Slot.unset).toArray = ls at hl ⊢
  have hl : lv_has ls 5 [(0, .ref h0), (1, .int i0), (2, .int i1), (3, .int i2)] := hl
  refine lv_aload_n hx hb dX5_lay_0 rfl (lv_at hl 0 rfl) ?_
  refine lv_iload_n hx hb dX5_lay_1 rfl (lv_at hl 1 rfl) ?_
  have hPc := hP.sub (ws' := []) [] rfl
  have hDc := hD.sub (ws' := []) [] (by decide) rfl
  have hKc := hK.sub (tys' := []) [] rfl
  have hFc := va_free (wc := []) hD hS hA [] rfl
  refine va_calli (va_runS (As := [.int i0]) (rest := [.ref h0]) ⟨hx, hb, hml, hown, hts⟩ (kx_X5_isNo_1 l dC dI s.heap.size i0 i0_l i0_u) (cwS 1 hts gX5_lay_X5_isNo rfl rfl rfl (by decide +kernel) ⟨Nat.le_of_ble_eq_true rfl, Nat.le_of_ble_eq_true rfl⟩) ⟨fun a U g mk q => by obtain ⟨q0, q1, qP, qK, qD⟩ := q; exact ⟨q0, q1, qP, va_K.moved (u := U) (U := U.calling g mk a) (Vm.Alike.refl U.vm) qK, qD⟩, fun U hU hW => ⟨rfl, by rw [hU], by rw [hU]; exact hPc, va_K.moved hW.alike hKc, hDc.weaken (fun _ _ _ _ => trivial)⟩⟩ rfl rfl hl.1 rfl (lv_room (Nat.le_of_ble_eq_true rfl)) dX5_lay_2 ⟨Nat.le_of_ble_eq_true rfl, Nat.le_of_ble_eq_true rfl⟩) hS (fun q _ h => hFc q h) hFc (fun r9 u t H1 locs ht hvm hw hB hz1 hk1 hS => ?_)
  obtain rfl := hw
  obtain ⟨hP1, hK1, hD1⟩ := hB
  rw [ht] at hP1
  have hK1 := va_K.moved hvm.symm hK1
  obtain ⟨hP, hD⟩ := va_join (wr := [(h0, .inr (9, [.int 0, .ref z0, .ref z1, .ref z2, .int 0, .int 0, .int 0]))]) (w1 := []) hP hD [] [0] rfl rfl (by decide) (by decide) hk1 hFc hP1 hD1
  generalize H1 = H at hP hS ⊢
  have hP : va_P (dC, dI) vwCl [(h0, .inr (9, [.int 0, .ref z0, .ref z1, .ref z2, .int 0, .int 0, .int 0]))] H := hP
  have hD : va_D A [(h0, .inr (9, [.int 0, .ref z0, .ref z1, .ref z2, .int 0, .int 0, .int 0]))] := hD
  refine lv_if_ne (tgt := 32) hx hb dX5_lay_5 (by decide) (fun c9 => absurd (by decide) c9) (fun _ => ?_)
  refine lv_iload_n hx hb dX5_lay_8 rfl (lv_at hl 3 rfl) ?_
  have hPc := hP.sub (ws' := []) [] rfl
  have hDc := hD.sub (ws' := []) [] (by decide) rfl
  have hKc := hK.sub (tys' := []) [] rfl
  have hFc := va_free (wc := []) hD hS hA [] rfl
  refine va_calli (va_runS (As := [.int i2]) (rest := [.ref h0]) ⟨hx, hb, hml, hown, hts⟩ (kx_X5_isNo_0 l dC dI H.size i2 i2_l i2_u) (cwS 1 hts gX5_lay_X5_isNo rfl rfl rfl (by decide +kernel) ⟨Nat.le_of_ble_eq_true rfl, Nat.le_of_ble_eq_true rfl⟩) ⟨fun a U g mk q => by obtain ⟨q0, q1, qP, qK, qD⟩ := q; exact ⟨q0, q1, qP, va_K.moved (u := U) (U := U.calling g mk a) (Vm.Alike.refl U.vm) qK, qD⟩, fun U hU hW => ⟨rfl, by rw [hU], by rw [hU]; exact hPc, va_K.moved hW.alike hKc, hDc.weaken (fun _ _ _ _ => trivial)⟩⟩ rfl rfl hl.1 rfl (lv_room (Nat.le_of_ble_eq_true rfl)) dX5_lay_9 ⟨Nat.le_of_ble_eq_true rfl, Nat.le_of_ble_eq_true rfl⟩) hS (fun q _ h => hFc q h) hFc (fun r9 u t H1 locs ht hvm hw hB hz1 hk1 hS => ?_)
  obtain rfl := hw
  obtain ⟨hP1, hK1, hD1⟩ := hB
  rw [ht] at hP1
  have hK1 := va_K.moved hvm.symm hK1
  obtain ⟨hP, hD⟩ := va_join (wr := [(h0, .inr (9, [.int 0, .ref z0, .ref z1, .ref z2, .int 0, .int 0, .int 0]))]) (w1 := []) hP hD [] [0] rfl rfl (by decide) (by decide) hk1 hFc hP1 hD1
  generalize H1 = H at hP hS ⊢
  have hP : va_P (dC, dI) vwCl [(h0, .inr (9, [.int 0, .ref z0, .ref z1, .ref z2, .int 0, .int 0, .int 0]))] H := hP
  have hD : va_D A [(h0, .inr (9, [.int 0, .ref z0, .ref z1, .ref z2, .int 0, .int 0, .int 0]))] := hD
  refine lv_if_ne (tgt := 32) hx hb dX5_lay_12 (by decide) (fun _ => ?_) (fun c9 => absurd c9 (by decide))
  refine lv_iconst (v := 1) hx hb dX5_lay_32 (by decide) ?_
  refine lv_goto (tgt := 37) hx hb dX5_lay_33 (by decide) ?_
  refine lv_iconst (v := 0) hx hb dX5_lay_37 (by decide) ?_
  refine lv_iconst (v := 0) hx hb dX5_lay_38 (by decide) ?_
  have hPc := hP.sub (ws' := [(h0, .inr (9, [.int 0, .ref z0, .ref z1, .ref z2, .int 0, .int 0, .int 0]))]) [0] rfl
  have hDc := hD.sub (ws' := [(h0, .inr (9, [.int 0, .ref z0, .ref z1, .ref z2, .int 0, .int 0, .int 0]))]) [0] (by decide) rfl
  have hKc := hK.sub (tys' := []) [] rfl
  have hFc := va_free (wc := [(h0, .inr (9, [.int 0, .ref z0, .ref z1, .ref z2, .int 0, .int 0, .int 0]))]) hD hS hA [0] rfl
  refine va_calli (va_runV (As := [.int 1, .int 0, .int 0]) (rest := []) ⟨hx, hb, hml, hown, hts⟩ (kx_X5_fails_0 l dC dI h0 z0 z1 z2 H.size) (cwV 3 hts gX5_lay_X5_fails rfl rfl rfl (by decide +kernel) ⟨Nat.le_of_ble_eq_true rfl, Nat.le_of_ble_eq_true rfl⟩) ⟨fun a U g mk q => by obtain ⟨q0, q1, qP, qK, qD⟩ := q; exact ⟨q0, q1, qP, va_K.moved (u := U) (U := U.calling g mk a) (Vm.Alike.refl U.vm) qK, qD⟩, va_recv hKc hPc (ci := 9) (q0 := 0) rfl rfl, fun U hU hW => ⟨rfl, by rw [hU], by rw [hU]; exact hPc, va_K.moved hW.alike hKc, hDc.weaken (fun _ _ _ _ => trivial)⟩⟩ rfl rfl hl.1 rfl (lv_room (Nat.le_of_ble_eq_true rfl)) dX5_lay_39 ⟨Nat.le_of_ble_eq_true rfl, Nat.le_of_ble_eq_true rfl⟩) hS (fun q _ h => hFc q h) hFc (fun r9 u t H1 locs ht hvm hw hB hz1 hk1 hS => ?_)
  obtain rfl := hw
  obtain ⟨hP1, hK1, hD1⟩ := hB
  rw [ht] at hP1
  have hK1 := va_K.moved hvm.symm hK1
  obtain ⟨hP, hD⟩ := va_join (wr := []) (w1 := [(h0, .inr (9, [.int 1, .ref z0, .ref z1, .ref z2, .int 0, .int 0, .int 0]))]) hP hD [0] [] rfl rfl (by decide) (by decide) hk1 hFc hP1 hD1
  generalize H1 = H at hP hS ⊢
  have hP : va_P (dC, dI) vwCl [(h0, .inr (9, [.int 1, .ref z0, .ref z1, .ref z2, .int 0, .int 0, .int 0]))] H := hP
  have hD : va_D A [(h0, .inr (9, [.int 1, .ref z0, .ref z1, .ref z2, .int 0, .int 0, .int 0]))] := hD
  refine lv_if_eq (tgt := 47) hx hb dX5_lay_42 (by decide) (fun c9 => absurd c9 (by decide)) (fun _ => ?_)
  refine lv_iconst (v := 0) hx hb dX5_lay_45 (by decide) ?_
  exact W.iret (v := 0) hx hb hr (fun t ht hW => ⟨⟨0, (), rfl, rfl, by rw [ht]; exact hP, va_K.moved hW.alike hK, hD⟩, hS.F ht⟩) hS.2.2 dX5_lay_46
set_option maxHeartbeats 4000000 in
set_option maxRecDepth 100000 in
theorem kx_X3_lay_3 (l : Launch) (hst : l.stackTraces = false) (dC : Nat → ClassId) (dI : Nat → Nat → Nat) (ge5 gea gv5 gva gde gic gi0 : Nat) (h0 : Nat) (z0 : Nat) (z1 : Nat) (z2 : Nat) (z3 : Nat) (z4 : Nat) (z5 : Nat) (sz : Nat) (i0 : Int32) (i0_l : (0 : Int) ≤ i0.toInt) (i0_u : i0.toInt ≤ (3 : Int)) (i1 : Int32) (i1_l : ((-2147483648) : Int) ≤ i1.toInt) (i1_u : i1.toInt ≤ (2147483647 : Int)) (i2 : Int32) (i2_l : (4 : Int) ≤ i2.toInt) (i2_u : i2.toInt ≤ (2147483647 : Int)) : vx_Met l yX3_lay wsX3_lay ({ frames := 7, cells := 1, slots := 6, locals := 140 }) (va_Pc [.ref h0, .int i0, .int i1, .int i2] (fun U => U.heap.size = sz ∧ va_P (dC, dI) vwCl [(h0, .inr (7, [.ref z0, .ref z1, .ref z2, .ref z3, .ref z4, .ref z5, .int 0, .int 0, .int 0]))] U.heap ∧ va_K (dC, dI) vwCl [] U ∧ va_D (fun _ => True) [(h0, .inr (7, [.ref z0, .ref z1, .ref z2, .ref z3, .ref z4, .ref z5, .int 0, .int 0, .int 0]))] ∧ gv ge5 gea gv5 gva gde gic gi0 (va_A [(h0, .inr (7, [.ref z0, .ref z1, .ref z2, .ref z3, .ref z4, .ref z5, .int 0, .int 0, .int 0]))] sz) U U.heap)) (va_Qi (fun (_ : Int32) (_ : Unit) => False) (fun _ _ => True) (va_A [(h0, .inr (7, [.ref z0, .ref z1, .ref z2, .ref z3, .ref z4, .ref z5, .int 0, .int 0, .int 0]))] sz)) (vx_X (fun _ : Unit => True) (fun (E : String) (_ : Unit) (t : State) => E = "java/lang/IndexOutOfBoundsException" ∧ va_P (dC, dI) vwCl [(h0, .inr (7, [.ref z0, .ref z1, .ref z2, .ref z3, .ref z4, .ref z5, .int 0, .int 0, .int 0]))] t.heap ∧ va_K (dC, dI) vwCl [] t ∧ va_D (va_A [(h0, .inr (7, [.ref z0, .ref z1, .ref z2, .ref z3, .ref z4, .ref z5, .int 0, .int 0, .int 0]))] sz) [(h0, .inr (7, [.ref z0, .ref z1, .ref z2, .ref z3, .ref z4, .ref z5, .int 0, .int 0, .int 0]))]) (va_A [(h0, .inr (7, [.ref z0, .ref z1, .ref z2, .ref z3, .ref z4, .ref z5, .int 0, .int 0, .int 0]))] sz)) 1 6 (va_A [(h0, .inr (7, [.ref z0, .ref z1, .ref z2, .ref z3, .ref z4, .ref z5, .int 0, .int 0, .int 0]))] sz) := by
  refine vx_ofW (cc := cX3_lay) (maxL := 5) (ret := (some .int)) (by decide) rfl ?_
  intro p e s m args below meth c s₁ B hml ht9 hv
  obtain ⟨rfl, hsz, hP, hK, hD0, hG⟩ := hv
  have hx := B.exec
  have hb := B.bytes
  have hr := B.returns
  have hts := atoms_spec (ws := wsX3_lay) B.pre
  have hown : s.vm.findClass RX3 = some m.cls := findClass_of_methodNamed B.named
  have hlocks := B.notSynchronized
  subst hsz
  have hD := hD0.self (sz := s.heap.size)
  generalize hAe : va_A [(h0, .inr (7, [.ref z0, .ref z1, .ref z2, .ref z3, .ref z4, .ref z5, .int 0, .int 0, .int 0]))] s.heap.size = A at hD hG ⊢
  obtain ⟨⟨g_AO_Text, g_AO_String, g_AO_Object, g_nm_RX1_20, g_nm_RX0_17, g_nm_RX3_31, g_nm_RX2_44, g_nm_RL_121, g_nf_RL_13, g_nf_RL_47, g_ca_IO, g_ca_IA, g_ca_IS, g_ca_IntObj, g_ca_StrObj, g_de_RT, g_de_EX, g_de_TH, g_nc_IA_IO, g_nc_IS_IO, g_nc_IS_IA⟩, ⟨g_s3, g_s5, g_sa, g_x278, g_x280, g_x282, g_x284, g_x286, g_x180, g_x238, g_x250⟩, ⟨g_o5, g_c5, g_v5, g_t5, g_oa, g_ca, g_va, g_ta, g_zc, g_zd, g_td, g_zf, g_zU, g_zN, g_zh, g_zk, g_tk, g_oi, g_vi⟩⟩ := id hG
  have hA : ∀ q : Nat, s.heap.size ≤ q → A q := fun q h => by rw [← hAe]; exact Or.inr h
  have hS : va_S A s.heap s.heap [] := va_S.rf
  have hP : va_P (dC, dI) vwCl [(h0, .inr (7, [.ref z0, .ref z1, .ref z2, .ref z3, .ref z4, .ref z5, .int 0, .int 0, .int 0]))] s.heap := hP
  have hl := lv_entry ([.ref h0, .int i0, .int i1, .int i2]) (n := 5) (Nat.le_of_ble_eq_true rfl)
  rw [lg_entry_eq]
  generalize (lg_sl ([.ref h0, .int i0, .int i1, .int i2]) ++ List.replicate (5 - (lg_sl ([.ref h0, .int i0, .int i1, .int i2])).length) Slot.unset).toArray = ls at hl ⊢
  have hl : lv_has ls 5 [(0, .ref h0), (1, .int i0), (2, .int i1), (3, .int i2)] := hl
  refine lv_iload_n hx hb dX3_lay_0 rfl (lv_at hl 1 rfl) ?_
  have hPc := hP.sub (ws' := []) [] rfl
  have hDc := hD.sub (ws' := []) [] (by decide) rfl
  have hKc := hK.sub (tys' := []) [] rfl
  have hFc := va_free (wc := []) hD hS hA [] rfl
  refine va_callv (va_runS (As := [.int i0]) (rest := []) ⟨hx, hb, hml, hown, hts⟩ (kx_X3_needRope_4 l dC dI s.heap.size i0 i0_l i0_u) (cwS 1 hts gX3_lay_X3_needRope rfl rfl rfl (by decide +kernel) ⟨Nat.le_of_ble_eq_true rfl, Nat.le_of_ble_eq_true rfl⟩) ⟨fun a U g mk q => by obtain ⟨q0, q1, qP, qK, qD⟩ := q; exact ⟨q0, q1, qP, va_K.moved (u := U) (U := U.calling g mk a) (Vm.Alike.refl U.vm) qK, qD⟩, fun U hU hW => ⟨rfl, by rw [hU], by rw [hU]; exact hPc, va_K.moved hW.alike hKc, hDc.weaken (fun _ _ _ _ => trivial)⟩⟩ rfl rfl hl.1 rfl (lv_room (Nat.le_of_ble_eq_true rfl)) dX3_lay_1 ⟨Nat.le_of_ble_eq_true rfl, Nat.le_of_ble_eq_true rfl⟩) hS (fun q _ h => hFc q h) hFc (fun u t H1 locs ht hvm hw hB hz1 hk1 hS => ?_)
  obtain ⟨hP1, hK1, hD1⟩ := hB
  rw [ht] at hP1
  have hK1 := va_K.moved hvm.symm hK1
  obtain ⟨hP, hD⟩ := va_join (wr := [(h0, .inr (7, [.ref z0, .ref z1, .ref z2, .ref z3, .ref z4, .ref z5, .int 0, .int 0, .int 0]))]) (w1 := []) hP hD [] [0] rfl rfl (by decide) (by decide) hk1 hFc hP1 hD1
  generalize H1 = H at hP hS ⊢
  have hP : va_P (dC, dI) vwCl [(h0, .inr (7, [.ref z0, .ref z1, .ref z2, .ref z3, .ref z4, .ref z5, .int 0, .int 0, .int 0]))] H := hP
  have hD : va_D A [(h0, .inr (7, [.ref z0, .ref z1, .ref z2, .ref z3, .ref z4, .ref z5, .int 0, .int 0, .int 0]))] := hD
  refine lv_iload_n hx hb dX3_lay_4 rfl (lv_at hl 3 rfl) ?_
  have hPc := hP.sub (ws' := []) [] rfl
  have hDc := hD.sub (ws' := []) [] (by decide) rfl
  have hKc := hK.sub (tys' := []) [] rfl
  have hFc := va_free (wc := []) hD hS hA [] rfl
  refine vx_callv (vx_runS (As := [.int i2]) (rest := []) ⟨hx, hb, hml, hown, hts⟩ (kx_X3_needRope_6 l hst dC dI ge5 gea gv5 gva gde gic gi0 H.size i2 i2_l i2_u) (cwS 1 hts gX3_lay_X3_needRope rfl rfl rfl (by decide +kernel) ⟨Nat.le_of_ble_eq_true rfl, Nat.le_of_ble_eq_true rfl⟩) ⟨fun a U g mk q => by obtain ⟨q0, q1, qP, qK, qD, qG⟩ := q; exact ⟨q0, q1, qP, va_K.moved (u := U) (U := U.calling g mk a) (Vm.Alike.refl U.vm) qK, qD, gv.fb qG⟩, fun U hU hW => ⟨rfl, by rw [hU], by rw [hU]; exact hPc, va_K.moved hW.alike hKc, hDc.weaken (fun _ _ _ _ => trivial), gv.pass hW hU hS hFc hG⟩⟩ rfl rfl hl.1 rfl (lv_room (Nat.le_of_ble_eq_true rfl)) dX3_lay_5 ⟨Nat.le_of_ble_eq_true rfl, Nat.le_of_ble_eq_true rfl⟩) hS (fun q _ h => hFc q h) hFc (fun q _ h => hFc q h) (fun E ce q9 u t H1 locs ht hvm hpx hB hz1 hk1 hS hce hcv hcl => ?_) (fun u t H1 locs ht hvm hw hB hz1 hk1 hS => hw.elim)
  obtain ⟨rfl, hP1, hK1, hD1⟩ := hB
  rw [ht] at hP1
  have hK1 := va_K.moved hvm.symm hK1
  obtain ⟨hP, hD⟩ := va_join (wr := [(h0, .inr (7, [.ref z0, .ref z1, .ref z2, .ref z3, .ref z4, .ref z5, .int 0, .int 0, .int 0]))]) (w1 := []) hP hD [] [0] rfl rfl (by decide) (by decide) hk1 hFc hP1 hD1
  generalize H1 = H at hP hS hce ⊢
  have hP : va_P (dC, dI) vwCl [(h0, .inr (7, [.ref z0, .ref z1, .ref z2, .ref z3, .ref z4, .ref z5, .int 0, .int 0, .int 0]))] H := hP
  have hD : va_D A [(h0, .inr (7, [.ref z0, .ref z1, .ref z2, .ref z3, .ref z4, .ref z5, .int 0, .int 0, .int 0]))] := hD
  exact vx_out (fun x hx9 => (ht9 x hx9).elim) hlocks hce hcv hcl (fun t ht hW => ⟨(), trivial, ⟨rfl, by rw [ht]; exact hP, va_K.moved hW hK, hD⟩, hS.F ht⟩) hS.2.2 (by omega) (by omega)
set_option maxHeartbeats 4000000 in
set_option maxRecDepth 100000 in
theorem kx_L_lay_3 (l : Launch) (hst : l.stackTraces = false) (dC : Nat → ClassId) (dI : Nat → Nat → Nat) (ge5 gea gv5 gva gde gic gi0 : Nat) (h0 : Nat) (z0 : Nat) (z1 : Nat) (z2 : Nat) (z3 : Nat) (z4 : Nat) (z5 : Nat) (z6 : Nat) (sz : Nat) (i0 : Int32) (i0_l : (0 : Int) ≤ i0.toInt) (i0_u : i0.toInt ≤ (3 : Int)) (i1 : Int32) (i1_l : ((-2147483648) : Int) ≤ i1.toInt) (i1_u : i1.toInt ≤ (2147483647 : Int)) (i2 : Int32) (i2_l : (4 : Int) ≤ i2.toInt) (i2_u : i2.toInt ≤ (2147483647 : Int)) : Met l yL_lay wsL_lay ({ frames := 8, cells := 1, slots := 6, locals := 164 }) (va_Pc [.ref h0, .int i0, .int i1, .int i2, .ref z0] (fun U => U.heap.size = sz ∧ va_P (dC, dI) vwCl [(h0, .inr (7, [.ref z1, .ref z2, .ref z3, .ref z4, .ref z5, .ref z6, .int 0, .int 0, .int 0]))] U.heap ∧ va_K (dC, dI) vwCl [] U ∧ va_D (fun _ => True) [(h0, .inr (7, [.ref z1, .ref z2, .ref z3, .ref z4, .ref z5, .ref z6, .int 0, .int 0, .int 0]))] ∧ gv ge5 gea gv5 gva gde gic gi0 (va_A [(h0, .inr (7, [.ref z1, .ref z2, .ref z3, .ref z4, .ref z5, .ref z6, .int 0, .int 0, .int 0]))] sz) U U.heap)) (va_Qi (fun (r : Int32) (_ : Unit) => r = 1) (fun (_ : Unit) (t : State) => va_P (dC, dI) vwCl [(h0, .inr (7, [.ref z1, .ref z2, .ref z3, .ref z4, .ref z5, .ref z6, .int 0, .int 0, .int 0]))] t.heap ∧ va_K (dC, dI) vwCl [] t ∧ va_D (va_A [(h0, .inr (7, [.ref z1, .ref z2, .ref z3, .ref z4, .ref z5, .ref z6, .int 0, .int 0, .int 0]))] sz) [(h0, .inr (7, [.ref z1, .ref z2, .ref z3, .ref z4, .ref z5, .ref z6, .int 0, .int 0, .int 0]))]) (va_A [(h0, .inr (7, [.ref z1, .ref z2, .ref z3, .ref z4, .ref z5, .ref z6, .int 0, .int 0, .int 0]))] sz)) 1 6 (va_A [(h0, .inr (7, [.ref z1, .ref z2, .ref z3, .ref z4, .ref z5, .ref z6, .int 0, .int 0, .int 0]))] sz) := by
  refine kz_ofWH (cc := cL_lay) (maxL := 6) (ret := (some .int)) (hh := [(0, 13, 16, 19)]) (by decide) rfl ?_
  intro p e s m args below meth c s₁ B hml hv
  obtain ⟨rfl, hsz, hP, hK, hD0, hG⟩ := hv
  have hx := B.exec
  have hb := B.bytes
  have hr := B.returns
  have hts := atoms_spec (ws := wsL_lay) B.pre
  have hown : s.vm.findClass RL = some m.cls := findClass_of_methodNamed B.named
  have htab := vx_table (x := yL_lay) B (hts (.codeWith yL_lay cL_lay 6 (some .int) [(0, 13, 16, 19)]) (by decide +kernel))
  have hlocks := B.notSynchronized
  subst hsz
  have hD := hD0.self (sz := s.heap.size)
  generalize hAe : va_A [(h0, .inr (7, [.ref z1, .ref z2, .ref z3, .ref z4, .ref z5, .ref z6, .int 0, .int 0, .int 0]))] s.heap.size = A at hD hG ⊢
  obtain ⟨⟨g_AO_Text, g_AO_String, g_AO_Object, g_nm_RX1_20, g_nm_RX0_17, g_nm_RX3_31, g_nm_RX2_44, g_nm_RL_121, g_nf_RL_13, g_nf_RL_47, g_ca_IO, g_ca_IA, g_ca_IS, g_ca_IntObj, g_ca_StrObj, g_de_RT, g_de_EX, g_de_TH, g_nc_IA_IO, g_nc_IS_IO, g_nc_IS_IA⟩, ⟨g_s3, g_s5, g_sa, g_x278, g_x280, g_x282, g_x284, g_x286, g_x180, g_x238, g_x250⟩, ⟨g_o5, g_c5, g_v5, g_t5, g_oa, g_ca, g_va, g_ta, g_zc, g_zd, g_td, g_zf, g_zU, g_zN, g_zh, g_zk, g_tk, g_oi, g_vi⟩⟩ := id hG
  have hA : ∀ q : Nat, s.heap.size ≤ q → A q := fun q h => by rw [← hAe]; exact Or.inr h
  have hS : va_S A s.heap s.heap [] := va_S.rf
  have hP : va_P (dC, dI) vwCl [(h0, .inr (7, [.ref z1, .ref z2, .ref z3, .ref z4, .ref z5, .ref z6, .int 0, .int 0, .int 0]))] s.heap := hP
  have hl := lv_entry ([.ref h0, .int i0, .int i1, .int i2, .ref z0]) (n := 6) (Nat.le_of_ble_eq_true rfl)
  rw [lg_entry_eq]
  generalize (lg_sl ([.ref h0, .int i0, .int i1, .int i2, .ref z0]) ++ List.replicate (6 - (lg_sl ([.ref h0, .int i0, .int i1, .int i2, .ref z0])).length) Slot.unset).toArray = ls at hl ⊢
  have hl : lv_has ls 6 [(0, .ref h0), (1, .int i0), (2, .int i1), (3, .int i2), (4, .ref z0)] := hl
  refine lv_aload hx hb dL_lay_0 (lv_at hl 4 rfl) ?_
  refine lv_aload_n hx hb dL_lay_2 rfl (lv_at hl 0 rfl) ?_
  refine lv_iload_n hx hb dL_lay_3 rfl (lv_at hl 1 rfl) ?_
  refine lv_iload_n hx hb dL_lay_4 rfl (lv_at hl 2 rfl) ?_
  refine lv_iload_n hx hb dL_lay_5 rfl (lv_at hl 3 rfl) ?_
  have hPc := hP.sub (ws' := [(h0, .inr (7, [.ref z1, .ref z2, .ref z3, .ref z4, .ref z5, .ref z6, .int 0, .int 0, .int 0]))]) [0] rfl
  have hDc := hD.sub (ws' := [(h0, .inr (7, [.ref z1, .ref z2, .ref z3, .ref z4, .ref z5, .ref z6, .int 0, .int 0, .int 0]))]) [0] (by decide) rfl
  have hKc := hK.sub (tys' := []) [] rfl
  have hFc := va_free (wc := [(h0, .inr (7, [.ref z1, .ref z2, .ref z3, .ref z4, .ref z5, .ref z6, .int 0, .int 0, .int 0]))]) hD hS hA [0] rfl
  refine vx_calli (vx_runV (As := [.int i0, .int i1, .int i2]) (rest := [.ref z0]) ⟨hx, hb, hml, hown, hts⟩ (kx_X3_lay_3 l hst dC dI ge5 gea gv5 gva gde gic gi0 h0 z1 z2 z3 z4 z5 z6 s.heap.size i0 i0_l i0_u i1 i1_l i1_u i2 i2_l i2_u) (cwV 3 hts gL_lay_X3_lay rfl rfl rfl (by decide +kernel) ⟨Nat.le_of_ble_eq_true rfl, Nat.le_of_ble_eq_true rfl⟩) ⟨fun a U g mk q => by obtain ⟨q0, q1, qP, qK, qD, qG⟩ := q; exact ⟨q0, q1, qP, va_K.moved (u := U) (U := U.calling g mk a) (Vm.Alike.refl U.vm) qK, qD, gv.fb qG⟩, va_recv hKc hPc (ci := 7) (q0 := 0) rfl rfl, fun U hU hW => ⟨rfl, by rw [hU], by rw [hU]; exact hPc, va_K.moved hW.alike hKc, hDc.weaken (fun _ _ _ _ => trivial), gv.pass hW hU hS hFc hG⟩⟩ rfl rfl hl.1 rfl (lv_room (Nat.le_of_ble_eq_true rfl)) dL_lay_6 ⟨Nat.le_of_ble_eq_true rfl, Nat.le_of_ble_eq_true rfl⟩) hS (fun q _ h => hFc q h) hFc (fun q _ h => hFc q h) (fun E ce q9 u t H1 locs ht hvm hpx hB hz1 hk1 hS hce hcv hcl => ?_) (fun r9 u t H1 locs ht hvm hw hB hz1 hk1 hS => hw.elim)
  obtain ⟨rfl, hP1, hK1, hD1⟩ := hB
  rw [ht] at hP1
  have hK1 := va_K.moved hvm.symm hK1
  obtain ⟨hP, hD⟩ := va_join (wr := []) (w1 := [(h0, .inr (7, [.ref z1, .ref z2, .ref z3, .ref z4, .ref z5, .ref z6, .int 0, .int 0, .int 0]))]) hP hD [0] [] rfl rfl (by decide) (by decide) hk1 hFc hP1 hD1
  generalize H1 = H at hP hS hce ⊢
  have hP : va_P (dC, dI) vwCl [(h0, .inr (7, [.ref z1, .ref z2, .ref z3, .ref z4, .ref z5, .ref z6, .int 0, .int 0, .int 0]))] H := hP
  have hD : va_D A [(h0, .inr (7, [.ref z1, .ref z2, .ref z3, .ref z4, .ref z5, .ref z6, .int 0, .int 0, .int 0]))] := hD
  refine vx_catch (own := RL) (name := "java/lang/IndexOutOfBoundsException") hown (tableOf []) ⟨0, 13, 16, 19⟩ (tableOf []) (by rw [htab]; rfl) (fun z hz => nomatch hz) (by decide +kernel) (by decide) (hts (.classLink RL 19 "java/lang/IndexOutOfBoundsException") (by decide +kernel)) (va_Nw.use rfl g_ca_IO) hce hcv hcl ?_
  refine W.eq (g2 := F0 m 16 ls [.ref q9]) rfl ?_
  refine lv_astore (lv' := [(5, .ref q9), (0, .ref h0), (1, .int i0), (2, .int i1), (3, .int i2), (4, .ref z0)]) hx hb dL_lay_16 hl (by decide) rfl (fun ls hl => ?_)
  refine lv_iconst (v := 1) hx hb dL_lay_18 (by decide) ?_
  exact W.iret (v := 1) hx hb hr (fun t ht hW => ⟨⟨1, (), rfl, rfl, by rw [ht]; exact hP, va_K.moved hW.alike hK, hD⟩, hS.F ht⟩) hS.2.2 dL_lay_19
set_option maxHeartbeats 4000000 in
set_option maxRecDepth 100000 in
theorem kx_X5_lay_3 (l : Launch) (dC : Nat → ClassId) (dI : Nat → Nat → Nat) (h0 : Nat) (z0 : Nat) (z1 : Nat) (z2 : Nat) (sz : Nat) (i0 : Int32) (i0_l : (0 : Int) ≤ i0.toInt) (i0_u : i0.toInt ≤ (3 : Int)) (i1 : Int32) (i1_l : ((-2147483648) : Int) ≤ i1.toInt) (i1_u : i1.toInt ≤ (2147483647 : Int)) (i2 : Int32) (i2_l : (4 : Int) ≤ i2.toInt) (i2_u : i2.toInt ≤ (2147483647 : Int)) : Met l yX5_lay wsX5_lay ({ frames := 2, cells := 0, slots := 0, locals := 42 }) (va_Pc [.ref h0, .int i0, .int i1, .int i2] (fun U => U.heap.size = sz ∧ va_P (dC, dI) vwCl [(h0, .inr (9, [.int 0, .ref z0, .ref z1, .ref z2, .int 0, .int 0, .int 0]))] U.heap ∧ va_K (dC, dI) vwCl [] U ∧ va_D (fun _ => True) [(h0, .inr (9, [.int 0, .ref z0, .ref z1, .ref z2, .int 0, .int 0, .int 0]))])) (va_Qi (fun (r : Int32) (_ : Unit) => r = 0) (fun (_ : Unit) (t : State) => va_P (dC, dI) vwCl [(h0, .inr (9, [.int 1, .ref z0, .ref z1, .ref z2, .int 0, .int 0, .int 0]))] t.heap ∧ va_K (dC, dI) vwCl [] t ∧ va_D (va_A [(h0, .inr (9, [.int 0, .ref z0, .ref z1, .ref z2, .int 0, .int 0, .int 0]))] sz) [(h0, .inr (9, [.int 1, .ref z0, .ref z1, .ref z2, .int 0, .int 0, .int 0]))]) (va_A [(h0, .inr (9, [.int 0, .ref z0, .ref z1, .ref z2, .int 0, .int 0, .int 0]))] sz)) 0 0 (va_A [(h0, .inr (9, [.int 0, .ref z0, .ref z1, .ref z2, .int 0, .int 0, .int 0]))] sz) := by
  refine Met.ofW (cc := cX5_lay) (maxL := 5) (ret := (some .int)) (by decide) rfl ?_
  intro p e s m args below meth c s₁ B hml hv
  obtain ⟨rfl, hsz, hP, hK, hD0⟩ := hv
  have hx := B.exec
  have hb := B.bytes
  have hr := B.returns
  have hts := atoms_spec (ws := wsX5_lay) B.pre
  have hown : s.vm.findClass RX5 = some m.cls := findClass_of_methodNamed B.named
  have hlocks := B.notSynchronized
  subst hsz
  have hD := hD0.self (sz := s.heap.size)
  generalize hAe : va_A [(h0, .inr (9, [.int 0, .ref z0, .ref z1, .ref z2, .int 0, .int 0, .int 0]))] s.heap.size = A at hD ⊢
  have hA : ∀ q : Nat, s.heap.size ≤ q → A q := fun q h => by rw [← hAe]; exact Or.inr h
  have hS : va_S A s.heap s.heap [] := va_S.rf
  have hP : va_P (dC, dI) vwCl [(h0, .inr (9, [.int 0, .ref z0, .ref z1, .ref z2, .int 0, .int 0, .int 0]))] s.heap := hP
  have hl := lv_entry ([.ref h0, .int i0, .int i1, .int i2]) (n := 5) (Nat.le_of_ble_eq_true rfl)
  rw [lg_entry_eq]
  generalize (lg_sl ([.ref h0, .int i0, .int i1, .int i2]) ++ List.replicate (5 - (lg_sl ([.ref h0, .int i0, .int i1, .int i2])).length) Slot.unset).toArray = ls at hl ⊢
  have hl : lv_has ls 5 [(0, .ref h0), (1, .int i0), (2, .int i1), (3, .int i2)] := hl
  refine lv_aload_n hx hb dX5_lay_0 rfl (lv_at hl 0 rfl) ?_
  refine lv_iload_n hx hb dX5_lay_1 rfl (lv_at hl 1 rfl) ?_
  have hPc := hP.sub (ws' := []) [] rfl
  have hDc := hD.sub (ws' := []) [] (by decide) rfl
  have hKc := hK.sub (tys' := []) [] rfl
  have hFc := va_free (wc := []) hD hS hA [] rfl
  refine va_calli (va_runS (As := [.int i0]) (rest := [.ref h0]) ⟨hx, hb, hml, hown, hts⟩ (kx_X5_isNo_1 l dC dI s.heap.size i0 i0_l i0_u) (cwS 1 hts gX5_lay_X5_isNo rfl rfl rfl (by decide +kernel) ⟨Nat.le_of_ble_eq_true rfl, Nat.le_of_ble_eq_true rfl⟩) ⟨fun a U g mk q => by obtain ⟨q0, q1, qP, qK, qD⟩ := q; exact ⟨q0, q1, qP, va_K.moved (u := U) (U := U.calling g mk a) (Vm.Alike.refl U.vm) qK, qD⟩, fun U hU hW => ⟨rfl, by rw [hU], by rw [hU]; exact hPc, va_K.moved hW.alike hKc, hDc.weaken (fun _ _ _ _ => trivial)⟩⟩ rfl rfl hl.1 rfl (lv_room (Nat.le_of_ble_eq_true rfl)) dX5_lay_2 ⟨Nat.le_of_ble_eq_true rfl, Nat.le_of_ble_eq_true rfl⟩) hS (fun q _ h => hFc q h) hFc (fun r9 u t H1 locs ht hvm hw hB hz1 hk1 hS => ?_)
  obtain rfl := hw
  obtain ⟨hP1, hK1, hD1⟩ := hB
  rw [ht] at hP1
  have hK1 := va_K.moved hvm.symm hK1
  obtain ⟨hP, hD⟩ := va_join (wr := [(h0, .inr (9, [.int 0, .ref z0, .ref z1, .ref z2, .int 0, .int 0, .int 0]))]) (w1 := []) hP hD [] [0] rfl rfl (by decide) (by decide) hk1 hFc hP1 hD1
  generalize H1 = H at hP hS ⊢
  have hP : va_P (dC, dI) vwCl [(h0, .inr (9, [.int 0, .ref z0, .ref z1, .ref z2, .int 0, .int 0, .int 0]))] H := hP
  have hD : va_D A [(h0, .inr (9, [.int 0, .ref z0, .ref z1, .ref z2, .int 0, .int 0, .int 0]))] := hD
  refine lv_if_ne (tgt := 32) hx hb dX5_lay_5 (by decide) (fun c9 => absurd (by decide) c9) (fun _ => ?_)
  refine lv_iload_n hx hb dX5_lay_8 rfl (lv_at hl 3 rfl) ?_
  have hPc := hP.sub (ws' := []) [] rfl
  have hDc := hD.sub (ws' := []) [] (by decide) rfl
  have hKc := hK.sub (tys' := []) [] rfl
  have hFc := va_free (wc := []) hD hS hA [] rfl
  refine va_calli (va_runS (As := [.int i2]) (rest := [.ref h0]) ⟨hx, hb, hml, hown, hts⟩ (kx_X5_isNo_2 l dC dI H.size i2 i2_l i2_u) (cwS 1 hts gX5_lay_X5_isNo rfl rfl rfl (by decide +kernel) ⟨Nat.le_of_ble_eq_true rfl, Nat.le_of_ble_eq_true rfl⟩) ⟨fun a U g mk q => by obtain ⟨q0, q1, qP, qK, qD⟩ := q; exact ⟨q0, q1, qP, va_K.moved (u := U) (U := U.calling g mk a) (Vm.Alike.refl U.vm) qK, qD⟩, fun U hU hW => ⟨rfl, by rw [hU], by rw [hU]; exact hPc, va_K.moved hW.alike hKc, hDc.weaken (fun _ _ _ _ => trivial)⟩⟩ rfl rfl hl.1 rfl (lv_room (Nat.le_of_ble_eq_true rfl)) dX5_lay_9 ⟨Nat.le_of_ble_eq_true rfl, Nat.le_of_ble_eq_true rfl⟩) hS (fun q _ h => hFc q h) hFc (fun r9 u t H1 locs ht hvm hw hB hz1 hk1 hS => ?_)
  obtain rfl := hw
  obtain ⟨hP1, hK1, hD1⟩ := hB
  rw [ht] at hP1
  have hK1 := va_K.moved hvm.symm hK1
  obtain ⟨hP, hD⟩ := va_join (wr := [(h0, .inr (9, [.int 0, .ref z0, .ref z1, .ref z2, .int 0, .int 0, .int 0]))]) (w1 := []) hP hD [] [0] rfl rfl (by decide) (by decide) hk1 hFc hP1 hD1
  generalize H1 = H at hP hS ⊢
  have hP : va_P (dC, dI) vwCl [(h0, .inr (9, [.int 0, .ref z0, .ref z1, .ref z2, .int 0, .int 0, .int 0]))] H := hP
  have hD : va_D A [(h0, .inr (9, [.int 0, .ref z0, .ref z1, .ref z2, .int 0, .int 0, .int 0]))] := hD
  refine lv_if_ne (tgt := 32) hx hb dX5_lay_12 (by decide) (fun _ => ?_) (fun c9 => absurd c9 (by decide))
  refine lv_iconst (v := 1) hx hb dX5_lay_32 (by decide) ?_
  refine lv_goto (tgt := 37) hx hb dX5_lay_33 (by decide) ?_
  refine lv_iconst (v := 0) hx hb dX5_lay_37 (by decide) ?_
  refine lv_iconst (v := 0) hx hb dX5_lay_38 (by decide) ?_
  have hPc := hP.sub (ws' := [(h0, .inr (9, [.int 0, .ref z0, .ref z1, .ref z2, .int 0, .int 0, .int 0]))]) [0] rfl
  have hDc := hD.sub (ws' := [(h0, .inr (9, [.int 0, .ref z0, .ref z1, .ref z2, .int 0, .int 0, .int 0]))]) [0] (by decide) rfl
  have hKc := hK.sub (tys' := []) [] rfl
  have hFc := va_free (wc := [(h0, .inr (9, [.int 0, .ref z0, .ref z1, .ref z2, .int 0, .int 0, .int 0]))]) hD hS hA [0] rfl
  refine va_calli (va_runV (As := [.int 1, .int 0, .int 0]) (rest := []) ⟨hx, hb, hml, hown, hts⟩ (kx_X5_fails_0 l dC dI h0 z0 z1 z2 H.size) (cwV 3 hts gX5_lay_X5_fails rfl rfl rfl (by decide +kernel) ⟨Nat.le_of_ble_eq_true rfl, Nat.le_of_ble_eq_true rfl⟩) ⟨fun a U g mk q => by obtain ⟨q0, q1, qP, qK, qD⟩ := q; exact ⟨q0, q1, qP, va_K.moved (u := U) (U := U.calling g mk a) (Vm.Alike.refl U.vm) qK, qD⟩, va_recv hKc hPc (ci := 9) (q0 := 0) rfl rfl, fun U hU hW => ⟨rfl, by rw [hU], by rw [hU]; exact hPc, va_K.moved hW.alike hKc, hDc.weaken (fun _ _ _ _ => trivial)⟩⟩ rfl rfl hl.1 rfl (lv_room (Nat.le_of_ble_eq_true rfl)) dX5_lay_39 ⟨Nat.le_of_ble_eq_true rfl, Nat.le_of_ble_eq_true rfl⟩) hS (fun q _ h => hFc q h) hFc (fun r9 u t H1 locs ht hvm hw hB hz1 hk1 hS => ?_)
  obtain rfl := hw
  obtain ⟨hP1, hK1, hD1⟩ := hB
  rw [ht] at hP1
  have hK1 := va_K.moved hvm.symm hK1
  obtain ⟨hP, hD⟩ := va_join (wr := []) (w1 := [(h0, .inr (9, [.int 1, .ref z0, .ref z1, .ref z2, .int 0, .int 0, .int 0]))]) hP hD [0] [] rfl rfl (by decide) (by decide) hk1 hFc hP1 hD1
  generalize H1 = H at hP hS ⊢
  have hP : va_P (dC, dI) vwCl [(h0, .inr (9, [.int 1, .ref z0, .ref z1, .ref z2, .int 0, .int 0, .int 0]))] H := hP
  have hD : va_D A [(h0, .inr (9, [.int 1, .ref z0, .ref z1, .ref z2, .int 0, .int 0, .int 0]))] := hD
  refine lv_if_eq (tgt := 47) hx hb dX5_lay_42 (by decide) (fun c9 => absurd c9 (by decide)) (fun _ => ?_)
  refine lv_iconst (v := 0) hx hb dX5_lay_45 (by decide) ?_
  exact W.iret (v := 0) hx hb hr (fun t ht hW => ⟨⟨0, (), rfl, rfl, by rw [ht]; exact hP, va_K.moved hW.alike hK, hD⟩, hS.F ht⟩) hS.2.2 dX5_lay_46
set_option maxHeartbeats 4000000 in
set_option maxRecDepth 100000 in
theorem kx_X3_needPlace_0 (l : Launch) (hst : l.stackTraces = false) (dC : Nat → ClassId) (dI : Nat → Nat → Nat) (ge5 gea gv5 gva gde gic gi0 : Nat) (z0 : Nat) (sz : Nat) (i0 : Int32) (i0_l : ((-2147483648) : Int) ≤ i0.toInt) (i0_u : i0.toInt ≤ ((-1) : Int)) : vx_Met l yX3_needPlace wsX3_needPlace ({ frames := 6, cells := 1, slots := 6, locals := 120 }) (va_Pc [.ref z0, .int i0] (fun U => U.heap.size = sz ∧ va_P (dC, dI) vwCl [] U.heap ∧ va_K (dC, dI) vwCl [] U ∧ va_D (fun _ => True) [] ∧ gv ge5 gea gv5 gva gde gic gi0 (va_A [] sz) U U.heap)) (va_Qv (fun _ : Unit => False) (fun _ _ => True) (va_A [] sz)) (vx_X (fun _ : Unit => True) (fun (E : String) (_ : Unit) (t : State) => E = "java/lang/IndexOutOfBoundsException" ∧ va_P (dC, dI) vwCl [] t.heap ∧ va_K (dC, dI) vwCl [] t ∧ va_D (va_A [] sz) []) (va_A [] sz)) 1 6 (va_A [] sz) := by
  refine vx_ofW (cc := cX3_needPlace) (maxL := 2) (ret := none) (by decide) rfl ?_
  intro p e s m args below meth c s₁ B hml ht9 hv
  obtain ⟨rfl, hsz, hP, hK, hD0, hG⟩ := hv
  have hx := B.exec
  have hb := B.bytes
  have hr := B.returns
  have hts := atoms_spec (ws := wsX3_needPlace) B.pre
  have hown : s.vm.findClass RX3 = some m.cls := findClass_of_methodNamed B.named
  have hlocks := B.notSynchronized
  subst hsz
  have hD := hD0.self (sz := s.heap.size)
  generalize hAe : va_A [] s.heap.size = A at hD hG ⊢
  obtain ⟨⟨g_AO_Text, g_AO_String, g_AO_Object, g_nm_RX1_20, g_nm_RX0_17, g_nm_RX3_31, g_nm_RX2_44, g_nm_RL_121, g_nf_RL_13, g_nf_RL_47, g_ca_IO, g_ca_IA, g_ca_IS, g_ca_IntObj, g_ca_StrObj, g_de_RT, g_de_EX, g_de_TH, g_nc_IA_IO, g_nc_IS_IO, g_nc_IS_IA⟩, ⟨g_s3, g_s5, g_sa, g_x278, g_x280, g_x282, g_x284, g_x286, g_x180, g_x238, g_x250⟩, ⟨g_o5, g_c5, g_v5, g_t5, g_oa, g_ca, g_va, g_ta, g_zc, g_zd, g_td, g_zf, g_zU, g_zN, g_zh, g_zk, g_tk, g_oi, g_vi⟩⟩ := id hG
  have hA : ∀ q : Nat, s.heap.size ≤ q → A q := fun q h => by rw [← hAe]; exact Or.inr h
  have hS : va_S A s.heap s.heap [] := va_S.rf
  have hP : va_P (dC, dI) vwCl [] s.heap := hP
  have hl := lv_entry ([.ref z0, .int i0]) (n := 2) (Nat.le_of_ble_eq_true rfl)
  rw [lg_entry_eq]
  generalize (lg_sl ([.ref z0, .int i0]) ++ List.replicate (2 - (lg_sl ([.ref z0, .int i0])).length) Slot.unset).toArray = ls at hl ⊢
  have hl : lv_has ls 2 [(0, .ref z0), (1, .int i0)] := hl
  refine lv_iload_n hx hb dX3_needPlace_0 rfl (lv_at hl 1 rfl) ?_
  refine lv_if_lt (tgt := 12) hx hb dX3_needPlace_1 (by decide) (fun _ => ?_) (fun c9 => absurd (Int32.lt_iff_toInt_lt.mpr (by rw [show (0 : Int32).toInt = 0 from by decide]; omega)) c9)
  obtain ⟨sa9, hsa9⟩ := g_x282
  have hin9 : ∀ w ∈ (vx_atS RX3 240 "java/lang/IndexOutOfBoundsException" ["java/lang/RuntimeException", "java/lang/Exception"]).filter goodWord, w ∈ wsX3_needPlace := (by intro w hw; first | exact List.mem_cons_of_mem _ (List.mem_append_right _ hw) | exact List.mem_cons_of_mem _ (List.mem_append_left _ (List.mem_append_right _ hw)))
  exact vx_throwSW (cls := "java/lang/IndexOutOfBoundsException") (text := "no such place") (names := ["java/lang/RuntimeException", "java/lang/Exception"]) (ic := 240) hx hb hst hown (by decide) (by decide) (hts (.classLink RX3 236 "java/lang/IndexOutOfBoundsException") (by decide +kernel)) (hts (.initialized "java/lang/IndexOutOfBoundsException") (by decide +kernel)) hsa9 (vx_hat (B := [.declares (Bundle.initS "java/lang/RuntimeException"), .declares (Bundle.initS "java/lang/Exception"), .declares (Bundle.initS Bundle.tN), .castable "java/lang/IndexOutOfBoundsException" "java/lang/IndexOutOfBoundsException"]) (fun w hw => hts w (hin9 w hw)) (fun w hw => by rw [xbad_IO] at hw; exact hw) (vx_c (va_Nw.use rfl g_de_RT) (vx_c (va_Nw.use rfl g_de_EX) (vx_c (va_Nw.use rfl g_de_TH) (vx_c (va_Nw.use rfl g_ca_IO) vx_n))))) (by decide +kernel) g_zU g_zN hS (by rw [hml]; exact hl.1) dX3_needPlace_12 dX3_needPlace_15 dX3_needPlace_16 dX3_needPlace_19 dX3_needPlace_22 (fun x hx9 => (ht9 x hx9).elim) (Nat.le_of_ble_eq_true rfl) (Nat.le_of_ble_eq_true rfl) (Nat.le_of_ble_eq_true rfl) (Nat.le_of_ble_eq_true rfl) hlocks (fun t ha hz hk => ⟨(), trivial, ⟨rfl, hP.kept (fun k q hq => hk _ (vx_lt hP hq)), va_K.moved ha hK, hD⟩, Nat.le_trans hS.1 hz, fun q h1 h2 => (hk q (Nat.lt_of_lt_of_le h1 hS.1)).trans (hS.2.1 q h1 h2)⟩) hS.2.2 (Nat.le_refl _) (Nat.le_refl _)
