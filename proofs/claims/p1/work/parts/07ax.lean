set_option maxHeartbeats 4000000 in
set_option maxRecDepth 100000 in
theorem kx_L_falls_1 (l : Launch) (hst : l.stackTraces = false) (dC : Nat → ClassId) (dI : Nat → Nat → Nat) (ge5 gea gv5 gva gde gic gi0 : Nat) (h0 : Nat) (h1 : Nat) (z0 : Nat) (z1 : Nat) (z2 : Nat) (z3 : Nat) (z4 : Nat) (z5 : Nat) (z6 : Nat) (z7 : Nat) (z8 : Nat) (z9 : Nat) (z10 : Nat) (z11 : Nat) (sz : Nat) (i0 : Int32) (i0_l : (0 : Int) ≤ i0.toInt) (i0_u : i0.toInt ≤ (2147483647 : Int)) : Met l yL_falls wsL_falls ({ frames := 8, cells := 1, slots := 6, locals := 162 }) (va_Pc [.ref h0, .int i0, .ref z0] (fun U => U.heap.size = sz ∧ va_P (dC, dI) vwCl [(h0, .inr (7, [.ref z1, .ref h1, .ref z2, .ref z3, .ref z4, .ref z5, .int 0, .int 0, .int 0])), (h1, .inr (5, [.ref z6, .ref z7, .ref z8, .ref z9, .ref z10, .ref z11, .int 0, .int 0]))] U.heap ∧ va_K (dC, dI) vwCl [] U ∧ va_D (fun _ => True) [(h0, .inr (7, [.ref z1, .ref h1, .ref z2, .ref z3, .ref z4, .ref z5, .int 0, .int 0, .int 0])), (h1, .inr (5, [.ref z6, .ref z7, .ref z8, .ref z9, .ref z10, .ref z11, .int 0, .int 0]))] ∧ gv ge5 gea gv5 gva gde gic gi0 (va_A [(h0, .inr (7, [.ref z1, .ref h1, .ref z2, .ref z3, .ref z4, .ref z5, .int 0, .int 0, .int 0])), (h1, .inr (5, [.ref z6, .ref z7, .ref z8, .ref z9, .ref z10, .ref z11, .int 0, .int 0]))] sz) U U.heap)) (va_Qi (fun (r : Int32) (_ : Unit) => r = 1) (fun (_ : Unit) (t : State) => va_P (dC, dI) vwCl [(h0, .inr (7, [.ref z1, .ref h1, .ref z2, .ref z3, .ref z4, .ref z5, .int 0, .int 0, .int 0])), (h1, .inr (5, [.ref z6, .ref z7, .ref z8, .ref z9, .ref z10, .ref z11, .int 0, .int 0]))] t.heap ∧ va_K (dC, dI) vwCl [] t ∧ va_D (va_A [(h0, .inr (7, [.ref z1, .ref h1, .ref z2, .ref z3, .ref z4, .ref z5, .int 0, .int 0, .int 0])), (h1, .inr (5, [.ref z6, .ref z7, .ref z8, .ref z9, .ref z10, .ref z11, .int 0, .int 0]))] sz) [(h0, .inr (7, [.ref z1, .ref h1, .ref z2, .ref z3, .ref z4, .ref z5, .int 0, .int 0, .int 0])), (h1, .inr (5, [.ref z6, .ref z7, .ref z8, .ref z9, .ref z10, .ref z11, .int 0, .int 0]))]) (va_A [(h0, .inr (7, [.ref z1, .ref h1, .ref z2, .ref z3, .ref z4, .ref z5, .int 0, .int 0, .int 0])), (h1, .inr (5, [.ref z6, .ref z7, .ref z8, .ref z9, .ref z10, .ref z11, .int 0, .int 0]))] sz)) 1 6 (va_A [(h0, .inr (7, [.ref z1, .ref h1, .ref z2, .ref z3, .ref z4, .ref z5, .int 0, .int 0, .int 0])), (h1, .inr (5, [.ref z6, .ref z7, .ref z8, .ref z9, .ref z10, .ref z11, .int 0, .int 0]))] sz) := by
  refine kz_ofWH (cc := cL_falls) (maxL := 4) (ret := (some .int)) (hh := [(0, 17, 20, 19)]) (by decide) rfl ?_
  intro p e s m args below meth c s₁ B hml hv
  obtain ⟨rfl, hsz, hP, hK, hD0, hG⟩ := hv
  have hx := B.exec
  have hb := B.bytes
  have hr := B.returns
  have hts := atoms_spec (ws := wsL_falls) B.pre
  have hown : s.vm.findClass RL = some m.cls := findClass_of_methodNamed B.named
  have htab := vx_table (x := yL_falls) B (hts (.codeWith yL_falls cL_falls 4 (some .int) [(0, 17, 20, 19)]) (by decide +kernel))
  have hlocks := B.notSynchronized
  subst hsz
  have hD := hD0.self (sz := s.heap.size)
  generalize hAe : va_A [(h0, .inr (7, [.ref z1, .ref h1, .ref z2, .ref z3, .ref z4, .ref z5, .int 0, .int 0, .int 0])), (h1, .inr (5, [.ref z6, .ref z7, .ref z8, .ref z9, .ref z10, .ref z11, .int 0, .int 0]))] s.heap.size = A at hD hG ⊢
  obtain ⟨⟨g_AO_Text, g_AO_String, g_AO_Object, g_nm_RX1_20, g_nm_RX0_17, g_nm_RX3_31, g_nm_RX2_44, g_nm_RL_121, g_nf_RL_13, g_nf_RL_47, g_ca_IO, g_ca_IA, g_ca_IS, g_ca_IntObj, g_ca_StrObj, g_de_RT, g_de_EX, g_de_TH, g_nc_IA_IO, g_nc_IS_IO, g_nc_IS_IA⟩, ⟨g_s3, g_s5, g_sa, g_x278, g_x280, g_x282, g_x284, g_x286, g_x180, g_x238, g_x250⟩, ⟨g_o5, g_c5, g_v5, g_t5, g_oa, g_ca, g_va, g_ta, g_zc, g_zd, g_td, g_zf, g_zU, g_zN, g_zh, g_zk, g_tk, g_oi, g_vi⟩⟩ := id hG
  have hA : ∀ q : Nat, s.heap.size ≤ q → A q := fun q h => by rw [← hAe]; exact Or.inr h
  have hS : va_S A s.heap s.heap [] := va_S.rf
  have hP : va_P (dC, dI) vwCl [(h0, .inr (7, [.ref z1, .ref h1, .ref z2, .ref z3, .ref z4, .ref z5, .int 0, .int 0, .int 0])), (h1, .inr (5, [.ref z6, .ref z7, .ref z8, .ref z9, .ref z10, .ref z11, .int 0, .int 0]))] s.heap := hP
  have hl := lv_entry ([.ref h0, .int i0, .ref z0]) (n := 4) (Nat.le_of_ble_eq_true rfl)
  rw [lg_entry_eq]
  generalize (lg_sl ([.ref h0, .int i0, .ref z0]) ++ List.replicate (4 - (lg_sl ([.ref h0, .int i0, .ref z0])).length) Slot.unset).toArray = ls at hl ⊢
  have hl : lv_has ls 4 [(0, .ref h0), (1, .int i0), (2, .ref z0)] := hl
  refine lv_aload_n hx hb dL_falls_0 rfl (lv_at hl 2 rfl) ?_
  refine lv_aload_n hx hb dL_falls_1 rfl (lv_at hl 0 rfl) ?_
  refine lv_iload_n hx hb dL_falls_2 rfl (lv_at hl 1 rfl) ?_
  have hPc := hP.sub (ws' := [(h0, .inr (7, [.ref z1, .ref h1, .ref z2, .ref z3, .ref z4, .ref z5, .int 0, .int 0, .int 0])), (h1, .inr (5, [.ref z6, .ref z7, .ref z8, .ref z9, .ref z10, .ref z11, .int 0, .int 0]))]) [0, 1] rfl
  have hDc := hD.sub (ws' := [(h0, .inr (7, [.ref z1, .ref h1, .ref z2, .ref z3, .ref z4, .ref z5, .int 0, .int 0, .int 0])), (h1, .inr (5, [.ref z6, .ref z7, .ref z8, .ref z9, .ref z10, .ref z11, .int 0, .int 0]))]) [0, 1] (by decide) rfl
  have hKc := hK.sub (tys' := []) [] rfl
  have hFc := va_free (wc := [(h0, .inr (7, [.ref z1, .ref h1, .ref z2, .ref z3, .ref z4, .ref z5, .int 0, .int 0, .int 0])), (h1, .inr (5, [.ref z6, .ref z7, .ref z8, .ref z9, .ref z10, .ref z11, .int 0, .int 0]))]) hD hS hA [0, 1] rfl
  refine vx_calli (vx_runV (As := [.int i0]) (rest := [.ref z0]) ⟨hx, hb, hml, hown, hts⟩ (kx_X3_falls_1 l hst dC dI ge5 gea gv5 gva gde gic gi0 h0 h1 z1 z2 z3 z4 z5 z6 z7 z8 z9 z10 z11 s.heap.size i0 i0_l i0_u) (cwV 1 hts gL_falls_X3_falls rfl rfl rfl (by decide +kernel) ⟨Nat.le_of_ble_eq_true rfl, Nat.le_of_ble_eq_true rfl⟩) ⟨fun a U g mk q => by obtain ⟨q0, q1, qP, qK, qD, qG⟩ := q; exact ⟨q0, q1, qP, va_K.moved (u := U) (U := U.calling g mk a) (Vm.Alike.refl U.vm) qK, qD, gv.fb qG⟩, va_recv hKc hPc (ci := 7) (q0 := 0) rfl rfl, fun U hU hW => ⟨rfl, by rw [hU], by rw [hU]; exact hPc, va_K.moved hW.alike hKc, hDc.weaken (fun _ _ _ _ => trivial), gv.pass hW hU hS hFc hG⟩⟩ rfl rfl hl.1 rfl (lv_room (Nat.le_of_ble_eq_true rfl)) dL_falls_3 ⟨Nat.le_of_ble_eq_true rfl, Nat.le_of_ble_eq_true rfl⟩) hS (fun q _ h => hFc q h) hFc (fun q _ h => hFc q h) (fun E ce q9 u t H1 locs ht hvm hpx hB hz1 hk1 hS hce hcv hcl => ?_) (fun r9 u t H1 locs ht hvm hw hB hz1 hk1 hS => hw.elim)
  obtain ⟨rfl, hP1, hK1, hD1⟩ := hB
  rw [ht] at hP1
  have hK1 := va_K.moved hvm.symm hK1
  obtain ⟨hP, hD⟩ := va_join (wr := []) (w1 := [(h0, .inr (7, [.ref z1, .ref h1, .ref z2, .ref z3, .ref z4, .ref z5, .int 0, .int 0, .int 0])), (h1, .inr (5, [.ref z6, .ref z7, .ref z8, .ref z9, .ref z10, .ref z11, .int 0, .int 0]))]) hP hD [0, 1] [] rfl rfl (by decide) (by decide) hk1 hFc hP1 hD1
  generalize H1 = H at hP hS hce ⊢
  have hP : va_P (dC, dI) vwCl [(h0, .inr (7, [.ref z1, .ref h1, .ref z2, .ref z3, .ref z4, .ref z5, .int 0, .int 0, .int 0])), (h1, .inr (5, [.ref z6, .ref z7, .ref z8, .ref z9, .ref z10, .ref z11, .int 0, .int 0]))] H := hP
  have hD : va_D A [(h0, .inr (7, [.ref z1, .ref h1, .ref z2, .ref z3, .ref z4, .ref z5, .int 0, .int 0, .int 0])), (h1, .inr (5, [.ref z6, .ref z7, .ref z8, .ref z9, .ref z10, .ref z11, .int 0, .int 0]))] := hD
  refine vx_catch (own := RL) (name := "java/lang/IndexOutOfBoundsException") hown (tableOf []) ⟨0, 17, 20, 19⟩ (tableOf []) (by rw [htab]; rfl) (fun z hz => nomatch hz) (by decide +kernel) (by decide) (hts (.classLink RL 19 "java/lang/IndexOutOfBoundsException") (by decide +kernel)) (va_Nw.use rfl g_ca_IO) hce hcv hcl ?_
  refine W.eq (g2 := F0 m 20 ls [.ref q9]) rfl ?_
  refine lv_astore_n (lv' := [(3, .ref q9), (0, .ref h0), (1, .int i0), (2, .ref z0)]) hx hb dL_falls_20 rfl hl (by decide) rfl (fun ls hl => ?_)
  refine lv_iconst (v := 1) hx hb dL_falls_21 (by decide) ?_
  exact W.iret (v := 1) hx hb hr (fun t ht hW => ⟨⟨1, (), rfl, rfl, by rw [ht]; exact hP, va_K.moved hW.alike hK, hD⟩, hS.F ht⟩) hS.2.2 dL_falls_22
set_option maxHeartbeats 4000000 in
set_option maxRecDepth 100000 in
theorem kx_X5_falls_1 (l : Launch) (dC : Nat → ClassId) (dI : Nat → Nat → Nat) (ge5 gea gv5 gva gde gic gi0 : Nat) (h0 : Nat) (h1 : Nat) (z0 : Nat) (z1 : Nat) (sz : Nat) (i0 : Int32) (i0_l : (0 : Int) ≤ i0.toInt) (i0_u : i0.toInt ≤ (2147483647 : Int)) : Met l yX5_falls wsX5_falls ({ frames := 2, cells := 0, slots := 0, locals := 43 }) (va_Pc [.ref h0, .int i0] (fun U => U.heap.size = sz ∧ va_P (dC, dI) vwCl [(h0, .inr (9, [.int 0, .ref z0, .ref h1, .ref z1, .int 0, .int 0, .int 0])), (h1, .inr (3, [.int 0, .ref gde, .int 0]))] U.heap ∧ va_K (dC, dI) vwCl [] U ∧ va_D (fun _ => True) [(h0, .inr (9, [.int 0, .ref z0, .ref h1, .ref z1, .int 0, .int 0, .int 0])), (h1, .inr (3, [.int 0, .ref gde, .int 0]))] ∧ gv ge5 gea gv5 gva gde gic gi0 (va_A [(h0, .inr (9, [.int 0, .ref z0, .ref h1, .ref z1, .int 0, .int 0, .int 0])), (h1, .inr (3, [.int 0, .ref gde, .int 0]))] sz) U U.heap)) (va_Qi (fun (r : Int32) (_ : Unit) => r = 0) (fun (_ : Unit) (t : State) => va_P (dC, dI) vwCl [(h0, .inr (9, [.int 1, .ref z0, .ref h1, .ref z1, .int 0, .int 0, .int 0]))] t.heap ∧ va_K (dC, dI) vwCl [] t ∧ va_D (va_A [(h0, .inr (9, [.int 0, .ref z0, .ref h1, .ref z1, .int 0, .int 0, .int 0])), (h1, .inr (3, [.int 0, .ref gde, .int 0]))] sz) [(h0, .inr (9, [.int 1, .ref z0, .ref h1, .ref z1, .int 0, .int 0, .int 0]))]) (va_A [(h0, .inr (9, [.int 0, .ref z0, .ref h1, .ref z1, .int 0, .int 0, .int 0])), (h1, .inr (3, [.int 0, .ref gde, .int 0]))] sz)) 0 0 (va_A [(h0, .inr (9, [.int 0, .ref z0, .ref h1, .ref z1, .int 0, .int 0, .int 0])), (h1, .inr (3, [.int 0, .ref gde, .int 0]))] sz) := by
  refine Met.ofW (cc := cX5_falls) (maxL := 2) (ret := (some .boolean)) (by decide) rfl ?_
  intro p e s m args below meth c s₁ B hml hv
  obtain ⟨rfl, hsz, hP, hK, hD0, hG⟩ := hv
  have hx := B.exec
  have hb := B.bytes
  have hr := B.returns
  have hts := atoms_spec (ws := wsX5_falls) B.pre
  have hown : s.vm.findClass RX5 = some m.cls := findClass_of_methodNamed B.named
  have hlocks := B.notSynchronized
  subst hsz
  have hD := hD0.self (sz := s.heap.size)
  generalize hAe : va_A [(h0, .inr (9, [.int 0, .ref z0, .ref h1, .ref z1, .int 0, .int 0, .int 0])), (h1, .inr (3, [.int 0, .ref gde, .int 0]))] s.heap.size = A at hD hG ⊢
  obtain ⟨⟨g_AO_Text, g_AO_String, g_AO_Object, g_nm_RX1_20, g_nm_RX0_17, g_nm_RX3_31, g_nm_RX2_44, g_nm_RL_121, g_nf_RL_13, g_nf_RL_47, g_ca_IO, g_ca_IA, g_ca_IS, g_ca_IntObj, g_ca_StrObj, g_de_RT, g_de_EX, g_de_TH, g_nc_IA_IO, g_nc_IS_IO, g_nc_IS_IA⟩, ⟨g_s3, g_s5, g_sa, g_x278, g_x280, g_x282, g_x284, g_x286, g_x180, g_x238, g_x250⟩, ⟨g_o5, g_c5, g_v5, g_t5, g_oa, g_ca, g_va, g_ta, g_zc, g_zd, g_td, g_zf, g_zU, g_zN, g_zh, g_zk, g_tk, g_oi, g_vi⟩⟩ := id hG
  have hA : ∀ q : Nat, s.heap.size ≤ q → A q := fun q h => by rw [← hAe]; exact Or.inr h
  have hS : va_S A s.heap s.heap [] := va_S.rf
  have hP : va_P (dC, dI) vwCl [(h0, .inr (9, [.int 0, .ref z0, .ref h1, .ref z1, .int 0, .int 0, .int 0])), (h1, .inr (3, [.int 0, .ref gde, .int 0]))] s.heap := hP
  have hl := lv_entry ([.ref h0, .int i0]) (n := 2) (Nat.le_of_ble_eq_true rfl)
  rw [lg_entry_eq]
  generalize (lg_sl ([.ref h0, .int i0]) ++ List.replicate (2 - (lg_sl ([.ref h0, .int i0])).length) Slot.unset).toArray = ls at hl ⊢
  have hl : lv_has ls 2 [(0, .ref h0), (1, .int i0)] := hl
  refine lv_aload_n hx hb dX5_falls_0 rfl (lv_at hl 0 rfl) ?_
  refine lv_aload_n hx hb dX5_falls_1 rfl (lv_at hl 0 rfl) ?_
  refine lv_iload_n hx hb dX5_falls_2 rfl (lv_at hl 1 rfl) ?_
  have hPc := hP.sub (ws' := [(h0, .inr (9, [.int 0, .ref z0, .ref h1, .ref z1, .int 0, .int 0, .int 0])), (h1, .inr (3, [.int 0, .ref gde, .int 0]))]) [0, 1] rfl
  have hDc := hD.sub (ws' := [(h0, .inr (9, [.int 0, .ref z0, .ref h1, .ref z1, .int 0, .int 0, .int 0])), (h1, .inr (3, [.int 0, .ref gde, .int 0]))]) [0, 1] (by decide) rfl
  have hKc := hK.sub (tys' := []) [] rfl
  have hFc := va_free (wc := [(h0, .inr (9, [.int 0, .ref z0, .ref h1, .ref z1, .int 0, .int 0, .int 0])), (h1, .inr (3, [.int 0, .ref gde, .int 0]))]) hD hS hA [0, 1] rfl
  refine va_calli (va_runV (As := [.int i0]) (rest := [.ref h0]) ⟨hx, hb, hml, hown, hts⟩ (kx_X5_isNoRule_1 l dC dI ge5 gea gv5 gva gde gic gi0 h0 h1 z0 z1 s.heap.size i0 i0_l i0_u) (cwV 1 hts gX5_falls_X5_isNoRule rfl rfl rfl (by decide +kernel) ⟨Nat.le_of_ble_eq_true rfl, Nat.le_of_ble_eq_true rfl⟩) ⟨fun a U g mk q => by obtain ⟨q0, q1, qP, qK, qD, qG⟩ := q; exact ⟨q0, q1, qP, va_K.moved (u := U) (U := U.calling g mk a) (Vm.Alike.refl U.vm) qK, qD, gv.fb qG⟩, va_recv hKc hPc (ci := 9) (q0 := 0) rfl rfl, fun U hU hW => ⟨rfl, by rw [hU], by rw [hU]; exact hPc, va_K.moved hW.alike hKc, hDc.weaken (fun _ _ _ _ => trivial), gv.pass hW hU hS hFc hG⟩⟩ rfl rfl hl.1 rfl (lv_room (Nat.le_of_ble_eq_true rfl)) dX5_falls_3 ⟨Nat.le_of_ble_eq_true rfl, Nat.le_of_ble_eq_true rfl⟩) hS (fun q _ h => hFc q h) hFc (fun r9 u t H1 locs ht hvm hw hB hz1 hk1 hS => ?_)
  obtain rfl := hw
  obtain ⟨hP1, hK1, hD1⟩ := hB
  rw [ht] at hP1
  have hK1 := va_K.moved hvm.symm hK1
  obtain ⟨hP, hD⟩ := va_join (wr := []) (w1 := [(h0, .inr (9, [.int 0, .ref z0, .ref h1, .ref z1, .int 0, .int 0, .int 0])), (h1, .inr (3, [.int 0, .ref gde, .int 0]))]) hP hD [0, 1] [] rfl rfl (by decide) (by decide) hk1 hFc hP1 hD1
  generalize H1 = H at hP hS ⊢
  have hP : va_P (dC, dI) vwCl [(h0, .inr (9, [.int 0, .ref z0, .ref h1, .ref z1, .int 0, .int 0, .int 0])), (h1, .inr (3, [.int 0, .ref gde, .int 0]))] H := hP
  have hD : va_D A [(h0, .inr (9, [.int 0, .ref z0, .ref h1, .ref z1, .int 0, .int 0, .int 0])), (h1, .inr (3, [.int 0, .ref gde, .int 0]))] := hD
  refine lv_iconst (v := 0) hx hb dX5_falls_6 (by decide) ?_
  refine lv_iconst (v := 0) hx hb dX5_falls_7 (by decide) ?_
  have hPc := hP.sub (ws' := [(h0, .inr (9, [.int 0, .ref z0, .ref h1, .ref z1, .int 0, .int 0, .int 0]))]) [0] rfl
  have hDc := hD.sub (ws' := [(h0, .inr (9, [.int 0, .ref z0, .ref h1, .ref z1, .int 0, .int 0, .int 0]))]) [0] (by decide) rfl
  have hKc := hK.sub (tys' := []) [] rfl
  have hFc := va_free (wc := [(h0, .inr (9, [.int 0, .ref z0, .ref h1, .ref z1, .int 0, .int 0, .int 0]))]) hD hS hA [0] rfl
  refine va_calli (va_runV (As := [.int 1, .int 0, .int 0]) (rest := []) ⟨hx, hb, hml, hown, hts⟩ (kx_X5_fails_0 l dC dI h0 z0 h1 z1 H.size) (cwV 3 hts gX5_falls_X5_fails rfl rfl rfl (by decide +kernel) ⟨Nat.le_of_ble_eq_true rfl, Nat.le_of_ble_eq_true rfl⟩) ⟨fun a U g mk q => by obtain ⟨q0, q1, qP, qK, qD⟩ := q; exact ⟨q0, q1, qP, va_K.moved (u := U) (U := U.calling g mk a) (Vm.Alike.refl U.vm) qK, qD⟩, va_recv hKc hPc (ci := 9) (q0 := 0) rfl rfl, fun U hU hW => ⟨rfl, by rw [hU], by rw [hU]; exact hPc, va_K.moved hW.alike hKc, hDc.weaken (fun _ _ _ _ => trivial)⟩⟩ rfl rfl hl.1 rfl (lv_room (Nat.le_of_ble_eq_true rfl)) dX5_falls_8 ⟨Nat.le_of_ble_eq_true rfl, Nat.le_of_ble_eq_true rfl⟩) hS (fun q _ h => hFc q h) hFc (fun r9 u t H1 locs ht hvm hw hB hz1 hk1 hS => ?_)
  obtain rfl := hw
  obtain ⟨hP1, hK1, hD1⟩ := hB
  rw [ht] at hP1
  have hK1 := va_K.moved hvm.symm hK1
  obtain ⟨hP, hD⟩ := va_join (wr := [(h1, .inr (3, [.int 0, .ref gde, .int 0]))]) (w1 := [(h0, .inr (9, [.int 1, .ref z0, .ref h1, .ref z1, .int 0, .int 0, .int 0]))]) hP hD [0] [1] rfl rfl (by decide) (by decide) hk1 hFc hP1 hD1
  generalize H1 = H at hP hS ⊢
  have hP : va_P (dC, dI) vwCl [(h1, .inr (3, [.int 0, .ref gde, .int 0])), (h0, .inr (9, [.int 1, .ref z0, .ref h1, .ref z1, .int 0, .int 0, .int 0]))] H := hP
  have hD : va_D A [(h1, .inr (3, [.int 0, .ref gde, .int 0])), (h0, .inr (9, [.int 1, .ref z0, .ref h1, .ref z1, .int 0, .int 0, .int 0]))] := hD
  refine lv_if_ne (tgt := 26) hx hb dX5_falls_11 (by decide) (fun _ => ?_) (fun c9 => absurd c9 (by decide))
  refine lv_iconst (v := 0) hx hb dX5_falls_26 (by decide) ?_
  have hP := hP.sub (ws' := [(h0, .inr (9, [.int 1, .ref z0, .ref h1, .ref z1, .int 0, .int 0, .int 0])), (h1, .inr (3, [.int 0, .ref gde, .int 0]))]) [1, 0] rfl
  have hD := hD.sub (ws' := [(h0, .inr (9, [.int 1, .ref z0, .ref h1, .ref z1, .int 0, .int 0, .int 0])), (h1, .inr (3, [.int 0, .ref gde, .int 0]))]) [1, 0] (by decide) rfl
  have hP := hP.sub (ws' := [(h0, .inr (9, [.int 1, .ref z0, .ref h1, .ref z1, .int 0, .int 0, .int 0]))]) [0] rfl
  have hD := hD.sub (ws' := [(h0, .inr (9, [.int 1, .ref z0, .ref h1, .ref z1, .int 0, .int 0, .int 0]))]) [0] (by decide) rfl
  exact W.zret (v := 0) hx hb hr (by decide) (fun t ht hW => ⟨⟨0, (), rfl, rfl, by rw [ht]; exact hP, va_K.moved hW.alike hK, hD⟩, hS.F ht⟩) hS.2.2 dX5_falls_27
set_option maxHeartbeats 4000000 in
set_option maxRecDepth 100000 in
theorem kx_X1_areAllFalling_0 (l : Launch) (dC : Nat → ClassId) (dI : Nat → Nat → Nat) (h0 : Nat) (z0 : Nat) (z1 : Nat) (z2 : Nat) (z3 : Nat) (z4 : Nat) (z5 : Nat) (sz : Nat) : Met l yX1_areAllFalling wsX1_areAllFalling ({ frames := 0, cells := 0, slots := 0, locals := 0 }) (va_Pc [.ref h0] (fun U => U.heap.size = sz ∧ va_P (dC, dI) vwCl [(h0, .inr (5, [.ref z0, .ref z1, .ref z2, .ref z3, .ref z4, .ref z5, .int 0, .int 0]))] U.heap ∧ va_K (dC, dI) vwCl [] U ∧ va_D (fun _ => True) [(h0, .inr (5, [.ref z0, .ref z1, .ref z2, .ref z3, .ref z4, .ref z5, .int 0, .int 0]))])) (va_Qi (fun (r : Int32) (_ : Unit) => r = 1) (fun (_ : Unit) (t : State) => va_P (dC, dI) vwCl [(h0, .inr (5, [.ref z0, .ref z1, .ref z2, .ref z3, .ref z4, .ref z5, .int 0, .int 0]))] t.heap ∧ va_K (dC, dI) vwCl [] t ∧ va_D (va_A [(h0, .inr (5, [.ref z0, .ref z1, .ref z2, .ref z3, .ref z4, .ref z5, .int 0, .int 0]))] sz) [(h0, .inr (5, [.ref z0, .ref z1, .ref z2, .ref z3, .ref z4, .ref z5, .int 0, .int 0]))]) (va_A [(h0, .inr (5, [.ref z0, .ref z1, .ref z2, .ref z3, .ref z4, .ref z5, .int 0, .int 0]))] sz)) 0 0 (va_A [(h0, .inr (5, [.ref z0, .ref z1, .ref z2, .ref z3, .ref z4, .ref z5, .int 0, .int 0]))] sz) := by
  refine Met.ofW (cc := cX1_areAllFalling) (maxL := 2) (ret := (some .boolean)) (by decide) rfl ?_
  intro p e s m args below meth c s₁ B hml hv
  obtain ⟨rfl, hsz, hP, hK, hD0⟩ := hv
  have hx := B.exec
  have hb := B.bytes
  have hr := B.returns
  have hts := atoms_spec (ws := wsX1_areAllFalling) B.pre
  have hown : s.vm.findClass RX1 = some m.cls := findClass_of_methodNamed B.named
  have hlocks := B.notSynchronized
  subst hsz
  have hD := hD0.self (sz := s.heap.size)
  generalize hAe : va_A [(h0, .inr (5, [.ref z0, .ref z1, .ref z2, .ref z3, .ref z4, .ref z5, .int 0, .int 0]))] s.heap.size = A at hD ⊢
  have hA : ∀ q : Nat, s.heap.size ≤ q → A q := fun q h => by rw [← hAe]; exact Or.inr h
  have hS : va_S A s.heap s.heap [] := va_S.rf
  have hP : va_P (dC, dI) vwCl [(h0, .inr (5, [.ref z0, .ref z1, .ref z2, .ref z3, .ref z4, .ref z5, .int 0, .int 0]))] s.heap := hP
  have hl := lv_entry ([.ref h0]) (n := 2) (Nat.le_of_ble_eq_true rfl)
  rw [lg_entry_eq]
  generalize (lg_sl ([.ref h0]) ++ List.replicate (2 - (lg_sl ([.ref h0])).length) Slot.unset).toArray = ls at hl ⊢
  have hl : lv_has ls 2 [(0, .ref h0)] := hl
  refine lv_iconst (v := 0) hx hb dX1_areAllFalling_0 (by decide) ?_
  refine lv_istore_n (lv' := [(1, .int 0), (0, .ref h0)]) hx hb dX1_areAllFalling_1 rfl hl (by decide) rfl (fun ls hl => ?_)
  refine lv_iload_n hx hb dX1_areAllFalling_2 rfl (lv_at hl 0 rfl) ?_
  refine lv_aload_n hx hb dX1_areAllFalling_3 rfl (lv_at hl 1 rfl) ?_
  refine va_get (D := (dC, dI)) (ci := 5) (v := .int 0) (C := RX1) (T := TX1) (N := 8) hx hb hts (by decide +kernel) hown hK hP 0 rfl rfl 6 (by decide) (hts (.fieldLink RX1 34 "Rewriterope$RuleBook" "size" "I") (by decide +kernel)) (fun _ h9 => h9) rfl dX1_areAllFalling_4 ?_
  refine lv_icmp_ge (tgt := 26) hx hb dX1_areAllFalling_7 (by decide) (fun _ => ?_) (fun c9 => absurd (by decide) c9)
  refine lv_iconst (v := 1) hx hb dX1_areAllFalling_26 (by decide) ?_
  exact W.zret (v := 1) hx hb hr (by decide) (fun t ht hW => ⟨⟨1, (), rfl, rfl, by rw [ht]; exact hP, va_K.moved hW.alike hK, hD⟩, hS.F ht⟩) hS.2.2 dX1_areAllFalling_27
set_option maxHeartbeats 4000000 in
set_option maxRecDepth 100000 in
theorem kx_X3_areFalling_0 (l : Launch) (dC : Nat → ClassId) (dI : Nat → Nat → Nat) (h0 : Nat) (h1 : Nat) (z0 : Nat) (z1 : Nat) (z2 : Nat) (z3 : Nat) (z4 : Nat) (z5 : Nat) (z6 : Nat) (z7 : Nat) (z8 : Nat) (z9 : Nat) (z10 : Nat) (sz : Nat) : Met l yX3_areFalling wsX3_areFalling ({ frames := 1, cells := 0, slots := 0, locals := 21 }) (va_Pc [.ref h0] (fun U => U.heap.size = sz ∧ va_P (dC, dI) vwCl [(h0, .inr (7, [.ref z0, .ref h1, .ref z1, .ref z2, .ref z3, .ref z4, .int 0, .int 0, .int 0])), (h1, .inr (5, [.ref z5, .ref z6, .ref z7, .ref z8, .ref z9, .ref z10, .int 0, .int 0]))] U.heap ∧ va_K (dC, dI) vwCl [] U ∧ va_D (fun _ => True) [(h0, .inr (7, [.ref z0, .ref h1, .ref z1, .ref z2, .ref z3, .ref z4, .int 0, .int 0, .int 0])), (h1, .inr (5, [.ref z5, .ref z6, .ref z7, .ref z8, .ref z9, .ref z10, .int 0, .int 0]))])) (va_Qi (fun (r : Int32) (_ : Unit) => r = 1) (fun (_ : Unit) (t : State) => va_P (dC, dI) vwCl [(h0, .inr (7, [.ref z0, .ref h1, .ref z1, .ref z2, .ref z3, .ref z4, .int 0, .int 0, .int 0])), (h1, .inr (5, [.ref z5, .ref z6, .ref z7, .ref z8, .ref z9, .ref z10, .int 0, .int 0]))] t.heap ∧ va_K (dC, dI) vwCl [] t ∧ va_D (va_A [(h0, .inr (7, [.ref z0, .ref h1, .ref z1, .ref z2, .ref z3, .ref z4, .int 0, .int 0, .int 0])), (h1, .inr (5, [.ref z5, .ref z6, .ref z7, .ref z8, .ref z9, .ref z10, .int 0, .int 0]))] sz) [(h0, .inr (7, [.ref z0, .ref h1, .ref z1, .ref z2, .ref z3, .ref z4, .int 0, .int 0, .int 0])), (h1, .inr (5, [.ref z5, .ref z6, .ref z7, .ref z8, .ref z9, .ref z10, .int 0, .int 0]))]) (va_A [(h0, .inr (7, [.ref z0, .ref h1, .ref z1, .ref z2, .ref z3, .ref z4, .int 0, .int 0, .int 0])), (h1, .inr (5, [.ref z5, .ref z6, .ref z7, .ref z8, .ref z9, .ref z10, .int 0, .int 0]))] sz)) 0 0 (va_A [(h0, .inr (7, [.ref z0, .ref h1, .ref z1, .ref z2, .ref z3, .ref z4, .int 0, .int 0, .int 0])), (h1, .inr (5, [.ref z5, .ref z6, .ref z7, .ref z8, .ref z9, .ref z10, .int 0, .int 0]))] sz) := by
  refine Met.ofW (cc := cX3_areFalling) (maxL := 1) (ret := (some .boolean)) (by decide) rfl ?_
  intro p e s m args below meth c s₁ B hml hv
  obtain ⟨rfl, hsz, hP, hK, hD0⟩ := hv
  have hx := B.exec
  have hb := B.bytes
  have hr := B.returns
  have hts := atoms_spec (ws := wsX3_areFalling) B.pre
  have hown : s.vm.findClass RX3 = some m.cls := findClass_of_methodNamed B.named
  have hlocks := B.notSynchronized
  subst hsz
  have hD := hD0.self (sz := s.heap.size)
  generalize hAe : va_A [(h0, .inr (7, [.ref z0, .ref h1, .ref z1, .ref z2, .ref z3, .ref z4, .int 0, .int 0, .int 0])), (h1, .inr (5, [.ref z5, .ref z6, .ref z7, .ref z8, .ref z9, .ref z10, .int 0, .int 0]))] s.heap.size = A at hD ⊢
  have hA : ∀ q : Nat, s.heap.size ≤ q → A q := fun q h => by rw [← hAe]; exact Or.inr h
  have hS : va_S A s.heap s.heap [] := va_S.rf
  have hP : va_P (dC, dI) vwCl [(h0, .inr (7, [.ref z0, .ref h1, .ref z1, .ref z2, .ref z3, .ref z4, .int 0, .int 0, .int 0])), (h1, .inr (5, [.ref z5, .ref z6, .ref z7, .ref z8, .ref z9, .ref z10, .int 0, .int 0]))] s.heap := hP
  have hl := lv_entry ([.ref h0]) (n := 1) (Nat.le_of_ble_eq_true rfl)
  rw [lg_entry_eq]
  generalize (lg_sl ([.ref h0]) ++ List.replicate (1 - (lg_sl ([.ref h0])).length) Slot.unset).toArray = ls at hl ⊢
  have hl : lv_has ls 1 [(0, .ref h0)] := hl
  refine lv_aload_n hx hb dX3_areFalling_0 rfl (lv_at hl 0 rfl) ?_
  refine va_get (D := (dC, dI)) (ci := 7) (v := .ref h1) (C := RX3) (T := TX3) (N := 9) hx hb hts (by decide +kernel) hown hK hP 0 rfl rfl 1 (by decide) (hts (.fieldLink RX3 18 "Rewriterope" "book" "LRewriterope$RuleBook;") (by decide +kernel)) (fun _ h9 => h9) rfl dX3_areFalling_1 ?_
  have hPc := hP.sub (ws' := [(h1, .inr (5, [.ref z5, .ref z6, .ref z7, .ref z8, .ref z9, .ref z10, .int 0, .int 0]))]) [1] rfl
  have hDc := hD.sub (ws' := [(h1, .inr (5, [.ref z5, .ref z6, .ref z7, .ref z8, .ref z9, .ref z10, .int 0, .int 0]))]) [1] (by decide) rfl
  have hKc := hK.sub (tys' := []) [] rfl
  have hFc := va_free (wc := [(h1, .inr (5, [.ref z5, .ref z6, .ref z7, .ref z8, .ref z9, .ref z10, .int 0, .int 0]))]) hD hS hA [1] rfl
  refine va_calli (va_runV (As := []) (rest := []) ⟨hx, hb, hml, hown, hts⟩ (kx_X1_areAllFalling_0 l dC dI h1 z5 z6 z7 z8 z9 z10 s.heap.size) (cwV 0 hts gX3_areFalling_X1_areAllFalling rfl rfl rfl (by decide +kernel) ⟨Nat.le_of_ble_eq_true rfl, Nat.le_of_ble_eq_true rfl⟩) ⟨fun a U g mk q => by obtain ⟨q0, q1, qP, qK, qD⟩ := q; exact ⟨q0, q1, qP, va_K.moved (u := U) (U := U.calling g mk a) (Vm.Alike.refl U.vm) qK, qD⟩, va_recv hKc hPc (ci := 5) (q0 := 0) rfl rfl, fun U hU hW => ⟨rfl, by rw [hU], by rw [hU]; exact hPc, va_K.moved hW.alike hKc, hDc.weaken (fun _ _ _ _ => trivial)⟩⟩ rfl rfl hl.1 rfl (lv_room (Nat.le_of_ble_eq_true rfl)) dX3_areFalling_4 ⟨Nat.le_of_ble_eq_true rfl, Nat.le_of_ble_eq_true rfl⟩) hS (fun q _ h => hFc q h) hFc (fun r9 u t H1 locs ht hvm hw hB hz1 hk1 hS => ?_)
  obtain rfl := hw
  obtain ⟨hP1, hK1, hD1⟩ := hB
  rw [ht] at hP1
  have hK1 := va_K.moved hvm.symm hK1
  obtain ⟨hP, hD⟩ := va_join (wr := [(h0, .inr (7, [.ref z0, .ref h1, .ref z1, .ref z2, .ref z3, .ref z4, .int 0, .int 0, .int 0]))]) (w1 := [(h1, .inr (5, [.ref z5, .ref z6, .ref z7, .ref z8, .ref z9, .ref z10, .int 0, .int 0]))]) hP hD [1] [0] rfl rfl (by decide) (by decide) hk1 hFc hP1 hD1
  generalize H1 = H at hP hS ⊢
  have hP : va_P (dC, dI) vwCl [(h0, .inr (7, [.ref z0, .ref h1, .ref z1, .ref z2, .ref z3, .ref z4, .int 0, .int 0, .int 0])), (h1, .inr (5, [.ref z5, .ref z6, .ref z7, .ref z8, .ref z9, .ref z10, .int 0, .int 0]))] H := hP
  have hD : va_D A [(h0, .inr (7, [.ref z0, .ref h1, .ref z1, .ref z2, .ref z3, .ref z4, .int 0, .int 0, .int 0])), (h1, .inr (5, [.ref z5, .ref z6, .ref z7, .ref z8, .ref z9, .ref z10, .int 0, .int 0]))] := hD
  exact W.zret (v := 1) hx hb hr (by decide) (fun t ht hW => ⟨⟨1, (), rfl, rfl, by rw [ht]; exact hP, va_K.moved hW.alike hK, hD⟩, hS.F ht⟩) hS.2.2 dX3_areFalling_7
set_option maxHeartbeats 4000000 in
set_option maxRecDepth 100000 in
theorem kx_X5_areAllFalling_0 (l : Launch) (dC : Nat → ClassId) (dI : Nat → Nat → Nat) (ge5 gea gv5 gva gde gic gi0 : Nat) (h0 : Nat) (h1 : Nat) (z0 : Nat) (z1 : Nat) (sz : Nat) : Met l yX5_areAllFalling wsX5_areAllFalling ({ frames := 1, cells := 0, slots := 0, locals := 20 }) (va_Pc [.ref h0] (fun U => U.heap.size = sz ∧ va_P (dC, dI) vwCl [(h0, .inr (9, [.int 0, .ref z0, .ref h1, .ref z1, .int 0, .int 0, .int 0])), (h1, .inr (3, [.int 0, .ref gde, .int 0]))] U.heap ∧ va_K (dC, dI) vwCl [] U ∧ va_D (fun _ => True) [(h0, .inr (9, [.int 0, .ref z0, .ref h1, .ref z1, .int 0, .int 0, .int 0])), (h1, .inr (3, [.int 0, .ref gde, .int 0]))] ∧ gv ge5 gea gv5 gva gde gic gi0 (va_A [(h0, .inr (9, [.int 0, .ref z0, .ref h1, .ref z1, .int 0, .int 0, .int 0])), (h1, .inr (3, [.int 0, .ref gde, .int 0]))] sz) U U.heap)) (va_Qi (fun (r : Int32) (_ : Unit) => r = 1) (fun (_ : Unit) (t : State) => va_P (dC, dI) vwCl [(h0, .inr (9, [.int 0, .ref z0, .ref h1, .ref z1, .int 0, .int 0, .int 0])), (h1, .inr (3, [.int 0, .ref gde, .int 0]))] t.heap ∧ va_K (dC, dI) vwCl [] t ∧ va_D (va_A [(h0, .inr (9, [.int 0, .ref z0, .ref h1, .ref z1, .int 0, .int 0, .int 0])), (h1, .inr (3, [.int 0, .ref gde, .int 0]))] sz) [(h0, .inr (9, [.int 0, .ref z0, .ref h1, .ref z1, .int 0, .int 0, .int 0])), (h1, .inr (3, [.int 0, .ref gde, .int 0]))]) (va_A [(h0, .inr (9, [.int 0, .ref z0, .ref h1, .ref z1, .int 0, .int 0, .int 0])), (h1, .inr (3, [.int 0, .ref gde, .int 0]))] sz)) 0 0 (va_A [(h0, .inr (9, [.int 0, .ref z0, .ref h1, .ref z1, .int 0, .int 0, .int 0])), (h1, .inr (3, [.int 0, .ref gde, .int 0]))] sz) := by
  refine Met.ofW (cc := cX5_areAllFalling) (maxL := 3) (ret := (some .boolean)) (by decide) rfl ?_
  intro p e s m args below meth c s₁ B hml hv
  obtain ⟨rfl, hsz, hP, hK, hD0, hG⟩ := hv
  have hx := B.exec
  have hb := B.bytes
  have hr := B.returns
  have hts := atoms_spec (ws := wsX5_areAllFalling) B.pre
  have hown : s.vm.findClass RX5 = some m.cls := findClass_of_methodNamed B.named
  have hlocks := B.notSynchronized
  subst hsz
  have hD := hD0.self (sz := s.heap.size)
  generalize hAe : va_A [(h0, .inr (9, [.int 0, .ref z0, .ref h1, .ref z1, .int 0, .int 0, .int 0])), (h1, .inr (3, [.int 0, .ref gde, .int 0]))] s.heap.size = A at hD hG ⊢
  obtain ⟨⟨g_AO_Text, g_AO_String, g_AO_Object, g_nm_RX1_20, g_nm_RX0_17, g_nm_RX3_31, g_nm_RX2_44, g_nm_RL_121, g_nf_RL_13, g_nf_RL_47, g_ca_IO, g_ca_IA, g_ca_IS, g_ca_IntObj, g_ca_StrObj, g_de_RT, g_de_EX, g_de_TH, g_nc_IA_IO, g_nc_IS_IO, g_nc_IS_IA⟩, ⟨g_s3, g_s5, g_sa, g_x278, g_x280, g_x282, g_x284, g_x286, g_x180, g_x238, g_x250⟩, ⟨g_o5, g_c5, g_v5, g_t5, g_oa, g_ca, g_va, g_ta, g_zc, g_zd, g_td, g_zf, g_zU, g_zN, g_zh, g_zk, g_tk, g_oi, g_vi⟩⟩ := id hG
  have hA : ∀ q : Nat, s.heap.size ≤ q → A q := fun q h => by rw [← hAe]; exact Or.inr h
  have hS : va_S A s.heap s.heap [] := va_S.rf
  have hP : va_P (dC, dI) vwCl [(h0, .inr (9, [.int 0, .ref z0, .ref h1, .ref z1, .int 0, .int 0, .int 0])), (h1, .inr (3, [.int 0, .ref gde, .int 0]))] s.heap := hP
  have hl := lv_entry ([.ref h0]) (n := 3) (Nat.le_of_ble_eq_true rfl)
  rw [lg_entry_eq]
  generalize (lg_sl ([.ref h0]) ++ List.replicate (3 - (lg_sl ([.ref h0])).length) Slot.unset).toArray = ls at hl ⊢
  have hl : lv_has ls 3 [(0, .ref h0)] := hl
  refine lv_iconst (v := 1) hx hb dX5_areAllFalling_0 (by decide) ?_
  refine lv_istore_n (lv' := [(1, .int 1), (0, .ref h0)]) hx hb dX5_areAllFalling_1 rfl hl (by decide) rfl (fun ls hl => ?_)
  refine lv_iconst (v := 0) hx hb dX5_areAllFalling_2 (by decide) ?_
  refine lv_istore_n (lv' := [(2, .int 0), (1, .int 1), (0, .ref h0)]) hx hb dX5_areAllFalling_3 rfl hl (by decide) rfl (fun ls hl => ?_)
  refine lv_iload_n hx hb dX5_areAllFalling_4 rfl (lv_at hl 0 rfl) ?_
  refine lv_aload_n hx hb dX5_areAllFalling_5 rfl (lv_at hl 2 rfl) ?_
  refine va_get (D := (dC, dI)) (ci := 9) (v := .ref h1) (C := RX5) (T := TX5) (N := 7) hx hb hts (by decide +kernel) hown hK hP 0 rfl rfl 2 (by decide) (hts (.fieldLink RX5 20 "RewriteropeModel" "lefts" "Ljava/util/ArrayList;") (by decide +kernel)) (fun _ h9 => h9) rfl dX5_areAllFalling_6 ?_
  have hPc := hP.sub (ws' := [(h1, .inr (3, [.int 0, .ref gde, .int 0]))]) [1] rfl
  have hDc := hD.sub (ws' := [(h1, .inr (3, [.int 0, .ref gde, .int 0]))]) [1] (by decide) rfl
  have hKc := hK.sub (tys' := []) [] rfl
  have hFc := va_free (wc := [(h1, .inr (3, [.int 0, .ref gde, .int 0]))]) hD hS hA [1] rfl
  refine va_calli (va_runV (As := []) (rest := [.int 0]) ⟨hx, hb, hml, hown, hts⟩ (kx_Jx4a65c_size_8abf5_1 l dC dI ge5 gea gv5 gva gde gic gi0 h1 s.heap.size) (cwV 0 hts gX5_areAllFalling_Jx4a65c_size_8abf5 rfl rfl rfl (by decide +kernel) ⟨Nat.le_of_ble_eq_true rfl, Nat.le_of_ble_eq_true rfl⟩) ⟨fun a U g mk q => by obtain ⟨q0, q1, qP, qK, qD, qG⟩ := q; exact ⟨q0, q1, qP, va_K.moved (u := U) (U := U.calling g mk a) (Vm.Alike.refl U.vm) qK, qD, gv.fb qG⟩, va_recv hKc hPc (ci := 3) (q0 := 0) rfl rfl, fun U hU hW => ⟨rfl, by rw [hU], by rw [hU]; exact hPc, va_K.moved hW.alike hKc, hDc.weaken (fun _ _ _ _ => trivial), gv.pass hW hU hS hFc hG⟩⟩ rfl rfl hl.1 rfl (lv_room (Nat.le_of_ble_eq_true rfl)) dX5_areAllFalling_9 ⟨Nat.le_of_ble_eq_true rfl, Nat.le_of_ble_eq_true rfl⟩) hS (fun q _ h => hFc q h) hFc (fun r9 u t H1 locs ht hvm hw hB hz1 hk1 hS => ?_)
  obtain rfl := hw
  obtain ⟨hP1, hK1, hD1⟩ := hB
  rw [ht] at hP1
  have hK1 := va_K.moved hvm.symm hK1
  obtain ⟨hP, hD⟩ := va_join (wr := [(h0, .inr (9, [.int 0, .ref z0, .ref h1, .ref z1, .int 0, .int 0, .int 0]))]) (w1 := [(h1, .inr (3, [.int 0, .ref gde, .int 0]))]) hP hD [1] [0] rfl rfl (by decide) (by decide) hk1 hFc hP1 hD1
  generalize H1 = H at hP hS ⊢
  have hP : va_P (dC, dI) vwCl [(h0, .inr (9, [.int 0, .ref z0, .ref h1, .ref z1, .int 0, .int 0, .int 0])), (h1, .inr (3, [.int 0, .ref gde, .int 0]))] H := hP
  have hD : va_D A [(h0, .inr (9, [.int 0, .ref z0, .ref h1, .ref z1, .int 0, .int 0, .int 0])), (h1, .inr (3, [.int 0, .ref gde, .int 0]))] := hD
  refine lv_icmp_ge (tgt := 29) hx hb dX5_areAllFalling_12 (by decide) (fun _ => ?_) (fun c9 => absurd (by decide) c9)
  refine lv_iload_n hx hb dX5_areAllFalling_29 rfl (lv_at hl 1 rfl) ?_
  exact W.zret (v := 1) hx hb hr (by decide) (fun t ht hW => ⟨⟨1, (), rfl, rfl, by rw [ht]; exact hP, va_K.moved hW.alike hK, hD⟩, hS.F ht⟩) hS.2.2 dX5_areAllFalling_30
set_option maxHeartbeats 4000000 in
set_option maxRecDepth 100000 in
theorem kx_X5_areFalling_0 (l : Launch) (dC : Nat → ClassId) (dI : Nat → Nat → Nat) (ge5 gea gv5 gva gde gic gi0 : Nat) (h0 : Nat) (h1 : Nat) (z0 : Nat) (z1 : Nat) (sz : Nat) : Met l yX5_areFalling wsX5_areFalling ({ frames := 2, cells := 0, slots := 0, locals := 42 }) (va_Pc [.ref h0] (fun U => U.heap.size = sz ∧ va_P (dC, dI) vwCl [(h0, .inr (9, [.int 0, .ref z0, .ref h1, .ref z1, .int 0, .int 0, .int 0])), (h1, .inr (3, [.int 0, .ref gde, .int 0]))] U.heap ∧ va_K (dC, dI) vwCl [] U ∧ va_D (fun _ => True) [(h0, .inr (9, [.int 0, .ref z0, .ref h1, .ref z1, .int 0, .int 0, .int 0])), (h1, .inr (3, [.int 0, .ref gde, .int 0]))] ∧ gv ge5 gea gv5 gva gde gic gi0 (va_A [(h0, .inr (9, [.int 0, .ref z0, .ref h1, .ref z1, .int 0, .int 0, .int 0])), (h1, .inr (3, [.int 0, .ref gde, .int 0]))] sz) U U.heap)) (va_Qi (fun (r : Int32) (_ : Unit) => r = 1) (fun (_ : Unit) (t : State) => va_P (dC, dI) vwCl [(h0, .inr (9, [.int 0, .ref z0, .ref h1, .ref z1, .int 0, .int 0, .int 0]))] t.heap ∧ va_K (dC, dI) vwCl [] t ∧ va_D (va_A [(h0, .inr (9, [.int 0, .ref z0, .ref h1, .ref z1, .int 0, .int 0, .int 0])), (h1, .inr (3, [.int 0, .ref gde, .int 0]))] sz) [(h0, .inr (9, [.int 0, .ref z0, .ref h1, .ref z1, .int 0, .int 0, .int 0]))]) (va_A [(h0, .inr (9, [.int 0, .ref z0, .ref h1, .ref z1, .int 0, .int 0, .int 0])), (h1, .inr (3, [.int 0, .ref gde, .int 0]))] sz)) 0 0 (va_A [(h0, .inr (9, [.int 0, .ref z0, .ref h1, .ref z1, .int 0, .int 0, .int 0])), (h1, .inr (3, [.int 0, .ref gde, .int 0]))] sz) := by
  refine Met.ofW (cc := cX5_areFalling) (maxL := 1) (ret := (some .boolean)) (by decide) rfl ?_
  intro p e s m args below meth c s₁ B hml hv
  obtain ⟨rfl, hsz, hP, hK, hD0, hG⟩ := hv
  have hx := B.exec
  have hb := B.bytes
  have hr := B.returns
  have hts := atoms_spec (ws := wsX5_areFalling) B.pre
  have hown : s.vm.findClass RX5 = some m.cls := findClass_of_methodNamed B.named
  have hlocks := B.notSynchronized
  subst hsz
  have hD := hD0.self (sz := s.heap.size)
  generalize hAe : va_A [(h0, .inr (9, [.int 0, .ref z0, .ref h1, .ref z1, .int 0, .int 0, .int 0])), (h1, .inr (3, [.int 0, .ref gde, .int 0]))] s.heap.size = A at hD hG ⊢
  obtain ⟨⟨g_AO_Text, g_AO_String, g_AO_Object, g_nm_RX1_20, g_nm_RX0_17, g_nm_RX3_31, g_nm_RX2_44, g_nm_RL_121, g_nf_RL_13, g_nf_RL_47, g_ca_IO, g_ca_IA, g_ca_IS, g_ca_IntObj, g_ca_StrObj, g_de_RT, g_de_EX, g_de_TH, g_nc_IA_IO, g_nc_IS_IO, g_nc_IS_IA⟩, ⟨g_s3, g_s5, g_sa, g_x278, g_x280, g_x282, g_x284, g_x286, g_x180, g_x238, g_x250⟩, ⟨g_o5, g_c5, g_v5, g_t5, g_oa, g_ca, g_va, g_ta, g_zc, g_zd, g_td, g_zf, g_zU, g_zN, g_zh, g_zk, g_tk, g_oi, g_vi⟩⟩ := id hG
  have hA : ∀ q : Nat, s.heap.size ≤ q → A q := fun q h => by rw [← hAe]; exact Or.inr h
  have hS : va_S A s.heap s.heap [] := va_S.rf
  have hP : va_P (dC, dI) vwCl [(h0, .inr (9, [.int 0, .ref z0, .ref h1, .ref z1, .int 0, .int 0, .int 0])), (h1, .inr (3, [.int 0, .ref gde, .int 0]))] s.heap := hP
  have hl := lv_entry ([.ref h0]) (n := 1) (Nat.le_of_ble_eq_true rfl)
  rw [lg_entry_eq]
  generalize (lg_sl ([.ref h0]) ++ List.replicate (1 - (lg_sl ([.ref h0])).length) Slot.unset).toArray = ls at hl ⊢
  have hl : lv_has ls 1 [(0, .ref h0)] := hl
  refine lv_aload_n hx hb dX5_areFalling_0 rfl (lv_at hl 0 rfl) ?_
  refine lv_iconst (v := 0) hx hb dX5_areFalling_1 (by decide) ?_
  refine va_put (D := (dC, dI)) (ci := 9) (v := .int 0) (ty := .int) (C := RX5) (T := TX5) (N := 7) hx hb hts (by decide +kernel) tyX5 tyX5_ok nmX5 hown hK hP hD hS 0 rfl rfl 0 (by decide) (hts (.fieldLink RX5 27 "RewriteropeModel" "thrown" "I") (by decide +kernel)) (fun _ h9 => h9) rfl (by decide +kernel) rfl rfl (Nat.le_of_ble_eq_true rfl) dX5_areFalling_2 (fun H locs hP hD hS => ?_)
  have hP : va_P (dC, dI) vwCl [(h0, .inr (9, [.int 0, .ref z0, .ref h1, .ref z1, .int 0, .int 0, .int 0])), (h1, .inr (3, [.int 0, .ref gde, .int 0]))] H := hP
  have hD : va_D A [(h0, .inr (9, [.int 0, .ref z0, .ref h1, .ref z1, .int 0, .int 0, .int 0])), (h1, .inr (3, [.int 0, .ref gde, .int 0]))] := hD
  refine lv_aload_n hx hb dX5_areFalling_5 rfl (lv_at hl 0 rfl) ?_
  have hPc := hP.sub (ws' := [(h0, .inr (9, [.int 0, .ref z0, .ref h1, .ref z1, .int 0, .int 0, .int 0])), (h1, .inr (3, [.int 0, .ref gde, .int 0]))]) [0, 1] rfl
  have hDc := hD.sub (ws' := [(h0, .inr (9, [.int 0, .ref z0, .ref h1, .ref z1, .int 0, .int 0, .int 0])), (h1, .inr (3, [.int 0, .ref gde, .int 0]))]) [0, 1] (by decide) rfl
  have hKc := hK.sub (tys' := []) [] rfl
  have hFc := va_free (wc := [(h0, .inr (9, [.int 0, .ref z0, .ref h1, .ref z1, .int 0, .int 0, .int 0])), (h1, .inr (3, [.int 0, .ref gde, .int 0]))]) hD hS hA [0, 1] rfl
  refine va_calli (va_runV (As := []) (rest := []) ⟨hx, hb, hml, hown, hts⟩ (kx_X5_areAllFalling_0 l dC dI ge5 gea gv5 gva gde gic gi0 h0 h1 z0 z1 H.size) (cwV 0 hts gX5_areFalling_X5_areAllFalling rfl rfl rfl (by decide +kernel) ⟨Nat.le_of_ble_eq_true rfl, Nat.le_of_ble_eq_true rfl⟩) ⟨fun a U g mk q => by obtain ⟨q0, q1, qP, qK, qD, qG⟩ := q; exact ⟨q0, q1, qP, va_K.moved (u := U) (U := U.calling g mk a) (Vm.Alike.refl U.vm) qK, qD, gv.fb qG⟩, va_recv hKc hPc (ci := 9) (q0 := 0) rfl rfl, fun U hU hW => ⟨rfl, by rw [hU], by rw [hU]; exact hPc, va_K.moved hW.alike hKc, hDc.weaken (fun _ _ _ _ => trivial), gv.pass hW hU hS hFc hG⟩⟩ rfl rfl hl.1 rfl (lv_room (Nat.le_of_ble_eq_true rfl)) dX5_areFalling_6 ⟨Nat.le_of_ble_eq_true rfl, Nat.le_of_ble_eq_true rfl⟩) hS (fun q _ h => hFc q h) hFc (fun r9 u t H1 locs ht hvm hw hB hz1 hk1 hS => ?_)
  obtain rfl := hw
  obtain ⟨hP1, hK1, hD1⟩ := hB
  rw [ht] at hP1
  have hK1 := va_K.moved hvm.symm hK1
  obtain ⟨hP, hD⟩ := va_join (wr := []) (w1 := [(h0, .inr (9, [.int 0, .ref z0, .ref h1, .ref z1, .int 0, .int 0, .int 0])), (h1, .inr (3, [.int 0, .ref gde, .int 0]))]) hP hD [0, 1] [] rfl rfl (by decide) (by decide) hk1 hFc hP1 hD1
  generalize H1 = H at hP hS ⊢
  have hP : va_P (dC, dI) vwCl [(h0, .inr (9, [.int 0, .ref z0, .ref h1, .ref z1, .int 0, .int 0, .int 0])), (h1, .inr (3, [.int 0, .ref gde, .int 0]))] H := hP
  have hD : va_D A [(h0, .inr (9, [.int 0, .ref z0, .ref h1, .ref z1, .int 0, .int 0, .int 0])), (h1, .inr (3, [.int 0, .ref gde, .int 0]))] := hD
  have hP := hP.sub (ws' := [(h0, .inr (9, [.int 0, .ref z0, .ref h1, .ref z1, .int 0, .int 0, .int 0]))]) [0] rfl
  have hD := hD.sub (ws' := [(h0, .inr (9, [.int 0, .ref z0, .ref h1, .ref z1, .int 0, .int 0, .int 0]))]) [0] (by decide) rfl
  exact W.zret (v := 1) hx hb hr (by decide) (fun t ht hW => ⟨⟨1, (), rfl, rfl, by rw [ht]; exact hP, va_K.moved hW.alike hK, hD⟩, hS.F ht⟩) hS.2.2 dX5_areFalling_9
set_option maxHeartbeats 4000000 in
set_option maxRecDepth 100000 in
theorem kx_X3_needWay_0 (l : Launch) (dC : Nat → ClassId) (dI : Nat → Nat → Nat) (sz : Nat) (i0 : Int32) (i0_l : (0 : Int) ≤ i0.toInt) (i0_u : i0.toInt ≤ (2 : Int)) : Met l yX3_needWay wsX3_needWay ({ frames := 0, cells := 0, slots := 0, locals := 0 }) (va_Pc [.int i0] (fun U => U.heap.size = sz ∧ va_P (dC, dI) vwCl [] U.heap ∧ va_K (dC, dI) vwCl [] U ∧ va_D (fun _ => True) [])) (va_Qv (fun _ : Unit => True) (fun (_ : Unit) (t : State) => va_P (dC, dI) vwCl [] t.heap ∧ va_K (dC, dI) vwCl [] t ∧ va_D (va_A [] sz) []) (va_A [] sz)) 0 0 (va_A [] sz) := by
  refine Met.ofW (cc := cX3_needWay) (maxL := 1) (ret := none) (by decide) rfl ?_
  intro p e s m args below meth c s₁ B hml hv
  obtain ⟨rfl, hsz, hP, hK, hD0⟩ := hv
  have hx := B.exec
  have hb := B.bytes
  have hr := B.returns
  have hts := atoms_spec (ws := wsX3_needWay) B.pre
  have hown : s.vm.findClass RX3 = some m.cls := findClass_of_methodNamed B.named
  have hlocks := B.notSynchronized
  subst hsz
  have hD := hD0.self (sz := s.heap.size)
  generalize hAe : va_A [] s.heap.size = A at hD ⊢
  have hA : ∀ q : Nat, s.heap.size ≤ q → A q := fun q h => by rw [← hAe]; exact Or.inr h
  have hS : va_S A s.heap s.heap [] := va_S.rf
  have hP : va_P (dC, dI) vwCl [] s.heap := hP
  have hl := lv_entry ([.int i0]) (n := 1) (Nat.le_of_ble_eq_true rfl)
  rw [lg_entry_eq]
  generalize (lg_sl ([.int i0]) ++ List.replicate (1 - (lg_sl ([.int i0])).length) Slot.unset).toArray = ls at hl ⊢
  have hl : lv_has ls 1 [(0, .int i0)] := hl
  refine lv_iload_n hx hb dX3_needWay_0 rfl (lv_at hl 0 rfl) ?_
  refine lv_if_lt (tgt := 9) hx hb dX3_needWay_1 (by decide) (fun c9 => absurd c9 (fun c8 => absurd (Int32.lt_iff_toInt_lt.mp c8) (by rw [show (0 : Int32).toInt = 0 from by decide]; omega))) (fun _ => ?_)
  refine lv_iload_n hx hb dX3_needWay_4 rfl (lv_at hl 0 rfl) ?_
  refine lv_iconst (v := 3) hx hb dX3_needWay_5 (by decide) ?_
  refine lv_icmp_lt (tgt := 20) hx hb dX3_needWay_6 (by decide) (fun _ => ?_) (fun c9 => absurd (Int32.lt_iff_toInt_lt.mpr (by rw [show (3 : Int32).toInt = 3 from by decide]; omega)) c9)
  exact W.vret hx hb hr (fun t ht hW => ⟨⟨(), rfl, trivial, by rw [ht]; exact hP, va_K.moved hW.alike hK, hD⟩, hS.F ht⟩) hS.2.2 dX3_needWay_20
set_option maxHeartbeats 4000000 in
set_option maxRecDepth 100000 in
theorem kx_X1_ruleOf_0 (l : Launch) (dC : Nat → ClassId) (dI : Nat → Nat → Nat) (sz : Nat) : Met l yX1_ruleOf wsX1_ruleOf ({ frames := 0, cells := 0, slots := 0, locals := 0 }) (va_Pc [.int 0] (fun U => U.heap.size = sz ∧ va_P (dC, dI) vwCl [] U.heap ∧ va_K (dC, dI) vwCl [] U ∧ va_D (fun _ => True) [])) (va_Qi (fun (r : Int32) (_ : Unit) => r = 0) (fun (_ : Unit) (t : State) => va_P (dC, dI) vwCl [] t.heap ∧ va_K (dC, dI) vwCl [] t ∧ va_D (va_A [] sz) []) (va_A [] sz)) 0 0 (va_A [] sz) := by
  refine Met.ofW (cc := cX1_ruleOf) (maxL := 1) (ret := (some .int)) (by decide) rfl ?_
  intro p e s m args below meth c s₁ B hml hv
  obtain ⟨rfl, hsz, hP, hK, hD0⟩ := hv
  have hx := B.exec
  have hb := B.bytes
  have hr := B.returns
  have hts := atoms_spec (ws := wsX1_ruleOf) B.pre
  have hown : s.vm.findClass RX1 = some m.cls := findClass_of_methodNamed B.named
  have hlocks := B.notSynchronized
  subst hsz
  have hD := hD0.self (sz := s.heap.size)
  generalize hAe : va_A [] s.heap.size = A at hD ⊢
  have hA : ∀ q : Nat, s.heap.size ≤ q → A q := fun q h => by rw [← hAe]; exact Or.inr h
  have hS : va_S A s.heap s.heap [] := va_S.rf
  have hP : va_P (dC, dI) vwCl [] s.heap := hP
  have hl := lv_entry ([.int 0]) (n := 1) (Nat.le_of_ble_eq_true rfl)
  rw [lg_entry_eq]
  generalize (lg_sl ([.int 0]) ++ List.replicate (1 - (lg_sl ([.int 0])).length) Slot.unset).toArray = ls at hl ⊢
  have hl : lv_has ls 1 [(0, .int 0)] := hl
  refine lv_iload_n hx hb dX1_ruleOf_0 rfl (lv_at hl 0 rfl) ?_
  refine lv_bipush (v := 8) hx hb dX1_ruleOf_1 (by decide) ?_
  refine lv_irem hx hb dX1_ruleOf_3 (by decide) ?_
  refine lv_topi (fun y1 ey1 => ?_)
  obtain rfl : y1 = 0 := ey1.trans (by decide)
  exact W.iret (v := 0) hx hb hr (fun t ht hW => ⟨⟨0, (), rfl, rfl, by rw [ht]; exact hP, va_K.moved hW.alike hK, hD⟩, hS.F ht⟩) hS.2.2 dX1_ruleOf_4
set_option maxHeartbeats 4000000 in
set_option maxRecDepth 100000 in
theorem kx_X1_placeOf_0 (l : Launch) (dC : Nat → ClassId) (dI : Nat → Nat → Nat) (sz : Nat) : Met l yX1_placeOf wsX1_placeOf ({ frames := 0, cells := 0, slots := 0, locals := 0 }) (va_Pc [.int 0] (fun U => U.heap.size = sz ∧ va_P (dC, dI) vwCl [] U.heap ∧ va_K (dC, dI) vwCl [] U ∧ va_D (fun _ => True) [])) (va_Qi (fun (r : Int32) (_ : Unit) => r = 0) (fun (_ : Unit) (t : State) => va_P (dC, dI) vwCl [] t.heap ∧ va_K (dC, dI) vwCl [] t ∧ va_D (va_A [] sz) []) (va_A [] sz)) 0 0 (va_A [] sz) := by
  refine Met.ofW (cc := cX1_placeOf) (maxL := 1) (ret := (some .int)) (by decide) rfl ?_
  intro p e s m args below meth c s₁ B hml hv
  obtain ⟨rfl, hsz, hP, hK, hD0⟩ := hv
  have hx := B.exec
  have hb := B.bytes
  have hr := B.returns
  have hts := atoms_spec (ws := wsX1_placeOf) B.pre
  have hown : s.vm.findClass RX1 = some m.cls := findClass_of_methodNamed B.named
  have hlocks := B.notSynchronized
  subst hsz
  have hD := hD0.self (sz := s.heap.size)
  generalize hAe : va_A [] s.heap.size = A at hD ⊢
  have hA : ∀ q : Nat, s.heap.size ≤ q → A q := fun q h => by rw [← hAe]; exact Or.inr h
  have hS : va_S A s.heap s.heap [] := va_S.rf
  have hP : va_P (dC, dI) vwCl [] s.heap := hP
  have hl := lv_entry ([.int 0]) (n := 1) (Nat.le_of_ble_eq_true rfl)
  rw [lg_entry_eq]
  generalize (lg_sl ([.int 0]) ++ List.replicate (1 - (lg_sl ([.int 0])).length) Slot.unset).toArray = ls at hl ⊢
  have hl : lv_has ls 1 [(0, .int 0)] := hl
  refine lv_iload_n hx hb dX1_placeOf_0 rfl (lv_at hl 0 rfl) ?_
  refine lv_bipush (v := 8) hx hb dX1_placeOf_1 (by decide) ?_
  refine lv_idiv hx hb dX1_placeOf_3 (by decide) ?_
  refine lv_topi (fun y1 ey1 => ?_)
  obtain rfl : y1 = 0 := ey1.trans (by decide)
  exact W.iret (v := 0) hx hb hr (fun t ht hW => ⟨⟨0, (), rfl, rfl, by rw [ht]; exact hP, va_K.moved hW.alike hK, hD⟩, hS.F ht⟩) hS.2.2 dX1_placeOf_4
set_option maxHeartbeats 4000000 in
set_option maxRecDepth 100000 in
theorem kx_X1_spotFrom_0 (l : Launch) (dC : Nat → ClassId) (dI : Nat → Nat → Nat) (h0 : Nat) (h1 : Nat) (z0 : Nat) (z1 : Nat) (z2 : Nat) (z3 : Nat) (z4 : Nat) (z5 : Nat) (z6 : Nat) (sz : Nat) : Met l yX1_spotFrom wsX1_spotFrom ({ frames := 1, cells := 0, slots := 0, locals := 20 }) (va_Pc [.ref h0, .ref h1, .int 0] (fun U => U.heap.size = sz ∧ va_P (dC, dI) vwCl [(h0, .inr (5, [.ref z0, .ref z1, .ref z2, .ref z3, .ref z4, .ref z5, .int 0, .int 0])), (h1, .inr (6, [.ref z6, .int 0]))] U.heap ∧ va_K (dC, dI) vwCl [] U ∧ va_D (fun _ => True) [(h0, .inr (5, [.ref z0, .ref z1, .ref z2, .ref z3, .ref z4, .ref z5, .int 0, .int 0])), (h1, .inr (6, [.ref z6, .int 0]))])) (va_Qi (fun (r : Int32) (_ : Unit) => r = (-1)) (fun (_ : Unit) (t : State) => va_P (dC, dI) vwCl [(h0, .inr (5, [.ref z0, .ref z1, .ref z2, .ref z3, .ref z4, .ref z5, .int 0, .int 0])), (h1, .inr (6, [.ref z6, .int 0]))] t.heap ∧ va_K (dC, dI) vwCl [] t ∧ va_D (va_A [(h0, .inr (5, [.ref z0, .ref z1, .ref z2, .ref z3, .ref z4, .ref z5, .int 0, .int 0])), (h1, .inr (6, [.ref z6, .int 0]))] sz) [(h0, .inr (5, [.ref z0, .ref z1, .ref z2, .ref z3, .ref z4, .ref z5, .int 0, .int 0])), (h1, .inr (6, [.ref z6, .int 0]))]) (va_A [(h0, .inr (5, [.ref z0, .ref z1, .ref z2, .ref z3, .ref z4, .ref z5, .int 0, .int 0])), (h1, .inr (6, [.ref z6, .int 0]))] sz)) 0 0 (va_A [(h0, .inr (5, [.ref z0, .ref z1, .ref z2, .ref z3, .ref z4, .ref z5, .int 0, .int 0])), (h1, .inr (6, [.ref z6, .int 0]))] sz) := by
  refine Met.ofW (cc := cX1_spotFrom) (maxL := 5) (ret := (some .int)) (by decide) rfl ?_
  intro p e s m args below meth c s₁ B hml hv
  obtain ⟨rfl, hsz, hP, hK, hD0⟩ := hv
  have hx := B.exec
  have hb := B.bytes
  have hr := B.returns
  have hts := atoms_spec (ws := wsX1_spotFrom) B.pre
  have hown : s.vm.findClass RX1 = some m.cls := findClass_of_methodNamed B.named
  have hlocks := B.notSynchronized
  subst hsz
  have hD := hD0.self (sz := s.heap.size)
  generalize hAe : va_A [(h0, .inr (5, [.ref z0, .ref z1, .ref z2, .ref z3, .ref z4, .ref z5, .int 0, .int 0])), (h1, .inr (6, [.ref z6, .int 0]))] s.heap.size = A at hD ⊢
  have hA : ∀ q : Nat, s.heap.size ≤ q → A q := fun q h => by rw [← hAe]; exact Or.inr h
  have hS : va_S A s.heap s.heap [] := va_S.rf
  have hP : va_P (dC, dI) vwCl [(h0, .inr (5, [.ref z0, .ref z1, .ref z2, .ref z3, .ref z4, .ref z5, .int 0, .int 0])), (h1, .inr (6, [.ref z6, .int 0]))] s.heap := hP
  have hl := lv_entry ([.ref h0, .ref h1, .int 0]) (n := 5) (Nat.le_of_ble_eq_true rfl)
  rw [lg_entry_eq]
  generalize (lg_sl ([.ref h0, .ref h1, .int 0]) ++ List.replicate (5 - (lg_sl ([.ref h0, .ref h1, .int 0])).length) Slot.unset).toArray = ls at hl ⊢
  have hl : lv_has ls 5 [(0, .ref h0), (1, .ref h1), (2, .int 0)] := hl
  refine lv_iload_n hx hb dX1_spotFrom_0 rfl (lv_at hl 2 rfl) ?_
  have hPc := hP.sub (ws' := []) [] rfl
  have hDc := hD.sub (ws' := []) [] (by decide) rfl
  have hKc := hK.sub (tys' := []) [] rfl
  have hFc := va_free (wc := []) hD hS hA [] rfl
  refine va_calli (va_runS (As := [.int 0]) (rest := []) ⟨hx, hb, hml, hown, hts⟩ (kx_X1_ruleOf_0 l dC dI s.heap.size) (cwS 1 hts gX1_spotFrom_X1_ruleOf rfl rfl rfl (by decide +kernel) ⟨Nat.le_of_ble_eq_true rfl, Nat.le_of_ble_eq_true rfl⟩) ⟨fun a U g mk q => by obtain ⟨q0, q1, qP, qK, qD⟩ := q; exact ⟨q0, q1, qP, va_K.moved (u := U) (U := U.calling g mk a) (Vm.Alike.refl U.vm) qK, qD⟩, fun U hU hW => ⟨rfl, by rw [hU], by rw [hU]; exact hPc, va_K.moved hW.alike hKc, hDc.weaken (fun _ _ _ _ => trivial)⟩⟩ rfl rfl hl.1 rfl (lv_room (Nat.le_of_ble_eq_true rfl)) dX1_spotFrom_1 ⟨Nat.le_of_ble_eq_true rfl, Nat.le_of_ble_eq_true rfl⟩) hS (fun q _ h => hFc q h) hFc (fun r9 u t H1 locs ht hvm hw hB hz1 hk1 hS => ?_)
  obtain rfl := hw
  obtain ⟨hP1, hK1, hD1⟩ := hB
  rw [ht] at hP1
  have hK1 := va_K.moved hvm.symm hK1
  obtain ⟨hP, hD⟩ := va_join (wr := [(h0, .inr (5, [.ref z0, .ref z1, .ref z2, .ref z3, .ref z4, .ref z5, .int 0, .int 0])), (h1, .inr (6, [.ref z6, .int 0]))]) (w1 := []) hP hD [] [0, 1] rfl rfl (by decide) (by decide) hk1 hFc hP1 hD1
  generalize H1 = H at hP hS ⊢
  have hP : va_P (dC, dI) vwCl [(h0, .inr (5, [.ref z0, .ref z1, .ref z2, .ref z3, .ref z4, .ref z5, .int 0, .int 0])), (h1, .inr (6, [.ref z6, .int 0]))] H := hP
  have hD : va_D A [(h0, .inr (5, [.ref z0, .ref z1, .ref z2, .ref z3, .ref z4, .ref z5, .int 0, .int 0])), (h1, .inr (6, [.ref z6, .int 0]))] := hD
  refine lv_istore_n (lv' := [(3, .int 0), (0, .ref h0), (1, .ref h1), (2, .int 0)]) hx hb dX1_spotFrom_4 rfl hl (by decide) rfl (fun ls hl => ?_)
  refine lv_iload_n hx hb dX1_spotFrom_5 rfl (lv_at hl 3 rfl) ?_
  have hPc := hP.sub (ws' := []) [] rfl
  have hDc := hD.sub (ws' := []) [] (by decide) rfl
  have hKc := hK.sub (tys' := []) [] rfl
  have hFc := va_free (wc := []) hD hS hA [] rfl
  refine va_calli (va_runS (As := [.int 0]) (rest := []) ⟨hx, hb, hml, hown, hts⟩ (kx_X1_placeOf_0 l dC dI H.size) (cwS 1 hts gX1_spotFrom_X1_placeOf rfl rfl rfl (by decide +kernel) ⟨Nat.le_of_ble_eq_true rfl, Nat.le_of_ble_eq_true rfl⟩) ⟨fun a U g mk q => by obtain ⟨q0, q1, qP, qK, qD⟩ := q; exact ⟨q0, q1, qP, va_K.moved (u := U) (U := U.calling g mk a) (Vm.Alike.refl U.vm) qK, qD⟩, fun U hU hW => ⟨rfl, by rw [hU], by rw [hU]; exact hPc, va_K.moved hW.alike hKc, hDc.weaken (fun _ _ _ _ => trivial)⟩⟩ rfl rfl hl.1 rfl (lv_room (Nat.le_of_ble_eq_true rfl)) dX1_spotFrom_6 ⟨Nat.le_of_ble_eq_true rfl, Nat.le_of_ble_eq_true rfl⟩) hS (fun q _ h => hFc q h) hFc (fun r9 u t H1 locs ht hvm hw hB hz1 hk1 hS => ?_)
  obtain rfl := hw
  obtain ⟨hP1, hK1, hD1⟩ := hB
  rw [ht] at hP1
  have hK1 := va_K.moved hvm.symm hK1
  obtain ⟨hP, hD⟩ := va_join (wr := [(h0, .inr (5, [.ref z0, .ref z1, .ref z2, .ref z3, .ref z4, .ref z5, .int 0, .int 0])), (h1, .inr (6, [.ref z6, .int 0]))]) (w1 := []) hP hD [] [0, 1] rfl rfl (by decide) (by decide) hk1 hFc hP1 hD1
  generalize H1 = H at hP hS ⊢
  have hP : va_P (dC, dI) vwCl [(h0, .inr (5, [.ref z0, .ref z1, .ref z2, .ref z3, .ref z4, .ref z5, .int 0, .int 0])), (h1, .inr (6, [.ref z6, .int 0]))] H := hP
  have hD : va_D A [(h0, .inr (5, [.ref z0, .ref z1, .ref z2, .ref z3, .ref z4, .ref z5, .int 0, .int 0])), (h1, .inr (6, [.ref z6, .int 0]))] := hD
  refine lv_istore (lv' := [(4, .int 0), (3, .int 0), (0, .ref h0), (1, .ref h1), (2, .int 0)]) hx hb dX1_spotFrom_9 hl (by decide) rfl (fun ls hl => ?_)
  refine lv_iload hx hb dX1_spotFrom_11 (lv_at hl 0 rfl) ?_
  refine lv_aload_n hx hb dX1_spotFrom_13 rfl (lv_at hl 3 rfl) ?_
  refine va_get (D := (dC, dI)) (ci := 6) (v := .int 0) (C := RX2) (T := TX2) (N := 2) hx hb hts (by decide +kernel) hown hK hP 1 rfl rfl 1 (by decide) (hts (.fieldLink RX1 60 "Rewriterope$Text" "length" "I") (by decide +kernel)) (fun _ h9 => h9) rfl dX1_spotFrom_14 ?_
  refine lv_icmp_ge (tgt := 65) hx hb dX1_spotFrom_17 (by decide) (fun _ => ?_) (fun c9 => absurd (by decide) c9)
  refine lv_iconst (v := (-1)) hx hb dX1_spotFrom_65 (by decide) ?_
  exact W.iret (v := (-1)) hx hb hr (fun t ht hW => ⟨⟨(-1), (), rfl, rfl, by rw [ht]; exact hP, va_K.moved hW.alike hK, hD⟩, hS.F ht⟩) hS.2.2 dX1_spotFrom_66
set_option maxHeartbeats 4000000 in
set_option maxRecDepth 100000 in
theorem kx_X1_spotOfGreatestPlace_0 (l : Launch) (dC : Nat → ClassId) (dI : Nat → Nat → Nat) (h0 : Nat) (h1 : Nat) (z0 : Nat) (z1 : Nat) (z2 : Nat) (z3 : Nat) (z4 : Nat) (z5 : Nat) (z6 : Nat) (sz : Nat) : Met l yX1_spotOfGreatestPlace wsX1_spotOfGreatestPlace ({ frames := 0, cells := 0, slots := 0, locals := 0 }) (va_Pc [.ref h0, .ref h1] (fun U => U.heap.size = sz ∧ va_P (dC, dI) vwCl [(h0, .inr (5, [.ref z0, .ref z1, .ref z2, .ref z3, .ref z4, .ref z5, .int 0, .int 0])), (h1, .inr (6, [.ref z6, .int 0]))] U.heap ∧ va_K (dC, dI) vwCl [] U ∧ va_D (fun _ => True) [(h0, .inr (5, [.ref z0, .ref z1, .ref z2, .ref z3, .ref z4, .ref z5, .int 0, .int 0])), (h1, .inr (6, [.ref z6, .int 0]))])) (va_Qi (fun (r : Int32) (_ : Unit) => r = (-1)) (fun (_ : Unit) (t : State) => va_P (dC, dI) vwCl [(h0, .inr (5, [.ref z0, .ref z1, .ref z2, .ref z3, .ref z4, .ref z5, .int 0, .int 0])), (h1, .inr (6, [.ref z6, .int 0]))] t.heap ∧ va_K (dC, dI) vwCl [] t ∧ va_D (va_A [(h0, .inr (5, [.ref z0, .ref z1, .ref z2, .ref z3, .ref z4, .ref z5, .int 0, .int 0])), (h1, .inr (6, [.ref z6, .int 0]))] sz) [(h0, .inr (5, [.ref z0, .ref z1, .ref z2, .ref z3, .ref z4, .ref z5, .int 0, .int 0])), (h1, .inr (6, [.ref z6, .int 0]))]) (va_A [(h0, .inr (5, [.ref z0, .ref z1, .ref z2, .ref z3, .ref z4, .ref z5, .int 0, .int 0])), (h1, .inr (6, [.ref z6, .int 0]))] sz)) 0 0 (va_A [(h0, .inr (5, [.ref z0, .ref z1, .ref z2, .ref z3, .ref z4, .ref z5, .int 0, .int 0])), (h1, .inr (6, [.ref z6, .int 0]))] sz) := by
  refine Met.ofW (cc := cX1_spotOfGreatestPlace) (maxL := 4) (ret := (some .int)) (by decide) rfl ?_
  intro p e s m args below meth c s₁ B hml hv
  obtain ⟨rfl, hsz, hP, hK, hD0⟩ := hv
  have hx := B.exec
  have hb := B.bytes
  have hr := B.returns
  have hts := atoms_spec (ws := wsX1_spotOfGreatestPlace) B.pre
  have hown : s.vm.findClass RX1 = some m.cls := findClass_of_methodNamed B.named
  have hlocks := B.notSynchronized
  subst hsz
  have hD := hD0.self (sz := s.heap.size)
  generalize hAe : va_A [(h0, .inr (5, [.ref z0, .ref z1, .ref z2, .ref z3, .ref z4, .ref z5, .int 0, .int 0])), (h1, .inr (6, [.ref z6, .int 0]))] s.heap.size = A at hD ⊢
  have hA : ∀ q : Nat, s.heap.size ≤ q → A q := fun q h => by rw [← hAe]; exact Or.inr h
  have hS : va_S A s.heap s.heap [] := va_S.rf
  have hP : va_P (dC, dI) vwCl [(h0, .inr (5, [.ref z0, .ref z1, .ref z2, .ref z3, .ref z4, .ref z5, .int 0, .int 0])), (h1, .inr (6, [.ref z6, .int 0]))] s.heap := hP
  have hl := lv_entry ([.ref h0, .ref h1]) (n := 4) (Nat.le_of_ble_eq_true rfl)
  rw [lg_entry_eq]
  generalize (lg_sl ([.ref h0, .ref h1]) ++ List.replicate (4 - (lg_sl ([.ref h0, .ref h1])).length) Slot.unset).toArray = ls at hl ⊢
  have hl : lv_has ls 4 [(0, .ref h0), (1, .ref h1)] := hl
  refine lv_aload_n hx hb dX1_spotOfGreatestPlace_0 rfl (lv_at hl 1 rfl) ?_
  refine va_get (D := (dC, dI)) (ci := 6) (v := .int 0) (C := RX2) (T := TX2) (N := 2) hx hb hts (by decide +kernel) hown hK hP 1 rfl rfl 1 (by decide) (hts (.fieldLink RX1 60 "Rewriterope$Text" "length" "I") (by decide +kernel)) (fun _ h9 => h9) rfl dX1_spotOfGreatestPlace_1 ?_
  refine lv_iconst (v := 1) hx hb dX1_spotOfGreatestPlace_4 (by decide) ?_
  refine lv_isub hx hb dX1_spotOfGreatestPlace_5 ?_
  refine lv_topi (fun y1 ey1 => ?_)
  obtain rfl : y1 = (-1) := ey1.trans (by decide)
  refine lv_istore_n (lv' := [(2, .int (-1)), (0, .ref h0), (1, .ref h1)]) hx hb dX1_spotOfGreatestPlace_6 rfl hl (by decide) rfl (fun ls hl => ?_)
  refine lv_iload_n hx hb dX1_spotOfGreatestPlace_7 rfl (lv_at hl 0 rfl) ?_
  refine lv_if_lt (tgt := 54) hx hb dX1_spotOfGreatestPlace_8 (by decide) (fun _ => ?_) (fun c9 => absurd (by decide) c9)
  refine lv_iconst (v := (-1)) hx hb dX1_spotOfGreatestPlace_54 (by decide) ?_
  exact W.iret (v := (-1)) hx hb hr (fun t ht hW => ⟨⟨(-1), (), rfl, rfl, by rw [ht]; exact hP, va_K.moved hW.alike hK, hD⟩, hS.F ht⟩) hS.2.2 dX1_spotOfGreatestPlace_55
set_option maxHeartbeats 4000000 in
set_option maxRecDepth 100000 in
theorem kx_X1_spotOfLeastRule_0 (l : Launch) (dC : Nat → ClassId) (dI : Nat → Nat → Nat) (h0 : Nat) (z0 : Nat) (z1 : Nat) (z2 : Nat) (z3 : Nat) (z4 : Nat) (z5 : Nat) (z6 : Nat) (sz : Nat) : Met l yX1_spotOfLeastRule wsX1_spotOfLeastRule ({ frames := 0, cells := 0, slots := 0, locals := 0 }) (va_Pc [.ref h0, .ref z0] (fun U => U.heap.size = sz ∧ va_P (dC, dI) vwCl [(h0, .inr (5, [.ref z1, .ref z2, .ref z3, .ref z4, .ref z5, .ref z6, .int 0, .int 0]))] U.heap ∧ va_K (dC, dI) vwCl [] U ∧ va_D (fun _ => True) [(h0, .inr (5, [.ref z1, .ref z2, .ref z3, .ref z4, .ref z5, .ref z6, .int 0, .int 0]))])) (va_Qi (fun (r : Int32) (_ : Unit) => r = (-1)) (fun (_ : Unit) (t : State) => va_P (dC, dI) vwCl [(h0, .inr (5, [.ref z1, .ref z2, .ref z3, .ref z4, .ref z5, .ref z6, .int 0, .int 0]))] t.heap ∧ va_K (dC, dI) vwCl [] t ∧ va_D (va_A [(h0, .inr (5, [.ref z1, .ref z2, .ref z3, .ref z4, .ref z5, .ref z6, .int 0, .int 0]))] sz) [(h0, .inr (5, [.ref z1, .ref z2, .ref z3, .ref z4, .ref z5, .ref z6, .int 0, .int 0]))]) (va_A [(h0, .inr (5, [.ref z1, .ref z2, .ref z3, .ref z4, .ref z5, .ref z6, .int 0, .int 0]))] sz)) 0 0 (va_A [(h0, .inr (5, [.ref z1, .ref z2, .ref z3, .ref z4, .ref z5, .ref z6, .int 0, .int 0]))] sz) := by
  refine Met.ofW (cc := cX1_spotOfLeastRule) (maxL := 4) (ret := (some .int)) (by decide) rfl ?_
  intro p e s m args below meth c s₁ B hml hv
  obtain ⟨rfl, hsz, hP, hK, hD0⟩ := hv
  have hx := B.exec
  have hb := B.bytes
  have hr := B.returns
  have hts := atoms_spec (ws := wsX1_spotOfLeastRule) B.pre
  have hown : s.vm.findClass RX1 = some m.cls := findClass_of_methodNamed B.named
  have hlocks := B.notSynchronized
  subst hsz
  have hD := hD0.self (sz := s.heap.size)
  generalize hAe : va_A [(h0, .inr (5, [.ref z1, .ref z2, .ref z3, .ref z4, .ref z5, .ref z6, .int 0, .int 0]))] s.heap.size = A at hD ⊢
  have hA : ∀ q : Nat, s.heap.size ≤ q → A q := fun q h => by rw [← hAe]; exact Or.inr h
  have hS : va_S A s.heap s.heap [] := va_S.rf
  have hP : va_P (dC, dI) vwCl [(h0, .inr (5, [.ref z1, .ref z2, .ref z3, .ref z4, .ref z5, .ref z6, .int 0, .int 0]))] s.heap := hP
  have hl := lv_entry ([.ref h0, .ref z0]) (n := 4) (Nat.le_of_ble_eq_true rfl)
  rw [lg_entry_eq]
  generalize (lg_sl ([.ref h0, .ref z0]) ++ List.replicate (4 - (lg_sl ([.ref h0, .ref z0])).length) Slot.unset).toArray = ls at hl ⊢
  have hl : lv_has ls 4 [(0, .ref h0), (1, .ref z0)] := hl
  refine lv_iconst (v := 0) hx hb dX1_spotOfLeastRule_0 (by decide) ?_
  refine lv_istore_n (lv' := [(2, .int 0), (0, .ref h0), (1, .ref z0)]) hx hb dX1_spotOfLeastRule_1 rfl hl (by decide) rfl (fun ls hl => ?_)
  refine lv_iload_n hx hb dX1_spotOfLeastRule_2 rfl (lv_at hl 0 rfl) ?_
  refine lv_aload_n hx hb dX1_spotOfLeastRule_3 rfl (lv_at hl 1 rfl) ?_
  refine va_get (D := (dC, dI)) (ci := 5) (v := .int 0) (C := RX1) (T := TX1) (N := 8) hx hb hts (by decide +kernel) hown hK hP 0 rfl rfl 6 (by decide) (hts (.fieldLink RX1 34 "Rewriterope$RuleBook" "size" "I") (by decide +kernel)) (fun _ h9 => h9) rfl dX1_spotOfLeastRule_4 ?_
  refine lv_icmp_ge (tgt := 53) hx hb dX1_spotOfLeastRule_7 (by decide) (fun _ => ?_) (fun c9 => absurd (by decide) c9)
  refine lv_iconst (v := (-1)) hx hb dX1_spotOfLeastRule_53 (by decide) ?_
  exact W.iret (v := (-1)) hx hb hr (fun t ht hW => ⟨⟨(-1), (), rfl, rfl, by rw [ht]; exact hP, va_K.moved hW.alike hK, hD⟩, hS.F ht⟩) hS.2.2 dX1_spotOfLeastRule_54
set_option maxHeartbeats 4000000 in
set_option maxRecDepth 100000 in
theorem kx_X1_spotByWay_0 (l : Launch) (dC : Nat → ClassId) (dI : Nat → Nat → Nat) (h0 : Nat) (h1 : Nat) (z0 : Nat) (z1 : Nat) (z2 : Nat) (z3 : Nat) (z4 : Nat) (z5 : Nat) (z6 : Nat) (sz : Nat) : Met l yX1_spotByWay wsX1_spotByWay ({ frames := 2, cells := 0, slots := 0, locals := 44 }) (va_Pc [.ref h0, .ref h1, .int 0] (fun U => U.heap.size = sz ∧ va_P (dC, dI) vwCl [(h0, .inr (5, [.ref z0, .ref z1, .ref z2, .ref z3, .ref z4, .ref z5, .int 0, .int 0])), (h1, .inr (6, [.ref z6, .int 0]))] U.heap ∧ va_K (dC, dI) vwCl [] U ∧ va_D (fun _ => True) [(h0, .inr (5, [.ref z0, .ref z1, .ref z2, .ref z3, .ref z4, .ref z5, .int 0, .int 0])), (h1, .inr (6, [.ref z6, .int 0]))])) (va_Qi (fun (r : Int32) (_ : Unit) => r = (-1)) (fun (_ : Unit) (t : State) => va_P (dC, dI) vwCl [(h0, .inr (5, [.ref z0, .ref z1, .ref z2, .ref z3, .ref z4, .ref z5, .int 0, .int 0])), (h1, .inr (6, [.ref z6, .int 0]))] t.heap ∧ va_K (dC, dI) vwCl [] t ∧ va_D (va_A [(h0, .inr (5, [.ref z0, .ref z1, .ref z2, .ref z3, .ref z4, .ref z5, .int 0, .int 0])), (h1, .inr (6, [.ref z6, .int 0]))] sz) [(h0, .inr (5, [.ref z0, .ref z1, .ref z2, .ref z3, .ref z4, .ref z5, .int 0, .int 0])), (h1, .inr (6, [.ref z6, .int 0]))]) (va_A [(h0, .inr (5, [.ref z0, .ref z1, .ref z2, .ref z3, .ref z4, .ref z5, .int 0, .int 0])), (h1, .inr (6, [.ref z6, .int 0]))] sz)) 0 0 (va_A [(h0, .inr (5, [.ref z0, .ref z1, .ref z2, .ref z3, .ref z4, .ref z5, .int 0, .int 0])), (h1, .inr (6, [.ref z6, .int 0]))] sz) := by
  refine Met.ofW (cc := cX1_spotByWay) (maxL := 3) (ret := (some .int)) (by decide) rfl ?_
  intro p e s m args below meth c s₁ B hml hv
  obtain ⟨rfl, hsz, hP, hK, hD0⟩ := hv
  have hx := B.exec
  have hb := B.bytes
  have hr := B.returns
  have hts := atoms_spec (ws := wsX1_spotByWay) B.pre
  have hown : s.vm.findClass RX1 = some m.cls := findClass_of_methodNamed B.named
  have hlocks := B.notSynchronized
  subst hsz
  have hD := hD0.self (sz := s.heap.size)
  generalize hAe : va_A [(h0, .inr (5, [.ref z0, .ref z1, .ref z2, .ref z3, .ref z4, .ref z5, .int 0, .int 0])), (h1, .inr (6, [.ref z6, .int 0]))] s.heap.size = A at hD ⊢
  have hA : ∀ q : Nat, s.heap.size ≤ q → A q := fun q h => by rw [← hAe]; exact Or.inr h
  have hS : va_S A s.heap s.heap [] := va_S.rf
  have hP : va_P (dC, dI) vwCl [(h0, .inr (5, [.ref z0, .ref z1, .ref z2, .ref z3, .ref z4, .ref z5, .int 0, .int 0])), (h1, .inr (6, [.ref z6, .int 0]))] s.heap := hP
  have hl := lv_entry ([.ref h0, .ref h1, .int 0]) (n := 3) (Nat.le_of_ble_eq_true rfl)
  rw [lg_entry_eq]
  generalize (lg_sl ([.ref h0, .ref h1, .int 0]) ++ List.replicate (3 - (lg_sl ([.ref h0, .ref h1, .int 0])).length) Slot.unset).toArray = ls at hl ⊢
  have hl : lv_has ls 3 [(0, .ref h0), (1, .ref h1), (2, .int 0)] := hl
  refine lv_iload_n hx hb dX1_spotByWay_0 rfl (lv_at hl 2 rfl) ?_
  refine lv_lookup (off := 39) (tgt := 40) hx hb dX1_spotByWay_1 (by decide) (by decide) (by decide) ?_
  refine lv_aload_n hx hb dX1_spotByWay_40 rfl (lv_at hl 0 rfl) ?_
  refine lv_aload_n hx hb dX1_spotByWay_41 rfl (lv_at hl 1 rfl) ?_
  refine lv_iconst (v := 0) hx hb dX1_spotByWay_42 (by decide) ?_
  have hPc := hP.sub (ws' := [(h0, .inr (5, [.ref z0, .ref z1, .ref z2, .ref z3, .ref z4, .ref z5, .int 0, .int 0])), (h1, .inr (6, [.ref z6, .int 0]))]) [0, 1] rfl
  have hDc := hD.sub (ws' := [(h0, .inr (5, [.ref z0, .ref z1, .ref z2, .ref z3, .ref z4, .ref z5, .int 0, .int 0])), (h1, .inr (6, [.ref z6, .int 0]))]) [0, 1] (by decide) rfl
  have hKc := hK.sub (tys' := []) [] rfl
  have hFc := va_free (wc := [(h0, .inr (5, [.ref z0, .ref z1, .ref z2, .ref z3, .ref z4, .ref z5, .int 0, .int 0])), (h1, .inr (6, [.ref z6, .int 0]))]) hD hS hA [0, 1] rfl
  refine va_calli (va_runV (As := [.ref h1, .int 0]) (rest := []) ⟨hx, hb, hml, hown, hts⟩ (kx_X1_spotFrom_0 l dC dI h0 h1 z0 z1 z2 z3 z4 z5 z6 s.heap.size) (cwV 2 hts gX1_spotByWay_X1_spotFrom rfl rfl rfl (by decide +kernel) ⟨Nat.le_of_ble_eq_true rfl, Nat.le_of_ble_eq_true rfl⟩) ⟨fun a U g mk q => by obtain ⟨q0, q1, qP, qK, qD⟩ := q; exact ⟨q0, q1, qP, va_K.moved (u := U) (U := U.calling g mk a) (Vm.Alike.refl U.vm) qK, qD⟩, va_recv hKc hPc (ci := 5) (q0 := 0) rfl rfl, fun U hU hW => ⟨rfl, by rw [hU], by rw [hU]; exact hPc, va_K.moved hW.alike hKc, hDc.weaken (fun _ _ _ _ => trivial)⟩⟩ rfl rfl hl.1 rfl (lv_room (Nat.le_of_ble_eq_true rfl)) dX1_spotByWay_43 ⟨Nat.le_of_ble_eq_true rfl, Nat.le_of_ble_eq_true rfl⟩) hS (fun q _ h => hFc q h) hFc (fun r9 u t H1 locs ht hvm hw hB hz1 hk1 hS => ?_)
  obtain rfl := hw
  obtain ⟨hP1, hK1, hD1⟩ := hB
  rw [ht] at hP1
  have hK1 := va_K.moved hvm.symm hK1
  obtain ⟨hP, hD⟩ := va_join (wr := []) (w1 := [(h0, .inr (5, [.ref z0, .ref z1, .ref z2, .ref z3, .ref z4, .ref z5, .int 0, .int 0])), (h1, .inr (6, [.ref z6, .int 0]))]) hP hD [0, 1] [] rfl rfl (by decide) (by decide) hk1 hFc hP1 hD1
  generalize H1 = H at hP hS ⊢
  have hP : va_P (dC, dI) vwCl [(h0, .inr (5, [.ref z0, .ref z1, .ref z2, .ref z3, .ref z4, .ref z5, .int 0, .int 0])), (h1, .inr (6, [.ref z6, .int 0]))] H := hP
  have hD : va_D A [(h0, .inr (5, [.ref z0, .ref z1, .ref z2, .ref z3, .ref z4, .ref z5, .int 0, .int 0])), (h1, .inr (6, [.ref z6, .int 0]))] := hD
  exact W.iret (v := (-1)) hx hb hr (fun t ht hW => ⟨⟨(-1), (), rfl, rfl, by rw [ht]; exact hP, va_K.moved hW.alike hK, hD⟩, hS.F ht⟩) hS.2.2 dX1_spotByWay_46
set_option maxHeartbeats 4000000 in
set_option maxRecDepth 100000 in
theorem kx_X1_spotByWay_1 (l : Launch) (dC : Nat → ClassId) (dI : Nat → Nat → Nat) (h0 : Nat) (h1 : Nat) (z0 : Nat) (z1 : Nat) (z2 : Nat) (z3 : Nat) (z4 : Nat) (z5 : Nat) (z6 : Nat) (sz : Nat) : Met l yX1_spotByWay wsX1_spotByWay ({ frames := 1, cells := 0, slots := 0, locals := 23 }) (va_Pc [.ref h0, .ref h1, .int 1] (fun U => U.heap.size = sz ∧ va_P (dC, dI) vwCl [(h0, .inr (5, [.ref z0, .ref z1, .ref z2, .ref z3, .ref z4, .ref z5, .int 0, .int 0])), (h1, .inr (6, [.ref z6, .int 0]))] U.heap ∧ va_K (dC, dI) vwCl [] U ∧ va_D (fun _ => True) [(h0, .inr (5, [.ref z0, .ref z1, .ref z2, .ref z3, .ref z4, .ref z5, .int 0, .int 0])), (h1, .inr (6, [.ref z6, .int 0]))])) (va_Qi (fun (r : Int32) (_ : Unit) => r = (-1)) (fun (_ : Unit) (t : State) => va_P (dC, dI) vwCl [(h0, .inr (5, [.ref z0, .ref z1, .ref z2, .ref z3, .ref z4, .ref z5, .int 0, .int 0])), (h1, .inr (6, [.ref z6, .int 0]))] t.heap ∧ va_K (dC, dI) vwCl [] t ∧ va_D (va_A [(h0, .inr (5, [.ref z0, .ref z1, .ref z2, .ref z3, .ref z4, .ref z5, .int 0, .int 0])), (h1, .inr (6, [.ref z6, .int 0]))] sz) [(h0, .inr (5, [.ref z0, .ref z1, .ref z2, .ref z3, .ref z4, .ref z5, .int 0, .int 0])), (h1, .inr (6, [.ref z6, .int 0]))]) (va_A [(h0, .inr (5, [.ref z0, .ref z1, .ref z2, .ref z3, .ref z4, .ref z5, .int 0, .int 0])), (h1, .inr (6, [.ref z6, .int 0]))] sz)) 0 0 (va_A [(h0, .inr (5, [.ref z0, .ref z1, .ref z2, .ref z3, .ref z4, .ref z5, .int 0, .int 0])), (h1, .inr (6, [.ref z6, .int 0]))] sz) := by
  refine Met.ofW (cc := cX1_spotByWay) (maxL := 3) (ret := (some .int)) (by decide) rfl ?_
  intro p e s m args below meth c s₁ B hml hv
  obtain ⟨rfl, hsz, hP, hK, hD0⟩ := hv
  have hx := B.exec
  have hb := B.bytes
  have hr := B.returns
  have hts := atoms_spec (ws := wsX1_spotByWay) B.pre
  have hown : s.vm.findClass RX1 = some m.cls := findClass_of_methodNamed B.named
  have hlocks := B.notSynchronized
  subst hsz
  have hD := hD0.self (sz := s.heap.size)
  generalize hAe : va_A [(h0, .inr (5, [.ref z0, .ref z1, .ref z2, .ref z3, .ref z4, .ref z5, .int 0, .int 0])), (h1, .inr (6, [.ref z6, .int 0]))] s.heap.size = A at hD ⊢
  have hA : ∀ q : Nat, s.heap.size ≤ q → A q := fun q h => by rw [← hAe]; exact Or.inr h
  have hS : va_S A s.heap s.heap [] := va_S.rf
  have hP : va_P (dC, dI) vwCl [(h0, .inr (5, [.ref z0, .ref z1, .ref z2, .ref z3, .ref z4, .ref z5, .int 0, .int 0])), (h1, .inr (6, [.ref z6, .int 0]))] s.heap := hP
  have hl := lv_entry ([.ref h0, .ref h1, .int 1]) (n := 3) (Nat.le_of_ble_eq_true rfl)
  rw [lg_entry_eq]
  generalize (lg_sl ([.ref h0, .ref h1, .int 1]) ++ List.replicate (3 - (lg_sl ([.ref h0, .ref h1, .int 1])).length) Slot.unset).toArray = ls at hl ⊢
  have hl : lv_has ls 3 [(0, .ref h0), (1, .ref h1), (2, .int 1)] := hl
  refine lv_iload_n hx hb dX1_spotByWay_0 rfl (lv_at hl 2 rfl) ?_
  refine lv_lookup (off := 27) (tgt := 28) hx hb dX1_spotByWay_1 (by decide) (by decide) (by decide) ?_
  refine lv_aload_n hx hb dX1_spotByWay_28 rfl (lv_at hl 0 rfl) ?_
  refine lv_aload_n hx hb dX1_spotByWay_29 rfl (lv_at hl 1 rfl) ?_
  have hPc := hP.sub (ws' := [(h0, .inr (5, [.ref z0, .ref z1, .ref z2, .ref z3, .ref z4, .ref z5, .int 0, .int 0])), (h1, .inr (6, [.ref z6, .int 0]))]) [0, 1] rfl
  have hDc := hD.sub (ws' := [(h0, .inr (5, [.ref z0, .ref z1, .ref z2, .ref z3, .ref z4, .ref z5, .int 0, .int 0])), (h1, .inr (6, [.ref z6, .int 0]))]) [0, 1] (by decide) rfl
  have hKc := hK.sub (tys' := []) [] rfl
  have hFc := va_free (wc := [(h0, .inr (5, [.ref z0, .ref z1, .ref z2, .ref z3, .ref z4, .ref z5, .int 0, .int 0])), (h1, .inr (6, [.ref z6, .int 0]))]) hD hS hA [0, 1] rfl
  refine va_calli (va_runV (As := [.ref h1]) (rest := []) ⟨hx, hb, hml, hown, hts⟩ (kx_X1_spotOfGreatestPlace_0 l dC dI h0 h1 z0 z1 z2 z3 z4 z5 z6 s.heap.size) (cwV 1 hts gX1_spotByWay_X1_spotOfGreatestPlace rfl rfl rfl (by decide +kernel) ⟨Nat.le_of_ble_eq_true rfl, Nat.le_of_ble_eq_true rfl⟩) ⟨fun a U g mk q => by obtain ⟨q0, q1, qP, qK, qD⟩ := q; exact ⟨q0, q1, qP, va_K.moved (u := U) (U := U.calling g mk a) (Vm.Alike.refl U.vm) qK, qD⟩, va_recv hKc hPc (ci := 5) (q0 := 0) rfl rfl, fun U hU hW => ⟨rfl, by rw [hU], by rw [hU]; exact hPc, va_K.moved hW.alike hKc, hDc.weaken (fun _ _ _ _ => trivial)⟩⟩ rfl rfl hl.1 rfl (lv_room (Nat.le_of_ble_eq_true rfl)) dX1_spotByWay_30 ⟨Nat.le_of_ble_eq_true rfl, Nat.le_of_ble_eq_true rfl⟩) hS (fun q _ h => hFc q h) hFc (fun r9 u t H1 locs ht hvm hw hB hz1 hk1 hS => ?_)
  obtain rfl := hw
  obtain ⟨hP1, hK1, hD1⟩ := hB
  rw [ht] at hP1
  have hK1 := va_K.moved hvm.symm hK1
  obtain ⟨hP, hD⟩ := va_join (wr := []) (w1 := [(h0, .inr (5, [.ref z0, .ref z1, .ref z2, .ref z3, .ref z4, .ref z5, .int 0, .int 0])), (h1, .inr (6, [.ref z6, .int 0]))]) hP hD [0, 1] [] rfl rfl (by decide) (by decide) hk1 hFc hP1 hD1
  generalize H1 = H at hP hS ⊢
  have hP : va_P (dC, dI) vwCl [(h0, .inr (5, [.ref z0, .ref z1, .ref z2, .ref z3, .ref z4, .ref z5, .int 0, .int 0])), (h1, .inr (6, [.ref z6, .int 0]))] H := hP
  have hD : va_D A [(h0, .inr (5, [.ref z0, .ref z1, .ref z2, .ref z3, .ref z4, .ref z5, .int 0, .int 0])), (h1, .inr (6, [.ref z6, .int 0]))] := hD
  exact W.iret (v := (-1)) hx hb hr (fun t ht hW => ⟨⟨(-1), (), rfl, rfl, by rw [ht]; exact hP, va_K.moved hW.alike hK, hD⟩, hS.F ht⟩) hS.2.2 dX1_spotByWay_33
set_option maxHeartbeats 4000000 in
set_option maxRecDepth 100000 in
theorem kx_X1_spotByWay_3 (l : Launch) (dC : Nat → ClassId) (dI : Nat → Nat → Nat) (h0 : Nat) (h1 : Nat) (z0 : Nat) (z1 : Nat) (z2 : Nat) (z3 : Nat) (z4 : Nat) (z5 : Nat) (z6 : Nat) (sz : Nat) : Met l yX1_spotByWay wsX1_spotByWay ({ frames := 2, cells := 0, slots := 0, locals := 44 }) (va_Pc [.ref h0, .ref h1, .int 0] (fun U => U.heap.size = sz ∧ va_P (dC, dI) vwCl [(h0, .inr (5, [.ref z0, .ref z1, .ref z2, .ref z3, .ref z4, .ref z5, .int 0, .int 0])), (h1, .inr (6, [.ref z6, .int 0]))] U.heap ∧ va_K (dC, dI) vwCl [] U ∧ va_D (fun _ => True) [(h0, .inr (5, [.ref z0, .ref z1, .ref z2, .ref z3, .ref z4, .ref z5, .int 0, .int 0])), (h1, .inr (6, [.ref z6, .int 0]))])) (va_Qi (fun (r : Int32) (_ : Unit) => r = (-1)) (fun (_ : Unit) (t : State) => va_P (dC, dI) vwCl [(h0, .inr (5, [.ref z0, .ref z1, .ref z2, .ref z3, .ref z4, .ref z5, .int 0, .int 0])), (h1, .inr (6, [.ref z6, .int 0]))] t.heap ∧ va_K (dC, dI) vwCl [] t ∧ va_D (va_A [(h0, .inr (5, [.ref z0, .ref z1, .ref z2, .ref z3, .ref z4, .ref z5, .int 0, .int 0])), (h1, .inr (6, [.ref z6, .int 0]))] sz) [(h0, .inr (5, [.ref z0, .ref z1, .ref z2, .ref z3, .ref z4, .ref z5, .int 0, .int 0])), (h1, .inr (6, [.ref z6, .int 0]))]) (va_A [(h0, .inr (5, [.ref z0, .ref z1, .ref z2, .ref z3, .ref z4, .ref z5, .int 0, .int 0])), (h1, .inr (6, [.ref z6, .int 0]))] sz)) 0 0 (va_A [(h0, .inr (5, [.ref z0, .ref z1, .ref z2, .ref z3, .ref z4, .ref z5, .int 0, .int 0])), (h1, .inr (6, [.ref z6, .int 0]))] sz) := by
  refine Met.ofW (cc := cX1_spotByWay) (maxL := 3) (ret := (some .int)) (by decide) rfl ?_
  intro p e s m args below meth c s₁ B hml hv
  obtain ⟨rfl, hsz, hP, hK, hD0⟩ := hv
  have hx := B.exec
  have hb := B.bytes
  have hr := B.returns
  have hts := atoms_spec (ws := wsX1_spotByWay) B.pre
  have hown : s.vm.findClass RX1 = some m.cls := findClass_of_methodNamed B.named
  have hlocks := B.notSynchronized
  subst hsz
  have hD := hD0.self (sz := s.heap.size)
  generalize hAe : va_A [(h0, .inr (5, [.ref z0, .ref z1, .ref z2, .ref z3, .ref z4, .ref z5, .int 0, .int 0])), (h1, .inr (6, [.ref z6, .int 0]))] s.heap.size = A at hD ⊢
  have hA : ∀ q : Nat, s.heap.size ≤ q → A q := fun q h => by rw [← hAe]; exact Or.inr h
  have hS : va_S A s.heap s.heap [] := va_S.rf
  have hP : va_P (dC, dI) vwCl [(h0, .inr (5, [.ref z0, .ref z1, .ref z2, .ref z3, .ref z4, .ref z5, .int 0, .int 0])), (h1, .inr (6, [.ref z6, .int 0]))] s.heap := hP
  have hl := lv_entry ([.ref h0, .ref h1, .int 0]) (n := 3) (Nat.le_of_ble_eq_true rfl)
  rw [lg_entry_eq]
  generalize (lg_sl ([.ref h0, .ref h1, .int 0]) ++ List.replicate (3 - (lg_sl ([.ref h0, .ref h1, .int 0])).length) Slot.unset).toArray = ls at hl ⊢
  have hl : lv_has ls 3 [(0, .ref h0), (1, .ref h1), (2, .int 0)] := hl
  refine lv_iload_n hx hb dX1_spotByWay_0 rfl (lv_at hl 2 rfl) ?_
  refine lv_lookup (off := 39) (tgt := 40) hx hb dX1_spotByWay_1 (by decide) (by decide) (by decide) ?_
  refine lv_aload_n hx hb dX1_spotByWay_40 rfl (lv_at hl 0 rfl) ?_
  refine lv_aload_n hx hb dX1_spotByWay_41 rfl (lv_at hl 1 rfl) ?_
  refine lv_iconst (v := 0) hx hb dX1_spotByWay_42 (by decide) ?_
  have hPc := hP.sub (ws' := [(h0, .inr (5, [.ref z0, .ref z1, .ref z2, .ref z3, .ref z4, .ref z5, .int 0, .int 0])), (h1, .inr (6, [.ref z6, .int 0]))]) [0, 1] rfl
  have hDc := hD.sub (ws' := [(h0, .inr (5, [.ref z0, .ref z1, .ref z2, .ref z3, .ref z4, .ref z5, .int 0, .int 0])), (h1, .inr (6, [.ref z6, .int 0]))]) [0, 1] (by decide) rfl
  have hKc := hK.sub (tys' := []) [] rfl
  have hFc := va_free (wc := [(h0, .inr (5, [.ref z0, .ref z1, .ref z2, .ref z3, .ref z4, .ref z5, .int 0, .int 0])), (h1, .inr (6, [.ref z6, .int 0]))]) hD hS hA [0, 1] rfl
  refine va_calli (va_runV (As := [.ref h1, .int 0]) (rest := []) ⟨hx, hb, hml, hown, hts⟩ (kx_X1_spotFrom_0 l dC dI h0 h1 z0 z1 z2 z3 z4 z5 z6 s.heap.size) (cwV 2 hts gX1_spotByWay_X1_spotFrom rfl rfl rfl (by decide +kernel) ⟨Nat.le_of_ble_eq_true rfl, Nat.le_of_ble_eq_true rfl⟩) ⟨fun a U g mk q => by obtain ⟨q0, q1, qP, qK, qD⟩ := q; exact ⟨q0, q1, qP, va_K.moved (u := U) (U := U.calling g mk a) (Vm.Alike.refl U.vm) qK, qD⟩, va_recv hKc hPc (ci := 5) (q0 := 0) rfl rfl, fun U hU hW => ⟨rfl, by rw [hU], by rw [hU]; exact hPc, va_K.moved hW.alike hKc, hDc.weaken (fun _ _ _ _ => trivial)⟩⟩ rfl rfl hl.1 rfl (lv_room (Nat.le_of_ble_eq_true rfl)) dX1_spotByWay_43 ⟨Nat.le_of_ble_eq_true rfl, Nat.le_of_ble_eq_true rfl⟩) hS (fun q _ h => hFc q h) hFc (fun r9 u t H1 locs ht hvm hw hB hz1 hk1 hS => ?_)
  obtain rfl := hw
  obtain ⟨hP1, hK1, hD1⟩ := hB
  rw [ht] at hP1
  have hK1 := va_K.moved hvm.symm hK1
  obtain ⟨hP, hD⟩ := va_join (wr := []) (w1 := [(h0, .inr (5, [.ref z0, .ref z1, .ref z2, .ref z3, .ref z4, .ref z5, .int 0, .int 0])), (h1, .inr (6, [.ref z6, .int 0]))]) hP hD [0, 1] [] rfl rfl (by decide) (by decide) hk1 hFc hP1 hD1
  generalize H1 = H at hP hS ⊢
  have hP : va_P (dC, dI) vwCl [(h0, .inr (5, [.ref z0, .ref z1, .ref z2, .ref z3, .ref z4, .ref z5, .int 0, .int 0])), (h1, .inr (6, [.ref z6, .int 0]))] H := hP
  have hD : va_D A [(h0, .inr (5, [.ref z0, .ref z1, .ref z2, .ref z3, .ref z4, .ref z5, .int 0, .int 0])), (h1, .inr (6, [.ref z6, .int 0]))] := hD
  exact W.iret (v := (-1)) hx hb hr (fun t ht hW => ⟨⟨(-1), (), rfl, rfl, by rw [ht]; exact hP, va_K.moved hW.alike hK, hD⟩, hS.F ht⟩) hS.2.2 dX1_spotByWay_46
set_option maxHeartbeats 4000000 in
set_option maxRecDepth 100000 in
theorem kx_X1_spotByWay_4 (l : Launch) (dC : Nat → ClassId) (dI : Nat → Nat → Nat) (h0 : Nat) (h1 : Nat) (z0 : Nat) (z1 : Nat) (z2 : Nat) (z3 : Nat) (z4 : Nat) (z5 : Nat) (z6 : Nat) (sz : Nat) : Met l yX1_spotByWay wsX1_spotByWay ({ frames := 2, cells := 0, slots := 0, locals := 44 }) (va_Pc [.ref h0, .ref h1, .int 1] (fun U => U.heap.size = sz ∧ va_P (dC, dI) vwCl [(h0, .inr (5, [.ref z0, .ref z1, .ref z2, .ref z3, .ref z4, .ref z5, .int 0, .int 0])), (h1, .inr (6, [.ref z6, .int 0]))] U.heap ∧ va_K (dC, dI) vwCl [] U ∧ va_D (fun _ => True) [(h0, .inr (5, [.ref z0, .ref z1, .ref z2, .ref z3, .ref z4, .ref z5, .int 0, .int 0])), (h1, .inr (6, [.ref z6, .int 0]))])) (va_Qi (fun (r : Int32) (_ : Unit) => r = (-1)) (fun (_ : Unit) (t : State) => va_P (dC, dI) vwCl [(h0, .inr (5, [.ref z0, .ref z1, .ref z2, .ref z3, .ref z4, .ref z5, .int 0, .int 0])), (h1, .inr (6, [.ref z6, .int 0]))] t.heap ∧ va_K (dC, dI) vwCl [] t ∧ va_D (va_A [(h0, .inr (5, [.ref z0, .ref z1, .ref z2, .ref z3, .ref z4, .ref z5, .int 0, .int 0])), (h1, .inr (6, [.ref z6, .int 0]))] sz) [(h0, .inr (5, [.ref z0, .ref z1, .ref z2, .ref z3, .ref z4, .ref z5, .int 0, .int 0])), (h1, .inr (6, [.ref z6, .int 0]))]) (va_A [(h0, .inr (5, [.ref z0, .ref z1, .ref z2, .ref z3, .ref z4, .ref z5, .int 0, .int 0])), (h1, .inr (6, [.ref z6, .int 0]))] sz)) 0 0 (va_A [(h0, .inr (5, [.ref z0, .ref z1, .ref z2, .ref z3, .ref z4, .ref z5, .int 0, .int 0])), (h1, .inr (6, [.ref z6, .int 0]))] sz) := by
  refine Met.ofW (cc := cX1_spotByWay) (maxL := 3) (ret := (some .int)) (by decide) rfl ?_
  intro p e s m args below meth c s₁ B hml hv
  obtain ⟨rfl, hsz, hP, hK, hD0⟩ := hv
  have hx := B.exec
  have hb := B.bytes
  have hr := B.returns
  have hts := atoms_spec (ws := wsX1_spotByWay) B.pre
  have hown : s.vm.findClass RX1 = some m.cls := findClass_of_methodNamed B.named
  have hlocks := B.notSynchronized
  subst hsz
  have hD := hD0.self (sz := s.heap.size)
  generalize hAe : va_A [(h0, .inr (5, [.ref z0, .ref z1, .ref z2, .ref z3, .ref z4, .ref z5, .int 0, .int 0])), (h1, .inr (6, [.ref z6, .int 0]))] s.heap.size = A at hD ⊢
  have hA : ∀ q : Nat, s.heap.size ≤ q → A q := fun q h => by rw [← hAe]; exact Or.inr h
  have hS : va_S A s.heap s.heap [] := va_S.rf
  have hP : va_P (dC, dI) vwCl [(h0, .inr (5, [.ref z0, .ref z1, .ref z2, .ref z3, .ref z4, .ref z5, .int 0, .int 0])), (h1, .inr (6, [.ref z6, .int 0]))] s.heap := hP
  have hl := lv_entry ([.ref h0, .ref h1, .int 1]) (n := 3) (Nat.le_of_ble_eq_true rfl)
  rw [lg_entry_eq]
  generalize (lg_sl ([.ref h0, .ref h1, .int 1]) ++ List.replicate (3 - (lg_sl ([.ref h0, .ref h1, .int 1])).length) Slot.unset).toArray = ls at hl ⊢
  have hl : lv_has ls 3 [(0, .ref h0), (1, .ref h1), (2, .int 1)] := hl
  refine lv_iload_n hx hb dX1_spotByWay_0 rfl (lv_at hl 2 rfl) ?_
  refine lv_lookup (off := 27) (tgt := 28) hx hb dX1_spotByWay_1 (by decide) (by decide) (by decide) ?_
  refine lv_aload_n hx hb dX1_spotByWay_28 rfl (lv_at hl 0 rfl) ?_
  refine lv_aload_n hx hb dX1_spotByWay_29 rfl (lv_at hl 1 rfl) ?_
  have hPc := hP.sub (ws' := [(h0, .inr (5, [.ref z0, .ref z1, .ref z2, .ref z3, .ref z4, .ref z5, .int 0, .int 0])), (h1, .inr (6, [.ref z6, .int 0]))]) [0, 1] rfl
  have hDc := hD.sub (ws' := [(h0, .inr (5, [.ref z0, .ref z1, .ref z2, .ref z3, .ref z4, .ref z5, .int 0, .int 0])), (h1, .inr (6, [.ref z6, .int 0]))]) [0, 1] (by decide) rfl
  have hKc := hK.sub (tys' := []) [] rfl
  have hFc := va_free (wc := [(h0, .inr (5, [.ref z0, .ref z1, .ref z2, .ref z3, .ref z4, .ref z5, .int 0, .int 0])), (h1, .inr (6, [.ref z6, .int 0]))]) hD hS hA [0, 1] rfl
  refine va_calli (va_runV (As := [.ref h1]) (rest := []) ⟨hx, hb, hml, hown, hts⟩ (kx_X1_spotOfGreatestPlace_0 l dC dI h0 h1 z0 z1 z2 z3 z4 z5 z6 s.heap.size) (cwV 1 hts gX1_spotByWay_X1_spotOfGreatestPlace rfl rfl rfl (by decide +kernel) ⟨Nat.le_of_ble_eq_true rfl, Nat.le_of_ble_eq_true rfl⟩) ⟨fun a U g mk q => by obtain ⟨q0, q1, qP, qK, qD⟩ := q; exact ⟨q0, q1, qP, va_K.moved (u := U) (U := U.calling g mk a) (Vm.Alike.refl U.vm) qK, qD⟩, va_recv hKc hPc (ci := 5) (q0 := 0) rfl rfl, fun U hU hW => ⟨rfl, by rw [hU], by rw [hU]; exact hPc, va_K.moved hW.alike hKc, hDc.weaken (fun _ _ _ _ => trivial)⟩⟩ rfl rfl hl.1 rfl (lv_room (Nat.le_of_ble_eq_true rfl)) dX1_spotByWay_30 ⟨Nat.le_of_ble_eq_true rfl, Nat.le_of_ble_eq_true rfl⟩) hS (fun q _ h => hFc q h) hFc (fun r9 u t H1 locs ht hvm hw hB hz1 hk1 hS => ?_)
  obtain rfl := hw
  obtain ⟨hP1, hK1, hD1⟩ := hB
  rw [ht] at hP1
  have hK1 := va_K.moved hvm.symm hK1
  obtain ⟨hP, hD⟩ := va_join (wr := []) (w1 := [(h0, .inr (5, [.ref z0, .ref z1, .ref z2, .ref z3, .ref z4, .ref z5, .int 0, .int 0])), (h1, .inr (6, [.ref z6, .int 0]))]) hP hD [0, 1] [] rfl rfl (by decide) (by decide) hk1 hFc hP1 hD1
  generalize H1 = H at hP hS ⊢
  have hP : va_P (dC, dI) vwCl [(h0, .inr (5, [.ref z0, .ref z1, .ref z2, .ref z3, .ref z4, .ref z5, .int 0, .int 0])), (h1, .inr (6, [.ref z6, .int 0]))] H := hP
  have hD : va_D A [(h0, .inr (5, [.ref z0, .ref z1, .ref z2, .ref z3, .ref z4, .ref z5, .int 0, .int 0])), (h1, .inr (6, [.ref z6, .int 0]))] := hD
  exact W.iret (v := (-1)) hx hb hr (fun t ht hW => ⟨⟨(-1), (), rfl, rfl, by rw [ht]; exact hP, va_K.moved hW.alike hK, hD⟩, hS.F ht⟩) hS.2.2 dX1_spotByWay_33
set_option maxHeartbeats 4000000 in
set_option maxRecDepth 100000 in
theorem kx_X1_spotByWay_5 (l : Launch) (dC : Nat → ClassId) (dI : Nat → Nat → Nat) (h0 : Nat) (h1 : Nat) (z0 : Nat) (z1 : Nat) (z2 : Nat) (z3 : Nat) (z4 : Nat) (z5 : Nat) (z6 : Nat) (sz : Nat) : Met l yX1_spotByWay wsX1_spotByWay ({ frames := 2, cells := 0, slots := 0, locals := 44 }) (va_Pc [.ref h0, .ref h1, .int 2] (fun U => U.heap.size = sz ∧ va_P (dC, dI) vwCl [(h0, .inr (5, [.ref z0, .ref z1, .ref z2, .ref z3, .ref z4, .ref z5, .int 0, .int 0])), (h1, .inr (6, [.ref z6, .int 0]))] U.heap ∧ va_K (dC, dI) vwCl [] U ∧ va_D (fun _ => True) [(h0, .inr (5, [.ref z0, .ref z1, .ref z2, .ref z3, .ref z4, .ref z5, .int 0, .int 0])), (h1, .inr (6, [.ref z6, .int 0]))])) (va_Qi (fun (r : Int32) (_ : Unit) => r = (-1)) (fun (_ : Unit) (t : State) => va_P (dC, dI) vwCl [(h0, .inr (5, [.ref z0, .ref z1, .ref z2, .ref z3, .ref z4, .ref z5, .int 0, .int 0])), (h1, .inr (6, [.ref z6, .int 0]))] t.heap ∧ va_K (dC, dI) vwCl [] t ∧ va_D (va_A [(h0, .inr (5, [.ref z0, .ref z1, .ref z2, .ref z3, .ref z4, .ref z5, .int 0, .int 0])), (h1, .inr (6, [.ref z6, .int 0]))] sz) [(h0, .inr (5, [.ref z0, .ref z1, .ref z2, .ref z3, .ref z4, .ref z5, .int 0, .int 0])), (h1, .inr (6, [.ref z6, .int 0]))]) (va_A [(h0, .inr (5, [.ref z0, .ref z1, .ref z2, .ref z3, .ref z4, .ref z5, .int 0, .int 0])), (h1, .inr (6, [.ref z6, .int 0]))] sz)) 0 0 (va_A [(h0, .inr (5, [.ref z0, .ref z1, .ref z2, .ref z3, .ref z4, .ref z5, .int 0, .int 0])), (h1, .inr (6, [.ref z6, .int 0]))] sz) := by
  refine Met.ofW (cc := cX1_spotByWay) (maxL := 3) (ret := (some .int)) (by decide) rfl ?_
  intro p e s m args below meth c s₁ B hml hv
  obtain ⟨rfl, hsz, hP, hK, hD0⟩ := hv
  have hx := B.exec
  have hb := B.bytes
  have hr := B.returns
  have hts := atoms_spec (ws := wsX1_spotByWay) B.pre
  have hown : s.vm.findClass RX1 = some m.cls := findClass_of_methodNamed B.named
  have hlocks := B.notSynchronized
  subst hsz
  have hD := hD0.self (sz := s.heap.size)
  generalize hAe : va_A [(h0, .inr (5, [.ref z0, .ref z1, .ref z2, .ref z3, .ref z4, .ref z5, .int 0, .int 0])), (h1, .inr (6, [.ref z6, .int 0]))] s.heap.size = A at hD ⊢
  have hA : ∀ q : Nat, s.heap.size ≤ q → A q := fun q h => by rw [← hAe]; exact Or.inr h
  have hS : va_S A s.heap s.heap [] := va_S.rf
  have hP : va_P (dC, dI) vwCl [(h0, .inr (5, [.ref z0, .ref z1, .ref z2, .ref z3, .ref z4, .ref z5, .int 0, .int 0])), (h1, .inr (6, [.ref z6, .int 0]))] s.heap := hP
  have hl := lv_entry ([.ref h0, .ref h1, .int 2]) (n := 3) (Nat.le_of_ble_eq_true rfl)
  rw [lg_entry_eq]
  generalize (lg_sl ([.ref h0, .ref h1, .int 2]) ++ List.replicate (3 - (lg_sl ([.ref h0, .ref h1, .int 2])).length) Slot.unset).toArray = ls at hl ⊢
  have hl : lv_has ls 3 [(0, .ref h0), (1, .ref h1), (2, .int 2)] := hl
  refine lv_iload_n hx hb dX1_spotByWay_0 rfl (lv_at hl 2 rfl) ?_
  refine lv_lookup (off := 33) (tgt := 34) hx hb dX1_spotByWay_1 (by decide) (by decide) (by decide) ?_
  refine lv_aload_n hx hb dX1_spotByWay_34 rfl (lv_at hl 0 rfl) ?_
  refine lv_aload_n hx hb dX1_spotByWay_35 rfl (lv_at hl 1 rfl) ?_
  have hPc := hP.sub (ws' := [(h0, .inr (5, [.ref z0, .ref z1, .ref z2, .ref z3, .ref z4, .ref z5, .int 0, .int 0]))]) [0] rfl
  have hDc := hD.sub (ws' := [(h0, .inr (5, [.ref z0, .ref z1, .ref z2, .ref z3, .ref z4, .ref z5, .int 0, .int 0]))]) [0] (by decide) rfl
  have hKc := hK.sub (tys' := []) [] rfl
  have hFc := va_free (wc := [(h0, .inr (5, [.ref z0, .ref z1, .ref z2, .ref z3, .ref z4, .ref z5, .int 0, .int 0]))]) hD hS hA [0] rfl
  refine va_calli (va_runV (As := [.ref h1]) (rest := []) ⟨hx, hb, hml, hown, hts⟩ (kx_X1_spotOfLeastRule_0 l dC dI h0 h1 z0 z1 z2 z3 z4 z5 s.heap.size) (cwV 1 hts gX1_spotByWay_X1_spotOfLeastRule rfl rfl rfl (by decide +kernel) ⟨Nat.le_of_ble_eq_true rfl, Nat.le_of_ble_eq_true rfl⟩) ⟨fun a U g mk q => by obtain ⟨q0, q1, qP, qK, qD⟩ := q; exact ⟨q0, q1, qP, va_K.moved (u := U) (U := U.calling g mk a) (Vm.Alike.refl U.vm) qK, qD⟩, va_recv hKc hPc (ci := 5) (q0 := 0) rfl rfl, fun U hU hW => ⟨rfl, by rw [hU], by rw [hU]; exact hPc, va_K.moved hW.alike hKc, hDc.weaken (fun _ _ _ _ => trivial)⟩⟩ rfl rfl hl.1 rfl (lv_room (Nat.le_of_ble_eq_true rfl)) dX1_spotByWay_36 ⟨Nat.le_of_ble_eq_true rfl, Nat.le_of_ble_eq_true rfl⟩) hS (fun q _ h => hFc q h) hFc (fun r9 u t H1 locs ht hvm hw hB hz1 hk1 hS => ?_)
  obtain rfl := hw
  obtain ⟨hP1, hK1, hD1⟩ := hB
  rw [ht] at hP1
  have hK1 := va_K.moved hvm.symm hK1
  obtain ⟨hP, hD⟩ := va_join (wr := [(h1, .inr (6, [.ref z6, .int 0]))]) (w1 := [(h0, .inr (5, [.ref z0, .ref z1, .ref z2, .ref z3, .ref z4, .ref z5, .int 0, .int 0]))]) hP hD [0] [1] rfl rfl (by decide) (by decide) hk1 hFc hP1 hD1
  generalize H1 = H at hP hS ⊢
  have hP : va_P (dC, dI) vwCl [(h1, .inr (6, [.ref z6, .int 0])), (h0, .inr (5, [.ref z0, .ref z1, .ref z2, .ref z3, .ref z4, .ref z5, .int 0, .int 0]))] H := hP
  have hD : va_D A [(h1, .inr (6, [.ref z6, .int 0])), (h0, .inr (5, [.ref z0, .ref z1, .ref z2, .ref z3, .ref z4, .ref z5, .int 0, .int 0]))] := hD
  have hP := hP.sub (ws' := [(h0, .inr (5, [.ref z0, .ref z1, .ref z2, .ref z3, .ref z4, .ref z5, .int 0, .int 0])), (h1, .inr (6, [.ref z6, .int 0]))]) [1, 0] rfl
  have hD := hD.sub (ws' := [(h0, .inr (5, [.ref z0, .ref z1, .ref z2, .ref z3, .ref z4, .ref z5, .int 0, .int 0])), (h1, .inr (6, [.ref z6, .int 0]))]) [1, 0] (by decide) rfl
  exact W.iret (v := (-1)) hx hb hr (fun t ht hW => ⟨⟨(-1), (), rfl, rfl, by rw [ht]; exact hP, va_K.moved hW.alike hK, hD⟩, hS.F ht⟩) hS.2.2 dX1_spotByWay_39
set_option maxHeartbeats 4000000 in
set_option maxRecDepth 100000 in
theorem kx_X1_spotByWay_s0 (l : Launch) (dC : Nat → ClassId) (dI : Nat → Nat → Nat) (h0 : Nat) (h1 : Nat) (z0 : Nat) (z1 : Nat) (z2 : Nat) (z3 : Nat) (z4 : Nat) (z5 : Nat) (z6 : Nat) (sz : Nat) (j0 : Int32) (j0_l : (0 : Int) ≤ j0.toInt) (j0_u : j0.toInt ≤ (2 : Int)) : Met l yX1_spotByWay wsX1_spotByWay ({ frames := 2, cells := 0, slots := 0, locals := 44 }) (va_Pc [.ref h0, .ref h1, .int j0] (fun U => U.heap.size = sz ∧ va_P (dC, dI) vwCl [(h0, .inr (5, [.ref z0, .ref z1, .ref z2, .ref z3, .ref z4, .ref z5, .int 0, .int 0])), (h1, .inr (6, [.ref z6, .int 0]))] U.heap ∧ va_K (dC, dI) vwCl [] U ∧ va_D (fun _ => True) [(h0, .inr (5, [.ref z0, .ref z1, .ref z2, .ref z3, .ref z4, .ref z5, .int 0, .int 0])), (h1, .inr (6, [.ref z6, .int 0]))])) (va_Qi (fun (r : Int32) (_ : Unit) => r = (-1)) (fun (_ : Unit) (t : State) => va_P (dC, dI) vwCl [(h0, .inr (5, [.ref z0, .ref z1, .ref z2, .ref z3, .ref z4, .ref z5, .int 0, .int 0])), (h1, .inr (6, [.ref z6, .int 0]))] t.heap ∧ va_K (dC, dI) vwCl [] t ∧ va_D (va_A [(h0, .inr (5, [.ref z0, .ref z1, .ref z2, .ref z3, .ref z4, .ref z5, .int 0, .int 0])), (h1, .inr (6, [.ref z6, .int 0]))] sz) [(h0, .inr (5, [.ref z0, .ref z1, .ref z2, .ref z3, .ref z4, .ref z5, .int 0, .int 0])), (h1, .inr (6, [.ref z6, .int 0]))]) (va_A [(h0, .inr (5, [.ref z0, .ref z1, .ref z2, .ref z3, .ref z4, .ref z5, .int 0, .int 0])), (h1, .inr (6, [.ref z6, .int 0]))] sz)) 0 0 (va_A [(h0, .inr (5, [.ref z0, .ref z1, .ref z2, .ref z3, .ref z4, .ref z5, .int 0, .int 0])), (h1, .inr (6, [.ref z6, .int 0]))] sz) := by
  have e9 : j0 = 0 ∨ j0 = 1 ∨ j0 = 2 := by
    have h9 : j0.toInt = 0 ∨ j0.toInt = 1 ∨ j0.toInt = 2 := by omega
    rcases h9 with h9 | h9 | h9
    · exact Or.inl (Int32.toInt_inj.mp (h9.trans (by decide)))
    · exact Or.inr (Or.inl (Int32.toInt_inj.mp (h9.trans (by decide))))
    · exact Or.inr (Or.inr (Int32.toInt_inj.mp (h9.trans (by decide))))
  rcases e9 with rfl | rfl | rfl
  · exact kx_X1_spotByWay_3 l dC dI h0 h1 z0 z1 z2 z3 z4 z5 z6 sz
  · exact kx_X1_spotByWay_4 l dC dI h0 h1 z0 z1 z2 z3 z4 z5 z6 sz
  · exact kx_X1_spotByWay_5 l dC dI h0 h1 z0 z1 z2 z3 z4 z5 z6 sz
set_option maxHeartbeats 4000000 in
set_option maxRecDepth 100000 in
theorem kx_X3_step_0 (l : Launch) (dC : Nat → ClassId) (dI : Nat → Nat → Nat) (h0 : Nat) (h1 : Nat) (h2 : Nat) (h3 : Nat) (h4 : Nat) (h5 : Nat) (h6 : Nat) (z0 : Nat) (z1 : Nat) (z2 : Nat) (z3 : Nat) (z4 : Nat) (z5 : Nat) (z6 : Nat) (z7 : Nat) (z8 : Nat) (z9 : Nat) (z10 : Nat) (z11 : Nat) (z12 : Nat) (z13 : Nat) (k0 : ClassId) (sz : Nat) (i0 : Int32) (i0_l : (0 : Int) ≤ i0.toInt) (i0_u : i0.toInt ≤ (2 : Int)) : Met l yX3_step wsX3_step ({ frames := 3, cells := 0, slots := 0, locals := 66 }) (va_Pc [.ref h0, .int 0, .int i0] (fun U => U.heap.size = sz ∧ va_P (dC, dI) vwCl [(h0, .inr (7, [.ref h1, .ref h2, .ref z0, .ref z1, .ref z2, .ref z3, .int 0, .int 0, .int 0])), (h1, .inl (k0, 4, .inr (.inr (.inr (.inr (va_up (va_up (va_up (va_up (fun _ => none) 0 (some h3)) 1 (some h4)) 2 (some h5)) 3 (some h6))))))), (h2, .inr (5, [.ref z4, .ref z5, .ref z6, .ref z7, .ref z8, .ref z9, .int 0, .int 0])), (h3, .inr (6, [.ref z10, .int 0])), (h4, .inr (6, [.ref z11, .int 0])), (h5, .inr (6, [.ref z12, .int 0])), (h6, .inr (6, [.ref z13, .int 0]))] U.heap ∧ va_K (dC, dI) vwCl [(k0, .object "Rewriterope$Text")] U ∧ va_D (fun _ => True) [(h0, .inr (7, [.ref h1, .ref h2, .ref z0, .ref z1, .ref z2, .ref z3, .int 0, .int 0, .int 0])), (h1, .inl (k0, 4, .inr (.inr (.inr (.inr (va_up (va_up (va_up (va_up (fun _ => none) 0 (some h3)) 1 (some h4)) 2 (some h5)) 3 (some h6))))))), (h2, .inr (5, [.ref z4, .ref z5, .ref z6, .ref z7, .ref z8, .ref z9, .int 0, .int 0])), (h3, .inr (6, [.ref z10, .int 0])), (h4, .inr (6, [.ref z11, .int 0])), (h5, .inr (6, [.ref z12, .int 0])), (h6, .inr (6, [.ref z13, .int 0]))])) (va_Qi (fun (r : Int32) (_ : Unit) => r = (-1)) (fun (_ : Unit) (t : State) => va_P (dC, dI) vwCl [(h0, .inr (7, [.ref h1, .ref h2, .ref z0, .ref z1, .ref z2, .ref z3, .int 0, .int 0, .int 0])), (h1, .inl (k0, 4, .inr (.inr (.inr (.inr (va_up (va_up (va_up (va_up (fun _ => none) 0 (some h3)) 1 (some h4)) 2 (some h5)) 3 (some h6))))))), (h2, .inr (5, [.ref z4, .ref z5, .ref z6, .ref z7, .ref z8, .ref z9, .int 0, .int 0])), (h3, .inr (6, [.ref z10, .int 0])), (h4, .inr (6, [.ref z11, .int 0])), (h5, .inr (6, [.ref z12, .int 0])), (h6, .inr (6, [.ref z13, .int 0]))] t.heap ∧ va_K (dC, dI) vwCl [(k0, .object "Rewriterope$Text")] t ∧ va_D (va_A [(h0, .inr (7, [.ref h1, .ref h2, .ref z0, .ref z1, .ref z2, .ref z3, .int 0, .int 0, .int 0])), (h1, .inl (k0, 4, .inr (.inr (.inr (.inr (va_up (va_up (va_up (va_up (fun _ => none) 0 (some h3)) 1 (some h4)) 2 (some h5)) 3 (some h6))))))), (h2, .inr (5, [.ref z4, .ref z5, .ref z6, .ref z7, .ref z8, .ref z9, .int 0, .int 0])), (h3, .inr (6, [.ref z10, .int 0])), (h4, .inr (6, [.ref z11, .int 0])), (h5, .inr (6, [.ref z12, .int 0])), (h6, .inr (6, [.ref z13, .int 0]))] sz) [(h0, .inr (7, [.ref h1, .ref h2, .ref z0, .ref z1, .ref z2, .ref z3, .int 0, .int 0, .int 0])), (h1, .inl (k0, 4, .inr (.inr (.inr (.inr (va_up (va_up (va_up (va_up (fun _ => none) 0 (some h3)) 1 (some h4)) 2 (some h5)) 3 (some h6))))))), (h2, .inr (5, [.ref z4, .ref z5, .ref z6, .ref z7, .ref z8, .ref z9, .int 0, .int 0])), (h3, .inr (6, [.ref z10, .int 0])), (h4, .inr (6, [.ref z11, .int 0])), (h5, .inr (6, [.ref z12, .int 0])), (h6, .inr (6, [.ref z13, .int 0]))]) (va_A [(h0, .inr (7, [.ref h1, .ref h2, .ref z0, .ref z1, .ref z2, .ref z3, .int 0, .int 0, .int 0])), (h1, .inl (k0, 4, .inr (.inr (.inr (.inr (va_up (va_up (va_up (va_up (fun _ => none) 0 (some h3)) 1 (some h4)) 2 (some h5)) 3 (some h6))))))), (h2, .inr (5, [.ref z4, .ref z5, .ref z6, .ref z7, .ref z8, .ref z9, .int 0, .int 0])), (h3, .inr (6, [.ref z10, .int 0])), (h4, .inr (6, [.ref z11, .int 0])), (h5, .inr (6, [.ref z12, .int 0])), (h6, .inr (6, [.ref z13, .int 0]))] sz)) 0 0 (va_A [(h0, .inr (7, [.ref h1, .ref h2, .ref z0, .ref z1, .ref z2, .ref z3, .int 0, .int 0, .int 0])), (h1, .inl (k0, 4, .inr (.inr (.inr (.inr (va_up (va_up (va_up (va_up (fun _ => none) 0 (some h3)) 1 (some h4)) 2 (some h5)) 3 (some h6))))))), (h2, .inr (5, [.ref z4, .ref z5, .ref z6, .ref z7, .ref z8, .ref z9, .int 0, .int 0])), (h3, .inr (6, [.ref z10, .int 0])), (h4, .inr (6, [.ref z11, .int 0])), (h5, .inr (6, [.ref z12, .int 0])), (h6, .inr (6, [.ref z13, .int 0]))] sz) := by
  refine Met.ofW (cc := cX3_step) (maxL := 4) (ret := (some .int)) (by decide) rfl ?_
  intro p e s m args below meth c s₁ B hml hv
  obtain ⟨rfl, hsz, hP, hK, hD0⟩ := hv
  have hx := B.exec
  have hb := B.bytes
  have hr := B.returns
  have hts := atoms_spec (ws := wsX3_step) B.pre
  have hown : s.vm.findClass RX3 = some m.cls := findClass_of_methodNamed B.named
  have hlocks := B.notSynchronized
  subst hsz
  have hD := hD0.self (sz := s.heap.size)
  generalize hAe : va_A [(h0, .inr (7, [.ref h1, .ref h2, .ref z0, .ref z1, .ref z2, .ref z3, .int 0, .int 0, .int 0])), (h1, .inl (k0, 4, .inr (.inr (.inr (.inr (va_up (va_up (va_up (va_up (fun _ => none) 0 (some h3)) 1 (some h4)) 2 (some h5)) 3 (some h6))))))), (h2, .inr (5, [.ref z4, .ref z5, .ref z6, .ref z7, .ref z8, .ref z9, .int 0, .int 0])), (h3, .inr (6, [.ref z10, .int 0])), (h4, .inr (6, [.ref z11, .int 0])), (h5, .inr (6, [.ref z12, .int 0])), (h6, .inr (6, [.ref z13, .int 0]))] s.heap.size = A at hD ⊢
  have hA : ∀ q : Nat, s.heap.size ≤ q → A q := fun q h => by rw [← hAe]; exact Or.inr h
  have hS : va_S A s.heap s.heap [] := va_S.rf
  have hP : va_P (dC, dI) vwCl [(h0, .inr (7, [.ref h1, .ref h2, .ref z0, .ref z1, .ref z2, .ref z3, .int 0, .int 0, .int 0])), (h1, .inl (k0, 4, .inr (.inr (.inr (.inr (va_up (va_up (va_up (va_up (fun _ => none) 0 (some h3)) 1 (some h4)) 2 (some h5)) 3 (some h6))))))), (h2, .inr (5, [.ref z4, .ref z5, .ref z6, .ref z7, .ref z8, .ref z9, .int 0, .int 0])), (h3, .inr (6, [.ref z10, .int 0])), (h4, .inr (6, [.ref z11, .int 0])), (h5, .inr (6, [.ref z12, .int 0])), (h6, .inr (6, [.ref z13, .int 0]))] s.heap := hP
  have hl := lv_entry ([.ref h0, .int 0, .int i0]) (n := 4) (Nat.le_of_ble_eq_true rfl)
  rw [lg_entry_eq]
  generalize (lg_sl ([.ref h0, .int 0, .int i0]) ++ List.replicate (4 - (lg_sl ([.ref h0, .int 0, .int i0])).length) Slot.unset).toArray = ls at hl ⊢
  have hl : lv_has ls 4 [(0, .ref h0), (1, .int 0), (2, .int i0)] := hl
  refine lv_iload_n hx hb dX3_step_0 rfl (lv_at hl 1 rfl) ?_
  have hPc := hP.sub (ws' := []) [] rfl
  have hDc := hD.sub (ws' := []) [] (by decide) rfl
  have hKc := hK.sub (tys' := []) [] rfl
  have hFc := va_free (wc := []) hD hS hA [] rfl
  refine va_callv (va_runS (As := [.int 0]) (rest := []) ⟨hx, hb, hml, hown, hts⟩ (kx_X3_needRope_0 l dC dI s.heap.size) (cwS 1 hts gX3_step_X3_needRope rfl rfl rfl (by decide +kernel) ⟨Nat.le_of_ble_eq_true rfl, Nat.le_of_ble_eq_true rfl⟩) ⟨fun a U g mk q => by obtain ⟨q0, q1, qP, qK, qD⟩ := q; exact ⟨q0, q1, qP, va_K.moved (u := U) (U := U.calling g mk a) (Vm.Alike.refl U.vm) qK, qD⟩, fun U hU hW => ⟨rfl, by rw [hU], by rw [hU]; exact hPc, va_K.moved hW.alike hKc, hDc.weaken (fun _ _ _ _ => trivial)⟩⟩ rfl rfl hl.1 rfl (lv_room (Nat.le_of_ble_eq_true rfl)) dX3_step_1 ⟨Nat.le_of_ble_eq_true rfl, Nat.le_of_ble_eq_true rfl⟩) hS (fun q _ h => hFc q h) hFc (fun u t H1 locs ht hvm hw hB hz1 hk1 hS => ?_)
  obtain ⟨hP1, hK1, hD1⟩ := hB
  rw [ht] at hP1
  have hK1 := va_K.moved hvm.symm hK1
  obtain ⟨hP, hD⟩ := va_join (wr := [(h0, .inr (7, [.ref h1, .ref h2, .ref z0, .ref z1, .ref z2, .ref z3, .int 0, .int 0, .int 0])), (h1, .inl (k0, 4, .inr (.inr (.inr (.inr (va_up (va_up (va_up (va_up (fun _ => none) 0 (some h3)) 1 (some h4)) 2 (some h5)) 3 (some h6))))))), (h2, .inr (5, [.ref z4, .ref z5, .ref z6, .ref z7, .ref z8, .ref z9, .int 0, .int 0])), (h3, .inr (6, [.ref z10, .int 0])), (h4, .inr (6, [.ref z11, .int 0])), (h5, .inr (6, [.ref z12, .int 0])), (h6, .inr (6, [.ref z13, .int 0]))]) (w1 := []) hP hD [] [0, 1, 2, 3, 4, 5, 6] rfl rfl (by decide) (by decide) hk1 hFc hP1 hD1
  generalize H1 = H at hP hS ⊢
  have hP : va_P (dC, dI) vwCl [(h0, .inr (7, [.ref h1, .ref h2, .ref z0, .ref z1, .ref z2, .ref z3, .int 0, .int 0, .int 0])), (h1, .inl (k0, 4, .inr (.inr (.inr (.inr (va_up (va_up (va_up (va_up (fun _ => none) 0 (some h3)) 1 (some h4)) 2 (some h5)) 3 (some h6))))))), (h2, .inr (5, [.ref z4, .ref z5, .ref z6, .ref z7, .ref z8, .ref z9, .int 0, .int 0])), (h3, .inr (6, [.ref z10, .int 0])), (h4, .inr (6, [.ref z11, .int 0])), (h5, .inr (6, [.ref z12, .int 0])), (h6, .inr (6, [.ref z13, .int 0]))] H := hP
  have hD : va_D A [(h0, .inr (7, [.ref h1, .ref h2, .ref z0, .ref z1, .ref z2, .ref z3, .int 0, .int 0, .int 0])), (h1, .inl (k0, 4, .inr (.inr (.inr (.inr (va_up (va_up (va_up (va_up (fun _ => none) 0 (some h3)) 1 (some h4)) 2 (some h5)) 3 (some h6))))))), (h2, .inr (5, [.ref z4, .ref z5, .ref z6, .ref z7, .ref z8, .ref z9, .int 0, .int 0])), (h3, .inr (6, [.ref z10, .int 0])), (h4, .inr (6, [.ref z11, .int 0])), (h5, .inr (6, [.ref z12, .int 0])), (h6, .inr (6, [.ref z13, .int 0]))] := hD
  refine lv_iload_n hx hb dX3_step_4 rfl (lv_at hl 2 rfl) ?_
  have hPc := hP.sub (ws' := []) [] rfl
  have hDc := hD.sub (ws' := []) [] (by decide) rfl
  have hKc := hK.sub (tys' := []) [] rfl
  have hFc := va_free (wc := []) hD hS hA [] rfl
  refine va_callv (va_runS (As := [.int i0]) (rest := []) ⟨hx, hb, hml, hown, hts⟩ (kx_X3_needWay_0 l dC dI H.size i0 i0_l i0_u) (cwS 1 hts gX3_step_X3_needWay rfl rfl rfl (by decide +kernel) ⟨Nat.le_of_ble_eq_true rfl, Nat.le_of_ble_eq_true rfl⟩) ⟨fun a U g mk q => by obtain ⟨q0, q1, qP, qK, qD⟩ := q; exact ⟨q0, q1, qP, va_K.moved (u := U) (U := U.calling g mk a) (Vm.Alike.refl U.vm) qK, qD⟩, fun U hU hW => ⟨rfl, by rw [hU], by rw [hU]; exact hPc, va_K.moved hW.alike hKc, hDc.weaken (fun _ _ _ _ => trivial)⟩⟩ rfl rfl hl.1 rfl (lv_room (Nat.le_of_ble_eq_true rfl)) dX3_step_5 ⟨Nat.le_of_ble_eq_true rfl, Nat.le_of_ble_eq_true rfl⟩) hS (fun q _ h => hFc q h) hFc (fun u t H1 locs ht hvm hw hB hz1 hk1 hS => ?_)
  obtain ⟨hP1, hK1, hD1⟩ := hB
  rw [ht] at hP1
  have hK1 := va_K.moved hvm.symm hK1
  obtain ⟨hP, hD⟩ := va_join (wr := [(h0, .inr (7, [.ref h1, .ref h2, .ref z0, .ref z1, .ref z2, .ref z3, .int 0, .int 0, .int 0])), (h1, .inl (k0, 4, .inr (.inr (.inr (.inr (va_up (va_up (va_up (va_up (fun _ => none) 0 (some h3)) 1 (some h4)) 2 (some h5)) 3 (some h6))))))), (h2, .inr (5, [.ref z4, .ref z5, .ref z6, .ref z7, .ref z8, .ref z9, .int 0, .int 0])), (h3, .inr (6, [.ref z10, .int 0])), (h4, .inr (6, [.ref z11, .int 0])), (h5, .inr (6, [.ref z12, .int 0])), (h6, .inr (6, [.ref z13, .int 0]))]) (w1 := []) hP hD [] [0, 1, 2, 3, 4, 5, 6] rfl rfl (by decide) (by decide) hk1 hFc hP1 hD1
  generalize H1 = H at hP hS ⊢
  have hP : va_P (dC, dI) vwCl [(h0, .inr (7, [.ref h1, .ref h2, .ref z0, .ref z1, .ref z2, .ref z3, .int 0, .int 0, .int 0])), (h1, .inl (k0, 4, .inr (.inr (.inr (.inr (va_up (va_up (va_up (va_up (fun _ => none) 0 (some h3)) 1 (some h4)) 2 (some h5)) 3 (some h6))))))), (h2, .inr (5, [.ref z4, .ref z5, .ref z6, .ref z7, .ref z8, .ref z9, .int 0, .int 0])), (h3, .inr (6, [.ref z10, .int 0])), (h4, .inr (6, [.ref z11, .int 0])), (h5, .inr (6, [.ref z12, .int 0])), (h6, .inr (6, [.ref z13, .int 0]))] H := hP
  have hD : va_D A [(h0, .inr (7, [.ref h1, .ref h2, .ref z0, .ref z1, .ref z2, .ref z3, .int 0, .int 0, .int 0])), (h1, .inl (k0, 4, .inr (.inr (.inr (.inr (va_up (va_up (va_up (va_up (fun _ => none) 0 (some h3)) 1 (some h4)) 2 (some h5)) 3 (some h6))))))), (h2, .inr (5, [.ref z4, .ref z5, .ref z6, .ref z7, .ref z8, .ref z9, .int 0, .int 0])), (h3, .inr (6, [.ref z10, .int 0])), (h4, .inr (6, [.ref z11, .int 0])), (h5, .inr (6, [.ref z12, .int 0])), (h6, .inr (6, [.ref z13, .int 0]))] := hD
  refine lv_aload_n hx hb dX3_step_8 rfl (lv_at hl 0 rfl) ?_
  refine va_get (D := (dC, dI)) (ci := 7) (v := .ref h2) (C := RX3) (T := TX3) (N := 9) hx hb hts (by decide +kernel) hown hK hP 0 rfl rfl 1 (by decide) (hts (.fieldLink RX3 18 "Rewriterope" "book" "LRewriterope$RuleBook;") (by decide +kernel)) (fun _ h9 => h9) rfl dX3_step_9 ?_
  refine lv_aload_n hx hb dX3_step_12 rfl (lv_at hl 0 rfl) ?_
  refine va_get (D := (dC, dI)) (ci := 7) (v := .ref h1) (C := RX3) (T := TX3) (N := 9) hx hb hts (by decide +kernel) hown hK hP 0 rfl rfl 0 (by decide) (hts (.fieldLink RX3 11 "Rewriterope" "ropes" "[LRewriterope$Text;") (by decide +kernel)) (fun _ h9 => h9) rfl dX3_step_13 ?_
  refine lv_iload_n hx hb dX3_step_16 rfl (lv_at hl 1 rfl) ?_
  refine va_aldq (D := (dC, dI)) hx hb hK hP 1 0 rfl rfl (by unfold vp_in; decide) dX3_step_17 ?_
  refine W.eq (g2 := F0 m 18 ls [.ref h3, .ref h2]) rfl ?_
  refine lv_iload_n hx hb dX3_step_18 rfl (lv_at hl 2 rfl) ?_
  have hPc := hP.sub (ws' := [(h2, .inr (5, [.ref z4, .ref z5, .ref z6, .ref z7, .ref z8, .ref z9, .int 0, .int 0])), (h3, .inr (6, [.ref z10, .int 0]))]) [2, 3] rfl
  have hDc := hD.sub (ws' := [(h2, .inr (5, [.ref z4, .ref z5, .ref z6, .ref z7, .ref z8, .ref z9, .int 0, .int 0])), (h3, .inr (6, [.ref z10, .int 0]))]) [2, 3] (by decide) rfl
  have hKc := hK.sub (tys' := []) [] rfl
  have hFc := va_free (wc := [(h2, .inr (5, [.ref z4, .ref z5, .ref z6, .ref z7, .ref z8, .ref z9, .int 0, .int 0])), (h3, .inr (6, [.ref z10, .int 0]))]) hD hS hA [2, 3] rfl
  refine va_calli (va_runV (As := [.ref h3, .int i0]) (rest := []) ⟨hx, hb, hml, hown, hts⟩ (kx_X1_spotByWay_s0 l dC dI h2 h3 z4 z5 z6 z7 z8 z9 z10 H.size i0 i0_l i0_u) (cwV 2 hts gX3_step_X1_spotByWay rfl rfl rfl (by decide +kernel) ⟨Nat.le_of_ble_eq_true rfl, Nat.le_of_ble_eq_true rfl⟩) ⟨fun a U g mk q => by obtain ⟨q0, q1, qP, qK, qD⟩ := q; exact ⟨q0, q1, qP, va_K.moved (u := U) (U := U.calling g mk a) (Vm.Alike.refl U.vm) qK, qD⟩, va_recv hKc hPc (ci := 5) (q0 := 0) rfl rfl, fun U hU hW => ⟨rfl, by rw [hU], by rw [hU]; exact hPc, va_K.moved hW.alike hKc, hDc.weaken (fun _ _ _ _ => trivial)⟩⟩ rfl rfl hl.1 rfl (lv_room (Nat.le_of_ble_eq_true rfl)) dX3_step_19 ⟨Nat.le_of_ble_eq_true rfl, Nat.le_of_ble_eq_true rfl⟩) hS (fun q _ h => hFc q h) hFc (fun r9 u t H1 locs ht hvm hw hB hz1 hk1 hS => ?_)
  obtain rfl := hw
  obtain ⟨hP1, hK1, hD1⟩ := hB
  rw [ht] at hP1
  have hK1 := va_K.moved hvm.symm hK1
  obtain ⟨hP, hD⟩ := va_join (wr := [(h0, .inr (7, [.ref h1, .ref h2, .ref z0, .ref z1, .ref z2, .ref z3, .int 0, .int 0, .int 0])), (h1, .inl (k0, 4, .inr (.inr (.inr (.inr (va_up (va_up (va_up (va_up (fun _ => none) 0 (some h3)) 1 (some h4)) 2 (some h5)) 3 (some h6))))))), (h4, .inr (6, [.ref z11, .int 0])), (h5, .inr (6, [.ref z12, .int 0])), (h6, .inr (6, [.ref z13, .int 0]))]) (w1 := [(h2, .inr (5, [.ref z4, .ref z5, .ref z6, .ref z7, .ref z8, .ref z9, .int 0, .int 0])), (h3, .inr (6, [.ref z10, .int 0]))]) hP hD [2, 3] [0, 1, 4, 5, 6] rfl rfl (by decide) (by decide) hk1 hFc hP1 hD1
  generalize H1 = H at hP hS ⊢
  have hP : va_P (dC, dI) vwCl [(h0, .inr (7, [.ref h1, .ref h2, .ref z0, .ref z1, .ref z2, .ref z3, .int 0, .int 0, .int 0])), (h1, .inl (k0, 4, .inr (.inr (.inr (.inr (va_up (va_up (va_up (va_up (fun _ => none) 0 (some h3)) 1 (some h4)) 2 (some h5)) 3 (some h6))))))), (h4, .inr (6, [.ref z11, .int 0])), (h5, .inr (6, [.ref z12, .int 0])), (h6, .inr (6, [.ref z13, .int 0])), (h2, .inr (5, [.ref z4, .ref z5, .ref z6, .ref z7, .ref z8, .ref z9, .int 0, .int 0])), (h3, .inr (6, [.ref z10, .int 0]))] H := hP
  have hD : va_D A [(h0, .inr (7, [.ref h1, .ref h2, .ref z0, .ref z1, .ref z2, .ref z3, .int 0, .int 0, .int 0])), (h1, .inl (k0, 4, .inr (.inr (.inr (.inr (va_up (va_up (va_up (va_up (fun _ => none) 0 (some h3)) 1 (some h4)) 2 (some h5)) 3 (some h6))))))), (h4, .inr (6, [.ref z11, .int 0])), (h5, .inr (6, [.ref z12, .int 0])), (h6, .inr (6, [.ref z13, .int 0])), (h2, .inr (5, [.ref z4, .ref z5, .ref z6, .ref z7, .ref z8, .ref z9, .int 0, .int 0])), (h3, .inr (6, [.ref z10, .int 0]))] := hD
  refine lv_istore_n (lv' := [(3, .int (-1)), (0, .ref h0), (1, .int 0), (2, .int i0)]) hx hb dX3_step_22 rfl hl (by decide) rfl (fun ls hl => ?_)
  refine lv_iload_n hx hb dX3_step_23 rfl (lv_at hl 0 rfl) ?_
  refine lv_iconst (v := (-1)) hx hb dX3_step_24 (by decide) ?_
  refine lv_icmp_ne (tgt := 30) hx hb dX3_step_25 (by decide) (fun c9 => absurd (by decide) c9) (fun _ => ?_)
  refine lv_iconst (v := (-1)) hx hb dX3_step_28 (by decide) ?_
  have hP := hP.sub (ws' := [(h0, .inr (7, [.ref h1, .ref h2, .ref z0, .ref z1, .ref z2, .ref z3, .int 0, .int 0, .int 0])), (h1, .inl (k0, 4, .inr (.inr (.inr (.inr (va_up (va_up (va_up (va_up (fun _ => none) 0 (some h3)) 1 (some h4)) 2 (some h5)) 3 (some h6))))))), (h2, .inr (5, [.ref z4, .ref z5, .ref z6, .ref z7, .ref z8, .ref z9, .int 0, .int 0])), (h3, .inr (6, [.ref z10, .int 0])), (h4, .inr (6, [.ref z11, .int 0])), (h5, .inr (6, [.ref z12, .int 0])), (h6, .inr (6, [.ref z13, .int 0]))]) [0, 1, 5, 6, 2, 3, 4] rfl
  have hD := hD.sub (ws' := [(h0, .inr (7, [.ref h1, .ref h2, .ref z0, .ref z1, .ref z2, .ref z3, .int 0, .int 0, .int 0])), (h1, .inl (k0, 4, .inr (.inr (.inr (.inr (va_up (va_up (va_up (va_up (fun _ => none) 0 (some h3)) 1 (some h4)) 2 (some h5)) 3 (some h6))))))), (h2, .inr (5, [.ref z4, .ref z5, .ref z6, .ref z7, .ref z8, .ref z9, .int 0, .int 0])), (h3, .inr (6, [.ref z10, .int 0])), (h4, .inr (6, [.ref z11, .int 0])), (h5, .inr (6, [.ref z12, .int 0])), (h6, .inr (6, [.ref z13, .int 0]))]) [0, 1, 5, 6, 2, 3, 4] (by decide) rfl
  exact W.iret (v := (-1)) hx hb hr (fun t ht hW => ⟨⟨(-1), (), rfl, rfl, by rw [ht]; exact hP, va_K.moved hW.alike hK, hD⟩, hS.F ht⟩) hS.2.2 dX3_step_29
set_option maxHeartbeats 4000000 in
set_option maxRecDepth 100000 in
theorem kx_X3_step_1 (l : Launch) (dC : Nat → ClassId) (dI : Nat → Nat → Nat) (h0 : Nat) (h1 : Nat) (h2 : Nat) (h3 : Nat) (h4 : Nat) (h5 : Nat) (h6 : Nat) (z0 : Nat) (z1 : Nat) (z2 : Nat) (z3 : Nat) (z4 : Nat) (z5 : Nat) (z6 : Nat) (z7 : Nat) (z8 : Nat) (z9 : Nat) (z10 : Nat) (z11 : Nat) (z12 : Nat) (z13 : Nat) (k0 : ClassId) (sz : Nat) (i0 : Int32) (i0_l : (0 : Int) ≤ i0.toInt) (i0_u : i0.toInt ≤ (2 : Int)) : Met l yX3_step wsX3_step ({ frames := 3, cells := 0, slots := 0, locals := 66 }) (va_Pc [.ref h0, .int 1, .int i0] (fun U => U.heap.size = sz ∧ va_P (dC, dI) vwCl [(h0, .inr (7, [.ref h1, .ref h2, .ref z0, .ref z1, .ref z2, .ref z3, .int 0, .int 0, .int 0])), (h1, .inl (k0, 4, .inr (.inr (.inr (.inr (va_up (va_up (va_up (va_up (fun _ => none) 0 (some h3)) 1 (some h4)) 2 (some h5)) 3 (some h6))))))), (h2, .inr (5, [.ref z4, .ref z5, .ref z6, .ref z7, .ref z8, .ref z9, .int 0, .int 0])), (h3, .inr (6, [.ref z10, .int 0])), (h4, .inr (6, [.ref z11, .int 0])), (h5, .inr (6, [.ref z12, .int 0])), (h6, .inr (6, [.ref z13, .int 0]))] U.heap ∧ va_K (dC, dI) vwCl [(k0, .object "Rewriterope$Text")] U ∧ va_D (fun _ => True) [(h0, .inr (7, [.ref h1, .ref h2, .ref z0, .ref z1, .ref z2, .ref z3, .int 0, .int 0, .int 0])), (h1, .inl (k0, 4, .inr (.inr (.inr (.inr (va_up (va_up (va_up (va_up (fun _ => none) 0 (some h3)) 1 (some h4)) 2 (some h5)) 3 (some h6))))))), (h2, .inr (5, [.ref z4, .ref z5, .ref z6, .ref z7, .ref z8, .ref z9, .int 0, .int 0])), (h3, .inr (6, [.ref z10, .int 0])), (h4, .inr (6, [.ref z11, .int 0])), (h5, .inr (6, [.ref z12, .int 0])), (h6, .inr (6, [.ref z13, .int 0]))])) (va_Qi (fun (r : Int32) (_ : Unit) => r = (-1)) (fun (_ : Unit) (t : State) => va_P (dC, dI) vwCl [(h0, .inr (7, [.ref h1, .ref h2, .ref z0, .ref z1, .ref z2, .ref z3, .int 0, .int 0, .int 0])), (h1, .inl (k0, 4, .inr (.inr (.inr (.inr (va_up (va_up (va_up (va_up (fun _ => none) 0 (some h3)) 1 (some h4)) 2 (some h5)) 3 (some h6))))))), (h2, .inr (5, [.ref z4, .ref z5, .ref z6, .ref z7, .ref z8, .ref z9, .int 0, .int 0])), (h3, .inr (6, [.ref z10, .int 0])), (h4, .inr (6, [.ref z11, .int 0])), (h5, .inr (6, [.ref z12, .int 0])), (h6, .inr (6, [.ref z13, .int 0]))] t.heap ∧ va_K (dC, dI) vwCl [(k0, .object "Rewriterope$Text")] t ∧ va_D (va_A [(h0, .inr (7, [.ref h1, .ref h2, .ref z0, .ref z1, .ref z2, .ref z3, .int 0, .int 0, .int 0])), (h1, .inl (k0, 4, .inr (.inr (.inr (.inr (va_up (va_up (va_up (va_up (fun _ => none) 0 (some h3)) 1 (some h4)) 2 (some h5)) 3 (some h6))))))), (h2, .inr (5, [.ref z4, .ref z5, .ref z6, .ref z7, .ref z8, .ref z9, .int 0, .int 0])), (h3, .inr (6, [.ref z10, .int 0])), (h4, .inr (6, [.ref z11, .int 0])), (h5, .inr (6, [.ref z12, .int 0])), (h6, .inr (6, [.ref z13, .int 0]))] sz) [(h0, .inr (7, [.ref h1, .ref h2, .ref z0, .ref z1, .ref z2, .ref z3, .int 0, .int 0, .int 0])), (h1, .inl (k0, 4, .inr (.inr (.inr (.inr (va_up (va_up (va_up (va_up (fun _ => none) 0 (some h3)) 1 (some h4)) 2 (some h5)) 3 (some h6))))))), (h2, .inr (5, [.ref z4, .ref z5, .ref z6, .ref z7, .ref z8, .ref z9, .int 0, .int 0])), (h3, .inr (6, [.ref z10, .int 0])), (h4, .inr (6, [.ref z11, .int 0])), (h5, .inr (6, [.ref z12, .int 0])), (h6, .inr (6, [.ref z13, .int 0]))]) (va_A [(h0, .inr (7, [.ref h1, .ref h2, .ref z0, .ref z1, .ref z2, .ref z3, .int 0, .int 0, .int 0])), (h1, .inl (k0, 4, .inr (.inr (.inr (.inr (va_up (va_up (va_up (va_up (fun _ => none) 0 (some h3)) 1 (some h4)) 2 (some h5)) 3 (some h6))))))), (h2, .inr (5, [.ref z4, .ref z5, .ref z6, .ref z7, .ref z8, .ref z9, .int 0, .int 0])), (h3, .inr (6, [.ref z10, .int 0])), (h4, .inr (6, [.ref z11, .int 0])), (h5, .inr (6, [.ref z12, .int 0])), (h6, .inr (6, [.ref z13, .int 0]))] sz)) 0 0 (va_A [(h0, .inr (7, [.ref h1, .ref h2, .ref z0, .ref z1, .ref z2, .ref z3, .int 0, .int 0, .int 0])), (h1, .inl (k0, 4, .inr (.inr (.inr (.inr (va_up (va_up (va_up (va_up (fun _ => none) 0 (some h3)) 1 (some h4)) 2 (some h5)) 3 (some h6))))))), (h2, .inr (5, [.ref z4, .ref z5, .ref z6, .ref z7, .ref z8, .ref z9, .int 0, .int 0])), (h3, .inr (6, [.ref z10, .int 0])), (h4, .inr (6, [.ref z11, .int 0])), (h5, .inr (6, [.ref z12, .int 0])), (h6, .inr (6, [.ref z13, .int 0]))] sz) := by
  refine Met.ofW (cc := cX3_step) (maxL := 4) (ret := (some .int)) (by decide) rfl ?_
  intro p e s m args below meth c s₁ B hml hv
  obtain ⟨rfl, hsz, hP, hK, hD0⟩ := hv
  have hx := B.exec
  have hb := B.bytes
  have hr := B.returns
  have hts := atoms_spec (ws := wsX3_step) B.pre
  have hown : s.vm.findClass RX3 = some m.cls := findClass_of_methodNamed B.named
  have hlocks := B.notSynchronized
  subst hsz
  have hD := hD0.self (sz := s.heap.size)
  generalize hAe : va_A [(h0, .inr (7, [.ref h1, .ref h2, .ref z0, .ref z1, .ref z2, .ref z3, .int 0, .int 0, .int 0])), (h1, .inl (k0, 4, .inr (.inr (.inr (.inr (va_up (va_up (va_up (va_up (fun _ => none) 0 (some h3)) 1 (some h4)) 2 (some h5)) 3 (some h6))))))), (h2, .inr (5, [.ref z4, .ref z5, .ref z6, .ref z7, .ref z8, .ref z9, .int 0, .int 0])), (h3, .inr (6, [.ref z10, .int 0])), (h4, .inr (6, [.ref z11, .int 0])), (h5, .inr (6, [.ref z12, .int 0])), (h6, .inr (6, [.ref z13, .int 0]))] s.heap.size = A at hD ⊢
  have hA : ∀ q : Nat, s.heap.size ≤ q → A q := fun q h => by rw [← hAe]; exact Or.inr h
  have hS : va_S A s.heap s.heap [] := va_S.rf
  have hP : va_P (dC, dI) vwCl [(h0, .inr (7, [.ref h1, .ref h2, .ref z0, .ref z1, .ref z2, .ref z3, .int 0, .int 0, .int 0])), (h1, .inl (k0, 4, .inr (.inr (.inr (.inr (va_up (va_up (va_up (va_up (fun _ => none) 0 (some h3)) 1 (some h4)) 2 (some h5)) 3 (some h6))))))), (h2, .inr (5, [.ref z4, .ref z5, .ref z6, .ref z7, .ref z8, .ref z9, .int 0, .int 0])), (h3, .inr (6, [.ref z10, .int 0])), (h4, .inr (6, [.ref z11, .int 0])), (h5, .inr (6, [.ref z12, .int 0])), (h6, .inr (6, [.ref z13, .int 0]))] s.heap := hP
  have hl := lv_entry ([.ref h0, .int 1, .int i0]) (n := 4) (Nat.le_of_ble_eq_true rfl)
  rw [lg_entry_eq]
  generalize (lg_sl ([.ref h0, .int 1, .int i0]) ++ List.replicate (4 - (lg_sl ([.ref h0, .int 1, .int i0])).length) Slot.unset).toArray = ls at hl ⊢
  have hl : lv_has ls 4 [(0, .ref h0), (1, .int 1), (2, .int i0)] := hl
  refine lv_iload_n hx hb dX3_step_0 rfl (lv_at hl 1 rfl) ?_
  have hPc := hP.sub (ws' := []) [] rfl
  have hDc := hD.sub (ws' := []) [] (by decide) rfl
  have hKc := hK.sub (tys' := []) [] rfl
  have hFc := va_free (wc := []) hD hS hA [] rfl
  refine va_callv (va_runS (As := [.int 1]) (rest := []) ⟨hx, hb, hml, hown, hts⟩ (kx_X3_needRope_1 l dC dI s.heap.size) (cwS 1 hts gX3_step_X3_needRope rfl rfl rfl (by decide +kernel) ⟨Nat.le_of_ble_eq_true rfl, Nat.le_of_ble_eq_true rfl⟩) ⟨fun a U g mk q => by obtain ⟨q0, q1, qP, qK, qD⟩ := q; exact ⟨q0, q1, qP, va_K.moved (u := U) (U := U.calling g mk a) (Vm.Alike.refl U.vm) qK, qD⟩, fun U hU hW => ⟨rfl, by rw [hU], by rw [hU]; exact hPc, va_K.moved hW.alike hKc, hDc.weaken (fun _ _ _ _ => trivial)⟩⟩ rfl rfl hl.1 rfl (lv_room (Nat.le_of_ble_eq_true rfl)) dX3_step_1 ⟨Nat.le_of_ble_eq_true rfl, Nat.le_of_ble_eq_true rfl⟩) hS (fun q _ h => hFc q h) hFc (fun u t H1 locs ht hvm hw hB hz1 hk1 hS => ?_)
  obtain ⟨hP1, hK1, hD1⟩ := hB
  rw [ht] at hP1
  have hK1 := va_K.moved hvm.symm hK1
  obtain ⟨hP, hD⟩ := va_join (wr := [(h0, .inr (7, [.ref h1, .ref h2, .ref z0, .ref z1, .ref z2, .ref z3, .int 0, .int 0, .int 0])), (h1, .inl (k0, 4, .inr (.inr (.inr (.inr (va_up (va_up (va_up (va_up (fun _ => none) 0 (some h3)) 1 (some h4)) 2 (some h5)) 3 (some h6))))))), (h2, .inr (5, [.ref z4, .ref z5, .ref z6, .ref z7, .ref z8, .ref z9, .int 0, .int 0])), (h3, .inr (6, [.ref z10, .int 0])), (h4, .inr (6, [.ref z11, .int 0])), (h5, .inr (6, [.ref z12, .int 0])), (h6, .inr (6, [.ref z13, .int 0]))]) (w1 := []) hP hD [] [0, 1, 2, 3, 4, 5, 6] rfl rfl (by decide) (by decide) hk1 hFc hP1 hD1
  generalize H1 = H at hP hS ⊢
  have hP : va_P (dC, dI) vwCl [(h0, .inr (7, [.ref h1, .ref h2, .ref z0, .ref z1, .ref z2, .ref z3, .int 0, .int 0, .int 0])), (h1, .inl (k0, 4, .inr (.inr (.inr (.inr (va_up (va_up (va_up (va_up (fun _ => none) 0 (some h3)) 1 (some h4)) 2 (some h5)) 3 (some h6))))))), (h2, .inr (5, [.ref z4, .ref z5, .ref z6, .ref z7, .ref z8, .ref z9, .int 0, .int 0])), (h3, .inr (6, [.ref z10, .int 0])), (h4, .inr (6, [.ref z11, .int 0])), (h5, .inr (6, [.ref z12, .int 0])), (h6, .inr (6, [.ref z13, .int 0]))] H := hP
  have hD : va_D A [(h0, .inr (7, [.ref h1, .ref h2, .ref z0, .ref z1, .ref z2, .ref z3, .int 0, .int 0, .int 0])), (h1, .inl (k0, 4, .inr (.inr (.inr (.inr (va_up (va_up (va_up (va_up (fun _ => none) 0 (some h3)) 1 (some h4)) 2 (some h5)) 3 (some h6))))))), (h2, .inr (5, [.ref z4, .ref z5, .ref z6, .ref z7, .ref z8, .ref z9, .int 0, .int 0])), (h3, .inr (6, [.ref z10, .int 0])), (h4, .inr (6, [.ref z11, .int 0])), (h5, .inr (6, [.ref z12, .int 0])), (h6, .inr (6, [.ref z13, .int 0]))] := hD
  refine lv_iload_n hx hb dX3_step_4 rfl (lv_at hl 2 rfl) ?_
  have hPc := hP.sub (ws' := []) [] rfl
  have hDc := hD.sub (ws' := []) [] (by decide) rfl
  have hKc := hK.sub (tys' := []) [] rfl
  have hFc := va_free (wc := []) hD hS hA [] rfl
  refine va_callv (va_runS (As := [.int i0]) (rest := []) ⟨hx, hb, hml, hown, hts⟩ (kx_X3_needWay_0 l dC dI H.size i0 i0_l i0_u) (cwS 1 hts gX3_step_X3_needWay rfl rfl rfl (by decide +kernel) ⟨Nat.le_of_ble_eq_true rfl, Nat.le_of_ble_eq_true rfl⟩) ⟨fun a U g mk q => by obtain ⟨q0, q1, qP, qK, qD⟩ := q; exact ⟨q0, q1, qP, va_K.moved (u := U) (U := U.calling g mk a) (Vm.Alike.refl U.vm) qK, qD⟩, fun U hU hW => ⟨rfl, by rw [hU], by rw [hU]; exact hPc, va_K.moved hW.alike hKc, hDc.weaken (fun _ _ _ _ => trivial)⟩⟩ rfl rfl hl.1 rfl (lv_room (Nat.le_of_ble_eq_true rfl)) dX3_step_5 ⟨Nat.le_of_ble_eq_true rfl, Nat.le_of_ble_eq_true rfl⟩) hS (fun q _ h => hFc q h) hFc (fun u t H1 locs ht hvm hw hB hz1 hk1 hS => ?_)
  obtain ⟨hP1, hK1, hD1⟩ := hB
  rw [ht] at hP1
  have hK1 := va_K.moved hvm.symm hK1
  obtain ⟨hP, hD⟩ := va_join (wr := [(h0, .inr (7, [.ref h1, .ref h2, .ref z0, .ref z1, .ref z2, .ref z3, .int 0, .int 0, .int 0])), (h1, .inl (k0, 4, .inr (.inr (.inr (.inr (va_up (va_up (va_up (va_up (fun _ => none) 0 (some h3)) 1 (some h4)) 2 (some h5)) 3 (some h6))))))), (h2, .inr (5, [.ref z4, .ref z5, .ref z6, .ref z7, .ref z8, .ref z9, .int 0, .int 0])), (h3, .inr (6, [.ref z10, .int 0])), (h4, .inr (6, [.ref z11, .int 0])), (h5, .inr (6, [.ref z12, .int 0])), (h6, .inr (6, [.ref z13, .int 0]))]) (w1 := []) hP hD [] [0, 1, 2, 3, 4, 5, 6] rfl rfl (by decide) (by decide) hk1 hFc hP1 hD1
  generalize H1 = H at hP hS ⊢
  have hP : va_P (dC, dI) vwCl [(h0, .inr (7, [.ref h1, .ref h2, .ref z0, .ref z1, .ref z2, .ref z3, .int 0, .int 0, .int 0])), (h1, .inl (k0, 4, .inr (.inr (.inr (.inr (va_up (va_up (va_up (va_up (fun _ => none) 0 (some h3)) 1 (some h4)) 2 (some h5)) 3 (some h6))))))), (h2, .inr (5, [.ref z4, .ref z5, .ref z6, .ref z7, .ref z8, .ref z9, .int 0, .int 0])), (h3, .inr (6, [.ref z10, .int 0])), (h4, .inr (6, [.ref z11, .int 0])), (h5, .inr (6, [.ref z12, .int 0])), (h6, .inr (6, [.ref z13, .int 0]))] H := hP
  have hD : va_D A [(h0, .inr (7, [.ref h1, .ref h2, .ref z0, .ref z1, .ref z2, .ref z3, .int 0, .int 0, .int 0])), (h1, .inl (k0, 4, .inr (.inr (.inr (.inr (va_up (va_up (va_up (va_up (fun _ => none) 0 (some h3)) 1 (some h4)) 2 (some h5)) 3 (some h6))))))), (h2, .inr (5, [.ref z4, .ref z5, .ref z6, .ref z7, .ref z8, .ref z9, .int 0, .int 0])), (h3, .inr (6, [.ref z10, .int 0])), (h4, .inr (6, [.ref z11, .int 0])), (h5, .inr (6, [.ref z12, .int 0])), (h6, .inr (6, [.ref z13, .int 0]))] := hD
  refine lv_aload_n hx hb dX3_step_8 rfl (lv_at hl 0 rfl) ?_
  refine va_get (D := (dC, dI)) (ci := 7) (v := .ref h2) (C := RX3) (T := TX3) (N := 9) hx hb hts (by decide +kernel) hown hK hP 0 rfl rfl 1 (by decide) (hts (.fieldLink RX3 18 "Rewriterope" "book" "LRewriterope$RuleBook;") (by decide +kernel)) (fun _ h9 => h9) rfl dX3_step_9 ?_
  refine lv_aload_n hx hb dX3_step_12 rfl (lv_at hl 0 rfl) ?_
  refine va_get (D := (dC, dI)) (ci := 7) (v := .ref h1) (C := RX3) (T := TX3) (N := 9) hx hb hts (by decide +kernel) hown hK hP 0 rfl rfl 0 (by decide) (hts (.fieldLink RX3 11 "Rewriterope" "ropes" "[LRewriterope$Text;") (by decide +kernel)) (fun _ h9 => h9) rfl dX3_step_13 ?_
  refine lv_iload_n hx hb dX3_step_16 rfl (lv_at hl 1 rfl) ?_
  refine va_aldq (D := (dC, dI)) hx hb hK hP 1 0 rfl rfl (by unfold vp_in; decide) dX3_step_17 ?_
  refine W.eq (g2 := F0 m 18 ls [.ref h4, .ref h2]) rfl ?_
  refine lv_iload_n hx hb dX3_step_18 rfl (lv_at hl 2 rfl) ?_
  have hPc := hP.sub (ws' := [(h2, .inr (5, [.ref z4, .ref z5, .ref z6, .ref z7, .ref z8, .ref z9, .int 0, .int 0])), (h4, .inr (6, [.ref z11, .int 0]))]) [2, 4] rfl
  have hDc := hD.sub (ws' := [(h2, .inr (5, [.ref z4, .ref z5, .ref z6, .ref z7, .ref z8, .ref z9, .int 0, .int 0])), (h4, .inr (6, [.ref z11, .int 0]))]) [2, 4] (by decide) rfl
  have hKc := hK.sub (tys' := []) [] rfl
  have hFc := va_free (wc := [(h2, .inr (5, [.ref z4, .ref z5, .ref z6, .ref z7, .ref z8, .ref z9, .int 0, .int 0])), (h4, .inr (6, [.ref z11, .int 0]))]) hD hS hA [2, 4] rfl
  refine va_calli (va_runV (As := [.ref h4, .int i0]) (rest := []) ⟨hx, hb, hml, hown, hts⟩ (kx_X1_spotByWay_s0 l dC dI h2 h4 z4 z5 z6 z7 z8 z9 z11 H.size i0 i0_l i0_u) (cwV 2 hts gX3_step_X1_spotByWay rfl rfl rfl (by decide +kernel) ⟨Nat.le_of_ble_eq_true rfl, Nat.le_of_ble_eq_true rfl⟩) ⟨fun a U g mk q => by obtain ⟨q0, q1, qP, qK, qD⟩ := q; exact ⟨q0, q1, qP, va_K.moved (u := U) (U := U.calling g mk a) (Vm.Alike.refl U.vm) qK, qD⟩, va_recv hKc hPc (ci := 5) (q0 := 0) rfl rfl, fun U hU hW => ⟨rfl, by rw [hU], by rw [hU]; exact hPc, va_K.moved hW.alike hKc, hDc.weaken (fun _ _ _ _ => trivial)⟩⟩ rfl rfl hl.1 rfl (lv_room (Nat.le_of_ble_eq_true rfl)) dX3_step_19 ⟨Nat.le_of_ble_eq_true rfl, Nat.le_of_ble_eq_true rfl⟩) hS (fun q _ h => hFc q h) hFc (fun r9 u t H1 locs ht hvm hw hB hz1 hk1 hS => ?_)
  obtain rfl := hw
  obtain ⟨hP1, hK1, hD1⟩ := hB
  rw [ht] at hP1
  have hK1 := va_K.moved hvm.symm hK1
  obtain ⟨hP, hD⟩ := va_join (wr := [(h0, .inr (7, [.ref h1, .ref h2, .ref z0, .ref z1, .ref z2, .ref z3, .int 0, .int 0, .int 0])), (h1, .inl (k0, 4, .inr (.inr (.inr (.inr (va_up (va_up (va_up (va_up (fun _ => none) 0 (some h3)) 1 (some h4)) 2 (some h5)) 3 (some h6))))))), (h3, .inr (6, [.ref z10, .int 0])), (h5, .inr (6, [.ref z12, .int 0])), (h6, .inr (6, [.ref z13, .int 0]))]) (w1 := [(h2, .inr (5, [.ref z4, .ref z5, .ref z6, .ref z7, .ref z8, .ref z9, .int 0, .int 0])), (h4, .inr (6, [.ref z11, .int 0]))]) hP hD [2, 4] [0, 1, 3, 5, 6] rfl rfl (by decide) (by decide) hk1 hFc hP1 hD1
  generalize H1 = H at hP hS ⊢
  have hP : va_P (dC, dI) vwCl [(h0, .inr (7, [.ref h1, .ref h2, .ref z0, .ref z1, .ref z2, .ref z3, .int 0, .int 0, .int 0])), (h1, .inl (k0, 4, .inr (.inr (.inr (.inr (va_up (va_up (va_up (va_up (fun _ => none) 0 (some h3)) 1 (some h4)) 2 (some h5)) 3 (some h6))))))), (h3, .inr (6, [.ref z10, .int 0])), (h5, .inr (6, [.ref z12, .int 0])), (h6, .inr (6, [.ref z13, .int 0])), (h2, .inr (5, [.ref z4, .ref z5, .ref z6, .ref z7, .ref z8, .ref z9, .int 0, .int 0])), (h4, .inr (6, [.ref z11, .int 0]))] H := hP
  have hD : va_D A [(h0, .inr (7, [.ref h1, .ref h2, .ref z0, .ref z1, .ref z2, .ref z3, .int 0, .int 0, .int 0])), (h1, .inl (k0, 4, .inr (.inr (.inr (.inr (va_up (va_up (va_up (va_up (fun _ => none) 0 (some h3)) 1 (some h4)) 2 (some h5)) 3 (some h6))))))), (h3, .inr (6, [.ref z10, .int 0])), (h5, .inr (6, [.ref z12, .int 0])), (h6, .inr (6, [.ref z13, .int 0])), (h2, .inr (5, [.ref z4, .ref z5, .ref z6, .ref z7, .ref z8, .ref z9, .int 0, .int 0])), (h4, .inr (6, [.ref z11, .int 0]))] := hD
  refine lv_istore_n (lv' := [(3, .int (-1)), (0, .ref h0), (1, .int 1), (2, .int i0)]) hx hb dX3_step_22 rfl hl (by decide) rfl (fun ls hl => ?_)
  refine lv_iload_n hx hb dX3_step_23 rfl (lv_at hl 0 rfl) ?_
  refine lv_iconst (v := (-1)) hx hb dX3_step_24 (by decide) ?_
  refine lv_icmp_ne (tgt := 30) hx hb dX3_step_25 (by decide) (fun c9 => absurd (by decide) c9) (fun _ => ?_)
  refine lv_iconst (v := (-1)) hx hb dX3_step_28 (by decide) ?_
  have hP := hP.sub (ws' := [(h0, .inr (7, [.ref h1, .ref h2, .ref z0, .ref z1, .ref z2, .ref z3, .int 0, .int 0, .int 0])), (h1, .inl (k0, 4, .inr (.inr (.inr (.inr (va_up (va_up (va_up (va_up (fun _ => none) 0 (some h3)) 1 (some h4)) 2 (some h5)) 3 (some h6))))))), (h2, .inr (5, [.ref z4, .ref z5, .ref z6, .ref z7, .ref z8, .ref z9, .int 0, .int 0])), (h3, .inr (6, [.ref z10, .int 0])), (h4, .inr (6, [.ref z11, .int 0])), (h5, .inr (6, [.ref z12, .int 0])), (h6, .inr (6, [.ref z13, .int 0]))]) [0, 1, 5, 2, 6, 3, 4] rfl
  have hD := hD.sub (ws' := [(h0, .inr (7, [.ref h1, .ref h2, .ref z0, .ref z1, .ref z2, .ref z3, .int 0, .int 0, .int 0])), (h1, .inl (k0, 4, .inr (.inr (.inr (.inr (va_up (va_up (va_up (va_up (fun _ => none) 0 (some h3)) 1 (some h4)) 2 (some h5)) 3 (some h6))))))), (h2, .inr (5, [.ref z4, .ref z5, .ref z6, .ref z7, .ref z8, .ref z9, .int 0, .int 0])), (h3, .inr (6, [.ref z10, .int 0])), (h4, .inr (6, [.ref z11, .int 0])), (h5, .inr (6, [.ref z12, .int 0])), (h6, .inr (6, [.ref z13, .int 0]))]) [0, 1, 5, 2, 6, 3, 4] (by decide) rfl
  exact W.iret (v := (-1)) hx hb hr (fun t ht hW => ⟨⟨(-1), (), rfl, rfl, by rw [ht]; exact hP, va_K.moved hW.alike hK, hD⟩, hS.F ht⟩) hS.2.2 dX3_step_29
set_option maxHeartbeats 4000000 in
set_option maxRecDepth 100000 in
theorem kx_X3_step_2 (l : Launch) (dC : Nat → ClassId) (dI : Nat → Nat → Nat) (h0 : Nat) (h1 : Nat) (h2 : Nat) (h3 : Nat) (h4 : Nat) (h5 : Nat) (h6 : Nat) (z0 : Nat) (z1 : Nat) (z2 : Nat) (z3 : Nat) (z4 : Nat) (z5 : Nat) (z6 : Nat) (z7 : Nat) (z8 : Nat) (z9 : Nat) (z10 : Nat) (z11 : Nat) (z12 : Nat) (z13 : Nat) (k0 : ClassId) (sz : Nat) (i0 : Int32) (i0_l : (0 : Int) ≤ i0.toInt) (i0_u : i0.toInt ≤ (2 : Int)) : Met l yX3_step wsX3_step ({ frames := 3, cells := 0, slots := 0, locals := 66 }) (va_Pc [.ref h0, .int 2, .int i0] (fun U => U.heap.size = sz ∧ va_P (dC, dI) vwCl [(h0, .inr (7, [.ref h1, .ref h2, .ref z0, .ref z1, .ref z2, .ref z3, .int 0, .int 0, .int 0])), (h1, .inl (k0, 4, .inr (.inr (.inr (.inr (va_up (va_up (va_up (va_up (fun _ => none) 0 (some h3)) 1 (some h4)) 2 (some h5)) 3 (some h6))))))), (h2, .inr (5, [.ref z4, .ref z5, .ref z6, .ref z7, .ref z8, .ref z9, .int 0, .int 0])), (h3, .inr (6, [.ref z10, .int 0])), (h4, .inr (6, [.ref z11, .int 0])), (h5, .inr (6, [.ref z12, .int 0])), (h6, .inr (6, [.ref z13, .int 0]))] U.heap ∧ va_K (dC, dI) vwCl [(k0, .object "Rewriterope$Text")] U ∧ va_D (fun _ => True) [(h0, .inr (7, [.ref h1, .ref h2, .ref z0, .ref z1, .ref z2, .ref z3, .int 0, .int 0, .int 0])), (h1, .inl (k0, 4, .inr (.inr (.inr (.inr (va_up (va_up (va_up (va_up (fun _ => none) 0 (some h3)) 1 (some h4)) 2 (some h5)) 3 (some h6))))))), (h2, .inr (5, [.ref z4, .ref z5, .ref z6, .ref z7, .ref z8, .ref z9, .int 0, .int 0])), (h3, .inr (6, [.ref z10, .int 0])), (h4, .inr (6, [.ref z11, .int 0])), (h5, .inr (6, [.ref z12, .int 0])), (h6, .inr (6, [.ref z13, .int 0]))])) (va_Qi (fun (r : Int32) (_ : Unit) => r = (-1)) (fun (_ : Unit) (t : State) => va_P (dC, dI) vwCl [(h0, .inr (7, [.ref h1, .ref h2, .ref z0, .ref z1, .ref z2, .ref z3, .int 0, .int 0, .int 0])), (h1, .inl (k0, 4, .inr (.inr (.inr (.inr (va_up (va_up (va_up (va_up (fun _ => none) 0 (some h3)) 1 (some h4)) 2 (some h5)) 3 (some h6))))))), (h2, .inr (5, [.ref z4, .ref z5, .ref z6, .ref z7, .ref z8, .ref z9, .int 0, .int 0])), (h3, .inr (6, [.ref z10, .int 0])), (h4, .inr (6, [.ref z11, .int 0])), (h5, .inr (6, [.ref z12, .int 0])), (h6, .inr (6, [.ref z13, .int 0]))] t.heap ∧ va_K (dC, dI) vwCl [(k0, .object "Rewriterope$Text")] t ∧ va_D (va_A [(h0, .inr (7, [.ref h1, .ref h2, .ref z0, .ref z1, .ref z2, .ref z3, .int 0, .int 0, .int 0])), (h1, .inl (k0, 4, .inr (.inr (.inr (.inr (va_up (va_up (va_up (va_up (fun _ => none) 0 (some h3)) 1 (some h4)) 2 (some h5)) 3 (some h6))))))), (h2, .inr (5, [.ref z4, .ref z5, .ref z6, .ref z7, .ref z8, .ref z9, .int 0, .int 0])), (h3, .inr (6, [.ref z10, .int 0])), (h4, .inr (6, [.ref z11, .int 0])), (h5, .inr (6, [.ref z12, .int 0])), (h6, .inr (6, [.ref z13, .int 0]))] sz) [(h0, .inr (7, [.ref h1, .ref h2, .ref z0, .ref z1, .ref z2, .ref z3, .int 0, .int 0, .int 0])), (h1, .inl (k0, 4, .inr (.inr (.inr (.inr (va_up (va_up (va_up (va_up (fun _ => none) 0 (some h3)) 1 (some h4)) 2 (some h5)) 3 (some h6))))))), (h2, .inr (5, [.ref z4, .ref z5, .ref z6, .ref z7, .ref z8, .ref z9, .int 0, .int 0])), (h3, .inr (6, [.ref z10, .int 0])), (h4, .inr (6, [.ref z11, .int 0])), (h5, .inr (6, [.ref z12, .int 0])), (h6, .inr (6, [.ref z13, .int 0]))]) (va_A [(h0, .inr (7, [.ref h1, .ref h2, .ref z0, .ref z1, .ref z2, .ref z3, .int 0, .int 0, .int 0])), (h1, .inl (k0, 4, .inr (.inr (.inr (.inr (va_up (va_up (va_up (va_up (fun _ => none) 0 (some h3)) 1 (some h4)) 2 (some h5)) 3 (some h6))))))), (h2, .inr (5, [.ref z4, .ref z5, .ref z6, .ref z7, .ref z8, .ref z9, .int 0, .int 0])), (h3, .inr (6, [.ref z10, .int 0])), (h4, .inr (6, [.ref z11, .int 0])), (h5, .inr (6, [.ref z12, .int 0])), (h6, .inr (6, [.ref z13, .int 0]))] sz)) 0 0 (va_A [(h0, .inr (7, [.ref h1, .ref h2, .ref z0, .ref z1, .ref z2, .ref z3, .int 0, .int 0, .int 0])), (h1, .inl (k0, 4, .inr (.inr (.inr (.inr (va_up (va_up (va_up (va_up (fun _ => none) 0 (some h3)) 1 (some h4)) 2 (some h5)) 3 (some h6))))))), (h2, .inr (5, [.ref z4, .ref z5, .ref z6, .ref z7, .ref z8, .ref z9, .int 0, .int 0])), (h3, .inr (6, [.ref z10, .int 0])), (h4, .inr (6, [.ref z11, .int 0])), (h5, .inr (6, [.ref z12, .int 0])), (h6, .inr (6, [.ref z13, .int 0]))] sz) := by
  refine Met.ofW (cc := cX3_step) (maxL := 4) (ret := (some .int)) (by decide) rfl ?_
  intro p e s m args below meth c s₁ B hml hv
  obtain ⟨rfl, hsz, hP, hK, hD0⟩ := hv
  have hx := B.exec
  have hb := B.bytes
  have hr := B.returns
  have hts := atoms_spec (ws := wsX3_step) B.pre
  have hown : s.vm.findClass RX3 = some m.cls := findClass_of_methodNamed B.named
  have hlocks := B.notSynchronized
  subst hsz
  have hD := hD0.self (sz := s.heap.size)
  generalize hAe : va_A [(h0, .inr (7, [.ref h1, .ref h2, .ref z0, .ref z1, .ref z2, .ref z3, .int 0, .int 0, .int 0])), (h1, .inl (k0, 4, .inr (.inr (.inr (.inr (va_up (va_up (va_up (va_up (fun _ => none) 0 (some h3)) 1 (some h4)) 2 (some h5)) 3 (some h6))))))), (h2, .inr (5, [.ref z4, .ref z5, .ref z6, .ref z7, .ref z8, .ref z9, .int 0, .int 0])), (h3, .inr (6, [.ref z10, .int 0])), (h4, .inr (6, [.ref z11, .int 0])), (h5, .inr (6, [.ref z12, .int 0])), (h6, .inr (6, [.ref z13, .int 0]))] s.heap.size = A at hD ⊢
  have hA : ∀ q : Nat, s.heap.size ≤ q → A q := fun q h => by rw [← hAe]; exact Or.inr h
  have hS : va_S A s.heap s.heap [] := va_S.rf
  have hP : va_P (dC, dI) vwCl [(h0, .inr (7, [.ref h1, .ref h2, .ref z0, .ref z1, .ref z2, .ref z3, .int 0, .int 0, .int 0])), (h1, .inl (k0, 4, .inr (.inr (.inr (.inr (va_up (va_up (va_up (va_up (fun _ => none) 0 (some h3)) 1 (some h4)) 2 (some h5)) 3 (some h6))))))), (h2, .inr (5, [.ref z4, .ref z5, .ref z6, .ref z7, .ref z8, .ref z9, .int 0, .int 0])), (h3, .inr (6, [.ref z10, .int 0])), (h4, .inr (6, [.ref z11, .int 0])), (h5, .inr (6, [.ref z12, .int 0])), (h6, .inr (6, [.ref z13, .int 0]))] s.heap := hP
  have hl := lv_entry ([.ref h0, .int 2, .int i0]) (n := 4) (Nat.le_of_ble_eq_true rfl)
  rw [lg_entry_eq]
  generalize (lg_sl ([.ref h0, .int 2, .int i0]) ++ List.replicate (4 - (lg_sl ([.ref h0, .int 2, .int i0])).length) Slot.unset).toArray = ls at hl ⊢
  have hl : lv_has ls 4 [(0, .ref h0), (1, .int 2), (2, .int i0)] := hl
  refine lv_iload_n hx hb dX3_step_0 rfl (lv_at hl 1 rfl) ?_
  have hPc := hP.sub (ws' := []) [] rfl
  have hDc := hD.sub (ws' := []) [] (by decide) rfl
  have hKc := hK.sub (tys' := []) [] rfl
  have hFc := va_free (wc := []) hD hS hA [] rfl
  refine va_callv (va_runS (As := [.int 2]) (rest := []) ⟨hx, hb, hml, hown, hts⟩ (kx_X3_needRope_2 l dC dI s.heap.size) (cwS 1 hts gX3_step_X3_needRope rfl rfl rfl (by decide +kernel) ⟨Nat.le_of_ble_eq_true rfl, Nat.le_of_ble_eq_true rfl⟩) ⟨fun a U g mk q => by obtain ⟨q0, q1, qP, qK, qD⟩ := q; exact ⟨q0, q1, qP, va_K.moved (u := U) (U := U.calling g mk a) (Vm.Alike.refl U.vm) qK, qD⟩, fun U hU hW => ⟨rfl, by rw [hU], by rw [hU]; exact hPc, va_K.moved hW.alike hKc, hDc.weaken (fun _ _ _ _ => trivial)⟩⟩ rfl rfl hl.1 rfl (lv_room (Nat.le_of_ble_eq_true rfl)) dX3_step_1 ⟨Nat.le_of_ble_eq_true rfl, Nat.le_of_ble_eq_true rfl⟩) hS (fun q _ h => hFc q h) hFc (fun u t H1 locs ht hvm hw hB hz1 hk1 hS => ?_)
  obtain ⟨hP1, hK1, hD1⟩ := hB
  rw [ht] at hP1
  have hK1 := va_K.moved hvm.symm hK1
  obtain ⟨hP, hD⟩ := va_join (wr := [(h0, .inr (7, [.ref h1, .ref h2, .ref z0, .ref z1, .ref z2, .ref z3, .int 0, .int 0, .int 0])), (h1, .inl (k0, 4, .inr (.inr (.inr (.inr (va_up (va_up (va_up (va_up (fun _ => none) 0 (some h3)) 1 (some h4)) 2 (some h5)) 3 (some h6))))))), (h2, .inr (5, [.ref z4, .ref z5, .ref z6, .ref z7, .ref z8, .ref z9, .int 0, .int 0])), (h3, .inr (6, [.ref z10, .int 0])), (h4, .inr (6, [.ref z11, .int 0])), (h5, .inr (6, [.ref z12, .int 0])), (h6, .inr (6, [.ref z13, .int 0]))]) (w1 := []) hP hD [] [0, 1, 2, 3, 4, 5, 6] rfl rfl (by decide) (by decide) hk1 hFc hP1 hD1
  generalize H1 = H at hP hS ⊢
  have hP : va_P (dC, dI) vwCl [(h0, .inr (7, [.ref h1, .ref h2, .ref z0, .ref z1, .ref z2, .ref z3, .int 0, .int 0, .int 0])), (h1, .inl (k0, 4, .inr (.inr (.inr (.inr (va_up (va_up (va_up (va_up (fun _ => none) 0 (some h3)) 1 (some h4)) 2 (some h5)) 3 (some h6))))))), (h2, .inr (5, [.ref z4, .ref z5, .ref z6, .ref z7, .ref z8, .ref z9, .int 0, .int 0])), (h3, .inr (6, [.ref z10, .int 0])), (h4, .inr (6, [.ref z11, .int 0])), (h5, .inr (6, [.ref z12, .int 0])), (h6, .inr (6, [.ref z13, .int 0]))] H := hP
  have hD : va_D A [(h0, .inr (7, [.ref h1, .ref h2, .ref z0, .ref z1, .ref z2, .ref z3, .int 0, .int 0, .int 0])), (h1, .inl (k0, 4, .inr (.inr (.inr (.inr (va_up (va_up (va_up (va_up (fun _ => none) 0 (some h3)) 1 (some h4)) 2 (some h5)) 3 (some h6))))))), (h2, .inr (5, [.ref z4, .ref z5, .ref z6, .ref z7, .ref z8, .ref z9, .int 0, .int 0])), (h3, .inr (6, [.ref z10, .int 0])), (h4, .inr (6, [.ref z11, .int 0])), (h5, .inr (6, [.ref z12, .int 0])), (h6, .inr (6, [.ref z13, .int 0]))] := hD
  refine lv_iload_n hx hb dX3_step_4 rfl (lv_at hl 2 rfl) ?_
  have hPc := hP.sub (ws' := []) [] rfl
  have hDc := hD.sub (ws' := []) [] (by decide) rfl
  have hKc := hK.sub (tys' := []) [] rfl
  have hFc := va_free (wc := []) hD hS hA [] rfl
  refine va_callv (va_runS (As := [.int i0]) (rest := []) ⟨hx, hb, hml, hown, hts⟩ (kx_X3_needWay_0 l dC dI H.size i0 i0_l i0_u) (cwS 1 hts gX3_step_X3_needWay rfl rfl rfl (by decide +kernel) ⟨Nat.le_of_ble_eq_true rfl, Nat.le_of_ble_eq_true rfl⟩) ⟨fun a U g mk q => by obtain ⟨q0, q1, qP, qK, qD⟩ := q; exact ⟨q0, q1, qP, va_K.moved (u := U) (U := U.calling g mk a) (Vm.Alike.refl U.vm) qK, qD⟩, fun U hU hW => ⟨rfl, by rw [hU], by rw [hU]; exact hPc, va_K.moved hW.alike hKc, hDc.weaken (fun _ _ _ _ => trivial)⟩⟩ rfl rfl hl.1 rfl (lv_room (Nat.le_of_ble_eq_true rfl)) dX3_step_5 ⟨Nat.le_of_ble_eq_true rfl, Nat.le_of_ble_eq_true rfl⟩) hS (fun q _ h => hFc q h) hFc (fun u t H1 locs ht hvm hw hB hz1 hk1 hS => ?_)
  obtain ⟨hP1, hK1, hD1⟩ := hB
  rw [ht] at hP1
  have hK1 := va_K.moved hvm.symm hK1
  obtain ⟨hP, hD⟩ := va_join (wr := [(h0, .inr (7, [.ref h1, .ref h2, .ref z0, .ref z1, .ref z2, .ref z3, .int 0, .int 0, .int 0])), (h1, .inl (k0, 4, .inr (.inr (.inr (.inr (va_up (va_up (va_up (va_up (fun _ => none) 0 (some h3)) 1 (some h4)) 2 (some h5)) 3 (some h6))))))), (h2, .inr (5, [.ref z4, .ref z5, .ref z6, .ref z7, .ref z8, .ref z9, .int 0, .int 0])), (h3, .inr (6, [.ref z10, .int 0])), (h4, .inr (6, [.ref z11, .int 0])), (h5, .inr (6, [.ref z12, .int 0])), (h6, .inr (6, [.ref z13, .int 0]))]) (w1 := []) hP hD [] [0, 1, 2, 3, 4, 5, 6] rfl rfl (by decide) (by decide) hk1 hFc hP1 hD1
  generalize H1 = H at hP hS ⊢
  have hP : va_P (dC, dI) vwCl [(h0, .inr (7, [.ref h1, .ref h2, .ref z0, .ref z1, .ref z2, .ref z3, .int 0, .int 0, .int 0])), (h1, .inl (k0, 4, .inr (.inr (.inr (.inr (va_up (va_up (va_up (va_up (fun _ => none) 0 (some h3)) 1 (some h4)) 2 (some h5)) 3 (some h6))))))), (h2, .inr (5, [.ref z4, .ref z5, .ref z6, .ref z7, .ref z8, .ref z9, .int 0, .int 0])), (h3, .inr (6, [.ref z10, .int 0])), (h4, .inr (6, [.ref z11, .int 0])), (h5, .inr (6, [.ref z12, .int 0])), (h6, .inr (6, [.ref z13, .int 0]))] H := hP
  have hD : va_D A [(h0, .inr (7, [.ref h1, .ref h2, .ref z0, .ref z1, .ref z2, .ref z3, .int 0, .int 0, .int 0])), (h1, .inl (k0, 4, .inr (.inr (.inr (.inr (va_up (va_up (va_up (va_up (fun _ => none) 0 (some h3)) 1 (some h4)) 2 (some h5)) 3 (some h6))))))), (h2, .inr (5, [.ref z4, .ref z5, .ref z6, .ref z7, .ref z8, .ref z9, .int 0, .int 0])), (h3, .inr (6, [.ref z10, .int 0])), (h4, .inr (6, [.ref z11, .int 0])), (h5, .inr (6, [.ref z12, .int 0])), (h6, .inr (6, [.ref z13, .int 0]))] := hD
  refine lv_aload_n hx hb dX3_step_8 rfl (lv_at hl 0 rfl) ?_
  refine va_get (D := (dC, dI)) (ci := 7) (v := .ref h2) (C := RX3) (T := TX3) (N := 9) hx hb hts (by decide +kernel) hown hK hP 0 rfl rfl 1 (by decide) (hts (.fieldLink RX3 18 "Rewriterope" "book" "LRewriterope$RuleBook;") (by decide +kernel)) (fun _ h9 => h9) rfl dX3_step_9 ?_
  refine lv_aload_n hx hb dX3_step_12 rfl (lv_at hl 0 rfl) ?_
  refine va_get (D := (dC, dI)) (ci := 7) (v := .ref h1) (C := RX3) (T := TX3) (N := 9) hx hb hts (by decide +kernel) hown hK hP 0 rfl rfl 0 (by decide) (hts (.fieldLink RX3 11 "Rewriterope" "ropes" "[LRewriterope$Text;") (by decide +kernel)) (fun _ h9 => h9) rfl dX3_step_13 ?_
  refine lv_iload_n hx hb dX3_step_16 rfl (lv_at hl 1 rfl) ?_
  refine va_aldq (D := (dC, dI)) hx hb hK hP 1 0 rfl rfl (by unfold vp_in; decide) dX3_step_17 ?_
  refine W.eq (g2 := F0 m 18 ls [.ref h5, .ref h2]) rfl ?_
  refine lv_iload_n hx hb dX3_step_18 rfl (lv_at hl 2 rfl) ?_
  have hPc := hP.sub (ws' := [(h2, .inr (5, [.ref z4, .ref z5, .ref z6, .ref z7, .ref z8, .ref z9, .int 0, .int 0])), (h5, .inr (6, [.ref z12, .int 0]))]) [2, 5] rfl
  have hDc := hD.sub (ws' := [(h2, .inr (5, [.ref z4, .ref z5, .ref z6, .ref z7, .ref z8, .ref z9, .int 0, .int 0])), (h5, .inr (6, [.ref z12, .int 0]))]) [2, 5] (by decide) rfl
  have hKc := hK.sub (tys' := []) [] rfl
  have hFc := va_free (wc := [(h2, .inr (5, [.ref z4, .ref z5, .ref z6, .ref z7, .ref z8, .ref z9, .int 0, .int 0])), (h5, .inr (6, [.ref z12, .int 0]))]) hD hS hA [2, 5] rfl
  refine va_calli (va_runV (As := [.ref h5, .int i0]) (rest := []) ⟨hx, hb, hml, hown, hts⟩ (kx_X1_spotByWay_s0 l dC dI h2 h5 z4 z5 z6 z7 z8 z9 z12 H.size i0 i0_l i0_u) (cwV 2 hts gX3_step_X1_spotByWay rfl rfl rfl (by decide +kernel) ⟨Nat.le_of_ble_eq_true rfl, Nat.le_of_ble_eq_true rfl⟩) ⟨fun a U g mk q => by obtain ⟨q0, q1, qP, qK, qD⟩ := q; exact ⟨q0, q1, qP, va_K.moved (u := U) (U := U.calling g mk a) (Vm.Alike.refl U.vm) qK, qD⟩, va_recv hKc hPc (ci := 5) (q0 := 0) rfl rfl, fun U hU hW => ⟨rfl, by rw [hU], by rw [hU]; exact hPc, va_K.moved hW.alike hKc, hDc.weaken (fun _ _ _ _ => trivial)⟩⟩ rfl rfl hl.1 rfl (lv_room (Nat.le_of_ble_eq_true rfl)) dX3_step_19 ⟨Nat.le_of_ble_eq_true rfl, Nat.le_of_ble_eq_true rfl⟩) hS (fun q _ h => hFc q h) hFc (fun r9 u t H1 locs ht hvm hw hB hz1 hk1 hS => ?_)
  obtain rfl := hw
  obtain ⟨hP1, hK1, hD1⟩ := hB
  rw [ht] at hP1
  have hK1 := va_K.moved hvm.symm hK1
  obtain ⟨hP, hD⟩ := va_join (wr := [(h0, .inr (7, [.ref h1, .ref h2, .ref z0, .ref z1, .ref z2, .ref z3, .int 0, .int 0, .int 0])), (h1, .inl (k0, 4, .inr (.inr (.inr (.inr (va_up (va_up (va_up (va_up (fun _ => none) 0 (some h3)) 1 (some h4)) 2 (some h5)) 3 (some h6))))))), (h3, .inr (6, [.ref z10, .int 0])), (h4, .inr (6, [.ref z11, .int 0])), (h6, .inr (6, [.ref z13, .int 0]))]) (w1 := [(h2, .inr (5, [.ref z4, .ref z5, .ref z6, .ref z7, .ref z8, .ref z9, .int 0, .int 0])), (h5, .inr (6, [.ref z12, .int 0]))]) hP hD [2, 5] [0, 1, 3, 4, 6] rfl rfl (by decide) (by decide) hk1 hFc hP1 hD1
  generalize H1 = H at hP hS ⊢
  have hP : va_P (dC, dI) vwCl [(h0, .inr (7, [.ref h1, .ref h2, .ref z0, .ref z1, .ref z2, .ref z3, .int 0, .int 0, .int 0])), (h1, .inl (k0, 4, .inr (.inr (.inr (.inr (va_up (va_up (va_up (va_up (fun _ => none) 0 (some h3)) 1 (some h4)) 2 (some h5)) 3 (some h6))))))), (h3, .inr (6, [.ref z10, .int 0])), (h4, .inr (6, [.ref z11, .int 0])), (h6, .inr (6, [.ref z13, .int 0])), (h2, .inr (5, [.ref z4, .ref z5, .ref z6, .ref z7, .ref z8, .ref z9, .int 0, .int 0])), (h5, .inr (6, [.ref z12, .int 0]))] H := hP
  have hD : va_D A [(h0, .inr (7, [.ref h1, .ref h2, .ref z0, .ref z1, .ref z2, .ref z3, .int 0, .int 0, .int 0])), (h1, .inl (k0, 4, .inr (.inr (.inr (.inr (va_up (va_up (va_up (va_up (fun _ => none) 0 (some h3)) 1 (some h4)) 2 (some h5)) 3 (some h6))))))), (h3, .inr (6, [.ref z10, .int 0])), (h4, .inr (6, [.ref z11, .int 0])), (h6, .inr (6, [.ref z13, .int 0])), (h2, .inr (5, [.ref z4, .ref z5, .ref z6, .ref z7, .ref z8, .ref z9, .int 0, .int 0])), (h5, .inr (6, [.ref z12, .int 0]))] := hD
  refine lv_istore_n (lv' := [(3, .int (-1)), (0, .ref h0), (1, .int 2), (2, .int i0)]) hx hb dX3_step_22 rfl hl (by decide) rfl (fun ls hl => ?_)
  refine lv_iload_n hx hb dX3_step_23 rfl (lv_at hl 0 rfl) ?_
  refine lv_iconst (v := (-1)) hx hb dX3_step_24 (by decide) ?_
  refine lv_icmp_ne (tgt := 30) hx hb dX3_step_25 (by decide) (fun c9 => absurd (by decide) c9) (fun _ => ?_)
  refine lv_iconst (v := (-1)) hx hb dX3_step_28 (by decide) ?_
  have hP := hP.sub (ws' := [(h0, .inr (7, [.ref h1, .ref h2, .ref z0, .ref z1, .ref z2, .ref z3, .int 0, .int 0, .int 0])), (h1, .inl (k0, 4, .inr (.inr (.inr (.inr (va_up (va_up (va_up (va_up (fun _ => none) 0 (some h3)) 1 (some h4)) 2 (some h5)) 3 (some h6))))))), (h2, .inr (5, [.ref z4, .ref z5, .ref z6, .ref z7, .ref z8, .ref z9, .int 0, .int 0])), (h3, .inr (6, [.ref z10, .int 0])), (h4, .inr (6, [.ref z11, .int 0])), (h5, .inr (6, [.ref z12, .int 0])), (h6, .inr (6, [.ref z13, .int 0]))]) [0, 1, 5, 2, 3, 6, 4] rfl
  have hD := hD.sub (ws' := [(h0, .inr (7, [.ref h1, .ref h2, .ref z0, .ref z1, .ref z2, .ref z3, .int 0, .int 0, .int 0])), (h1, .inl (k0, 4, .inr (.inr (.inr (.inr (va_up (va_up (va_up (va_up (fun _ => none) 0 (some h3)) 1 (some h4)) 2 (some h5)) 3 (some h6))))))), (h2, .inr (5, [.ref z4, .ref z5, .ref z6, .ref z7, .ref z8, .ref z9, .int 0, .int 0])), (h3, .inr (6, [.ref z10, .int 0])), (h4, .inr (6, [.ref z11, .int 0])), (h5, .inr (6, [.ref z12, .int 0])), (h6, .inr (6, [.ref z13, .int 0]))]) [0, 1, 5, 2, 3, 6, 4] (by decide) rfl
  exact W.iret (v := (-1)) hx hb hr (fun t ht hW => ⟨⟨(-1), (), rfl, rfl, by rw [ht]; exact hP, va_K.moved hW.alike hK, hD⟩, hS.F ht⟩) hS.2.2 dX3_step_29
set_option maxHeartbeats 4000000 in
set_option maxRecDepth 100000 in
theorem kx_X3_step_3 (l : Launch) (dC : Nat → ClassId) (dI : Nat → Nat → Nat) (h0 : Nat) (h1 : Nat) (h2 : Nat) (h3 : Nat) (h4 : Nat) (h5 : Nat) (h6 : Nat) (z0 : Nat) (z1 : Nat) (z2 : Nat) (z3 : Nat) (z4 : Nat) (z5 : Nat) (z6 : Nat) (z7 : Nat) (z8 : Nat) (z9 : Nat) (z10 : Nat) (z11 : Nat) (z12 : Nat) (z13 : Nat) (k0 : ClassId) (sz : Nat) (i0 : Int32) (i0_l : (0 : Int) ≤ i0.toInt) (i0_u : i0.toInt ≤ (2 : Int)) : Met l yX3_step wsX3_step ({ frames := 3, cells := 0, slots := 0, locals := 66 }) (va_Pc [.ref h0, .int 3, .int i0] (fun U => U.heap.size = sz ∧ va_P (dC, dI) vwCl [(h0, .inr (7, [.ref h1, .ref h2, .ref z0, .ref z1, .ref z2, .ref z3, .int 0, .int 0, .int 0])), (h1, .inl (k0, 4, .inr (.inr (.inr (.inr (va_up (va_up (va_up (va_up (fun _ => none) 0 (some h3)) 1 (some h4)) 2 (some h5)) 3 (some h6))))))), (h2, .inr (5, [.ref z4, .ref z5, .ref z6, .ref z7, .ref z8, .ref z9, .int 0, .int 0])), (h3, .inr (6, [.ref z10, .int 0])), (h4, .inr (6, [.ref z11, .int 0])), (h5, .inr (6, [.ref z12, .int 0])), (h6, .inr (6, [.ref z13, .int 0]))] U.heap ∧ va_K (dC, dI) vwCl [(k0, .object "Rewriterope$Text")] U ∧ va_D (fun _ => True) [(h0, .inr (7, [.ref h1, .ref h2, .ref z0, .ref z1, .ref z2, .ref z3, .int 0, .int 0, .int 0])), (h1, .inl (k0, 4, .inr (.inr (.inr (.inr (va_up (va_up (va_up (va_up (fun _ => none) 0 (some h3)) 1 (some h4)) 2 (some h5)) 3 (some h6))))))), (h2, .inr (5, [.ref z4, .ref z5, .ref z6, .ref z7, .ref z8, .ref z9, .int 0, .int 0])), (h3, .inr (6, [.ref z10, .int 0])), (h4, .inr (6, [.ref z11, .int 0])), (h5, .inr (6, [.ref z12, .int 0])), (h6, .inr (6, [.ref z13, .int 0]))])) (va_Qi (fun (r : Int32) (_ : Unit) => r = (-1)) (fun (_ : Unit) (t : State) => va_P (dC, dI) vwCl [(h0, .inr (7, [.ref h1, .ref h2, .ref z0, .ref z1, .ref z2, .ref z3, .int 0, .int 0, .int 0])), (h1, .inl (k0, 4, .inr (.inr (.inr (.inr (va_up (va_up (va_up (va_up (fun _ => none) 0 (some h3)) 1 (some h4)) 2 (some h5)) 3 (some h6))))))), (h2, .inr (5, [.ref z4, .ref z5, .ref z6, .ref z7, .ref z8, .ref z9, .int 0, .int 0])), (h3, .inr (6, [.ref z10, .int 0])), (h4, .inr (6, [.ref z11, .int 0])), (h5, .inr (6, [.ref z12, .int 0])), (h6, .inr (6, [.ref z13, .int 0]))] t.heap ∧ va_K (dC, dI) vwCl [(k0, .object "Rewriterope$Text")] t ∧ va_D (va_A [(h0, .inr (7, [.ref h1, .ref h2, .ref z0, .ref z1, .ref z2, .ref z3, .int 0, .int 0, .int 0])), (h1, .inl (k0, 4, .inr (.inr (.inr (.inr (va_up (va_up (va_up (va_up (fun _ => none) 0 (some h3)) 1 (some h4)) 2 (some h5)) 3 (some h6))))))), (h2, .inr (5, [.ref z4, .ref z5, .ref z6, .ref z7, .ref z8, .ref z9, .int 0, .int 0])), (h3, .inr (6, [.ref z10, .int 0])), (h4, .inr (6, [.ref z11, .int 0])), (h5, .inr (6, [.ref z12, .int 0])), (h6, .inr (6, [.ref z13, .int 0]))] sz) [(h0, .inr (7, [.ref h1, .ref h2, .ref z0, .ref z1, .ref z2, .ref z3, .int 0, .int 0, .int 0])), (h1, .inl (k0, 4, .inr (.inr (.inr (.inr (va_up (va_up (va_up (va_up (fun _ => none) 0 (some h3)) 1 (some h4)) 2 (some h5)) 3 (some h6))))))), (h2, .inr (5, [.ref z4, .ref z5, .ref z6, .ref z7, .ref z8, .ref z9, .int 0, .int 0])), (h3, .inr (6, [.ref z10, .int 0])), (h4, .inr (6, [.ref z11, .int 0])), (h5, .inr (6, [.ref z12, .int 0])), (h6, .inr (6, [.ref z13, .int 0]))]) (va_A [(h0, .inr (7, [.ref h1, .ref h2, .ref z0, .ref z1, .ref z2, .ref z3, .int 0, .int 0, .int 0])), (h1, .inl (k0, 4, .inr (.inr (.inr (.inr (va_up (va_up (va_up (va_up (fun _ => none) 0 (some h3)) 1 (some h4)) 2 (some h5)) 3 (some h6))))))), (h2, .inr (5, [.ref z4, .ref z5, .ref z6, .ref z7, .ref z8, .ref z9, .int 0, .int 0])), (h3, .inr (6, [.ref z10, .int 0])), (h4, .inr (6, [.ref z11, .int 0])), (h5, .inr (6, [.ref z12, .int 0])), (h6, .inr (6, [.ref z13, .int 0]))] sz)) 0 0 (va_A [(h0, .inr (7, [.ref h1, .ref h2, .ref z0, .ref z1, .ref z2, .ref z3, .int 0, .int 0, .int 0])), (h1, .inl (k0, 4, .inr (.inr (.inr (.inr (va_up (va_up (va_up (va_up (fun _ => none) 0 (some h3)) 1 (some h4)) 2 (some h5)) 3 (some h6))))))), (h2, .inr (5, [.ref z4, .ref z5, .ref z6, .ref z7, .ref z8, .ref z9, .int 0, .int 0])), (h3, .inr (6, [.ref z10, .int 0])), (h4, .inr (6, [.ref z11, .int 0])), (h5, .inr (6, [.ref z12, .int 0])), (h6, .inr (6, [.ref z13, .int 0]))] sz) := by
  refine Met.ofW (cc := cX3_step) (maxL := 4) (ret := (some .int)) (by decide) rfl ?_
  intro p e s m args below meth c s₁ B hml hv
  obtain ⟨rfl, hsz, hP, hK, hD0⟩ := hv
  have hx := B.exec
  have hb := B.bytes
  have hr := B.returns
  have hts := atoms_spec (ws := wsX3_step) B.pre
  have hown : s.vm.findClass RX3 = some m.cls := findClass_of_methodNamed B.named
  have hlocks := B.notSynchronized
  subst hsz
  have hD := hD0.self (sz := s.heap.size)
  generalize hAe : va_A [(h0, .inr (7, [.ref h1, .ref h2, .ref z0, .ref z1, .ref z2, .ref z3, .int 0, .int 0, .int 0])), (h1, .inl (k0, 4, .inr (.inr (.inr (.inr (va_up (va_up (va_up (va_up (fun _ => none) 0 (some h3)) 1 (some h4)) 2 (some h5)) 3 (some h6))))))), (h2, .inr (5, [.ref z4, .ref z5, .ref z6, .ref z7, .ref z8, .ref z9, .int 0, .int 0])), (h3, .inr (6, [.ref z10, .int 0])), (h4, .inr (6, [.ref z11, .int 0])), (h5, .inr (6, [.ref z12, .int 0])), (h6, .inr (6, [.ref z13, .int 0]))] s.heap.size = A at hD ⊢
  have hA : ∀ q : Nat, s.heap.size ≤ q → A q := fun q h => by rw [← hAe]; exact Or.inr h
  have hS : va_S A s.heap s.heap [] := va_S.rf
  have hP : va_P (dC, dI) vwCl [(h0, .inr (7, [.ref h1, .ref h2, .ref z0, .ref z1, .ref z2, .ref z3, .int 0, .int 0, .int 0])), (h1, .inl (k0, 4, .inr (.inr (.inr (.inr (va_up (va_up (va_up (va_up (fun _ => none) 0 (some h3)) 1 (some h4)) 2 (some h5)) 3 (some h6))))))), (h2, .inr (5, [.ref z4, .ref z5, .ref z6, .ref z7, .ref z8, .ref z9, .int 0, .int 0])), (h3, .inr (6, [.ref z10, .int 0])), (h4, .inr (6, [.ref z11, .int 0])), (h5, .inr (6, [.ref z12, .int 0])), (h6, .inr (6, [.ref z13, .int 0]))] s.heap := hP
  have hl := lv_entry ([.ref h0, .int 3, .int i0]) (n := 4) (Nat.le_of_ble_eq_true rfl)
  rw [lg_entry_eq]
  generalize (lg_sl ([.ref h0, .int 3, .int i0]) ++ List.replicate (4 - (lg_sl ([.ref h0, .int 3, .int i0])).length) Slot.unset).toArray = ls at hl ⊢
  have hl : lv_has ls 4 [(0, .ref h0), (1, .int 3), (2, .int i0)] := hl
  refine lv_iload_n hx hb dX3_step_0 rfl (lv_at hl 1 rfl) ?_
  have hPc := hP.sub (ws' := []) [] rfl
  have hDc := hD.sub (ws' := []) [] (by decide) rfl
  have hKc := hK.sub (tys' := []) [] rfl
  have hFc := va_free (wc := []) hD hS hA [] rfl
  refine va_callv (va_runS (As := [.int 3]) (rest := []) ⟨hx, hb, hml, hown, hts⟩ (kx_X3_needRope_3 l dC dI s.heap.size) (cwS 1 hts gX3_step_X3_needRope rfl rfl rfl (by decide +kernel) ⟨Nat.le_of_ble_eq_true rfl, Nat.le_of_ble_eq_true rfl⟩) ⟨fun a U g mk q => by obtain ⟨q0, q1, qP, qK, qD⟩ := q; exact ⟨q0, q1, qP, va_K.moved (u := U) (U := U.calling g mk a) (Vm.Alike.refl U.vm) qK, qD⟩, fun U hU hW => ⟨rfl, by rw [hU], by rw [hU]; exact hPc, va_K.moved hW.alike hKc, hDc.weaken (fun _ _ _ _ => trivial)⟩⟩ rfl rfl hl.1 rfl (lv_room (Nat.le_of_ble_eq_true rfl)) dX3_step_1 ⟨Nat.le_of_ble_eq_true rfl, Nat.le_of_ble_eq_true rfl⟩) hS (fun q _ h => hFc q h) hFc (fun u t H1 locs ht hvm hw hB hz1 hk1 hS => ?_)
  obtain ⟨hP1, hK1, hD1⟩ := hB
  rw [ht] at hP1
  have hK1 := va_K.moved hvm.symm hK1
  obtain ⟨hP, hD⟩ := va_join (wr := [(h0, .inr (7, [.ref h1, .ref h2, .ref z0, .ref z1, .ref z2, .ref z3, .int 0, .int 0, .int 0])), (h1, .inl (k0, 4, .inr (.inr (.inr (.inr (va_up (va_up (va_up (va_up (fun _ => none) 0 (some h3)) 1 (some h4)) 2 (some h5)) 3 (some h6))))))), (h2, .inr (5, [.ref z4, .ref z5, .ref z6, .ref z7, .ref z8, .ref z9, .int 0, .int 0])), (h3, .inr (6, [.ref z10, .int 0])), (h4, .inr (6, [.ref z11, .int 0])), (h5, .inr (6, [.ref z12, .int 0])), (h6, .inr (6, [.ref z13, .int 0]))]) (w1 := []) hP hD [] [0, 1, 2, 3, 4, 5, 6] rfl rfl (by decide) (by decide) hk1 hFc hP1 hD1
  generalize H1 = H at hP hS ⊢
  have hP : va_P (dC, dI) vwCl [(h0, .inr (7, [.ref h1, .ref h2, .ref z0, .ref z1, .ref z2, .ref z3, .int 0, .int 0, .int 0])), (h1, .inl (k0, 4, .inr (.inr (.inr (.inr (va_up (va_up (va_up (va_up (fun _ => none) 0 (some h3)) 1 (some h4)) 2 (some h5)) 3 (some h6))))))), (h2, .inr (5, [.ref z4, .ref z5, .ref z6, .ref z7, .ref z8, .ref z9, .int 0, .int 0])), (h3, .inr (6, [.ref z10, .int 0])), (h4, .inr (6, [.ref z11, .int 0])), (h5, .inr (6, [.ref z12, .int 0])), (h6, .inr (6, [.ref z13, .int 0]))] H := hP
  have hD : va_D A [(h0, .inr (7, [.ref h1, .ref h2, .ref z0, .ref z1, .ref z2, .ref z3, .int 0, .int 0, .int 0])), (h1, .inl (k0, 4, .inr (.inr (.inr (.inr (va_up (va_up (va_up (va_up (fun _ => none) 0 (some h3)) 1 (some h4)) 2 (some h5)) 3 (some h6))))))), (h2, .inr (5, [.ref z4, .ref z5, .ref z6, .ref z7, .ref z8, .ref z9, .int 0, .int 0])), (h3, .inr (6, [.ref z10, .int 0])), (h4, .inr (6, [.ref z11, .int 0])), (h5, .inr (6, [.ref z12, .int 0])), (h6, .inr (6, [.ref z13, .int 0]))] := hD
  refine lv_iload_n hx hb dX3_step_4 rfl (lv_at hl 2 rfl) ?_
  have hPc := hP.sub (ws' := []) [] rfl
  have hDc := hD.sub (ws' := []) [] (by decide) rfl
  have hKc := hK.sub (tys' := []) [] rfl
  have hFc := va_free (wc := []) hD hS hA [] rfl
  refine va_callv (va_runS (As := [.int i0]) (rest := []) ⟨hx, hb, hml, hown, hts⟩ (kx_X3_needWay_0 l dC dI H.size i0 i0_l i0_u) (cwS 1 hts gX3_step_X3_needWay rfl rfl rfl (by decide +kernel) ⟨Nat.le_of_ble_eq_true rfl, Nat.le_of_ble_eq_true rfl⟩) ⟨fun a U g mk q => by obtain ⟨q0, q1, qP, qK, qD⟩ := q; exact ⟨q0, q1, qP, va_K.moved (u := U) (U := U.calling g mk a) (Vm.Alike.refl U.vm) qK, qD⟩, fun U hU hW => ⟨rfl, by rw [hU], by rw [hU]; exact hPc, va_K.moved hW.alike hKc, hDc.weaken (fun _ _ _ _ => trivial)⟩⟩ rfl rfl hl.1 rfl (lv_room (Nat.le_of_ble_eq_true rfl)) dX3_step_5 ⟨Nat.le_of_ble_eq_true rfl, Nat.le_of_ble_eq_true rfl⟩) hS (fun q _ h => hFc q h) hFc (fun u t H1 locs ht hvm hw hB hz1 hk1 hS => ?_)
  obtain ⟨hP1, hK1, hD1⟩ := hB
  rw [ht] at hP1
  have hK1 := va_K.moved hvm.symm hK1
  obtain ⟨hP, hD⟩ := va_join (wr := [(h0, .inr (7, [.ref h1, .ref h2, .ref z0, .ref z1, .ref z2, .ref z3, .int 0, .int 0, .int 0])), (h1, .inl (k0, 4, .inr (.inr (.inr (.inr (va_up (va_up (va_up (va_up (fun _ => none) 0 (some h3)) 1 (some h4)) 2 (some h5)) 3 (some h6))))))), (h2, .inr (5, [.ref z4, .ref z5, .ref z6, .ref z7, .ref z8, .ref z9, .int 0, .int 0])), (h3, .inr (6, [.ref z10, .int 0])), (h4, .inr (6, [.ref z11, .int 0])), (h5, .inr (6, [.ref z12, .int 0])), (h6, .inr (6, [.ref z13, .int 0]))]) (w1 := []) hP hD [] [0, 1, 2, 3, 4, 5, 6] rfl rfl (by decide) (by decide) hk1 hFc hP1 hD1
  generalize H1 = H at hP hS ⊢
  have hP : va_P (dC, dI) vwCl [(h0, .inr (7, [.ref h1, .ref h2, .ref z0, .ref z1, .ref z2, .ref z3, .int 0, .int 0, .int 0])), (h1, .inl (k0, 4, .inr (.inr (.inr (.inr (va_up (va_up (va_up (va_up (fun _ => none) 0 (some h3)) 1 (some h4)) 2 (some h5)) 3 (some h6))))))), (h2, .inr (5, [.ref z4, .ref z5, .ref z6, .ref z7, .ref z8, .ref z9, .int 0, .int 0])), (h3, .inr (6, [.ref z10, .int 0])), (h4, .inr (6, [.ref z11, .int 0])), (h5, .inr (6, [.ref z12, .int 0])), (h6, .inr (6, [.ref z13, .int 0]))] H := hP
  have hD : va_D A [(h0, .inr (7, [.ref h1, .ref h2, .ref z0, .ref z1, .ref z2, .ref z3, .int 0, .int 0, .int 0])), (h1, .inl (k0, 4, .inr (.inr (.inr (.inr (va_up (va_up (va_up (va_up (fun _ => none) 0 (some h3)) 1 (some h4)) 2 (some h5)) 3 (some h6))))))), (h2, .inr (5, [.ref z4, .ref z5, .ref z6, .ref z7, .ref z8, .ref z9, .int 0, .int 0])), (h3, .inr (6, [.ref z10, .int 0])), (h4, .inr (6, [.ref z11, .int 0])), (h5, .inr (6, [.ref z12, .int 0])), (h6, .inr (6, [.ref z13, .int 0]))] := hD
  refine lv_aload_n hx hb dX3_step_8 rfl (lv_at hl 0 rfl) ?_
  refine va_get (D := (dC, dI)) (ci := 7) (v := .ref h2) (C := RX3) (T := TX3) (N := 9) hx hb hts (by decide +kernel) hown hK hP 0 rfl rfl 1 (by decide) (hts (.fieldLink RX3 18 "Rewriterope" "book" "LRewriterope$RuleBook;") (by decide +kernel)) (fun _ h9 => h9) rfl dX3_step_9 ?_
  refine lv_aload_n hx hb dX3_step_12 rfl (lv_at hl 0 rfl) ?_
  refine va_get (D := (dC, dI)) (ci := 7) (v := .ref h1) (C := RX3) (T := TX3) (N := 9) hx hb hts (by decide +kernel) hown hK hP 0 rfl rfl 0 (by decide) (hts (.fieldLink RX3 11 "Rewriterope" "ropes" "[LRewriterope$Text;") (by decide +kernel)) (fun _ h9 => h9) rfl dX3_step_13 ?_
  refine lv_iload_n hx hb dX3_step_16 rfl (lv_at hl 1 rfl) ?_
  refine va_aldq (D := (dC, dI)) hx hb hK hP 1 0 rfl rfl (by unfold vp_in; decide) dX3_step_17 ?_
  refine W.eq (g2 := F0 m 18 ls [.ref h6, .ref h2]) rfl ?_
  refine lv_iload_n hx hb dX3_step_18 rfl (lv_at hl 2 rfl) ?_
  have hPc := hP.sub (ws' := [(h2, .inr (5, [.ref z4, .ref z5, .ref z6, .ref z7, .ref z8, .ref z9, .int 0, .int 0])), (h6, .inr (6, [.ref z13, .int 0]))]) [2, 6] rfl
  have hDc := hD.sub (ws' := [(h2, .inr (5, [.ref z4, .ref z5, .ref z6, .ref z7, .ref z8, .ref z9, .int 0, .int 0])), (h6, .inr (6, [.ref z13, .int 0]))]) [2, 6] (by decide) rfl
  have hKc := hK.sub (tys' := []) [] rfl
  have hFc := va_free (wc := [(h2, .inr (5, [.ref z4, .ref z5, .ref z6, .ref z7, .ref z8, .ref z9, .int 0, .int 0])), (h6, .inr (6, [.ref z13, .int 0]))]) hD hS hA [2, 6] rfl
  refine va_calli (va_runV (As := [.ref h6, .int i0]) (rest := []) ⟨hx, hb, hml, hown, hts⟩ (kx_X1_spotByWay_s0 l dC dI h2 h6 z4 z5 z6 z7 z8 z9 z13 H.size i0 i0_l i0_u) (cwV 2 hts gX3_step_X1_spotByWay rfl rfl rfl (by decide +kernel) ⟨Nat.le_of_ble_eq_true rfl, Nat.le_of_ble_eq_true rfl⟩) ⟨fun a U g mk q => by obtain ⟨q0, q1, qP, qK, qD⟩ := q; exact ⟨q0, q1, qP, va_K.moved (u := U) (U := U.calling g mk a) (Vm.Alike.refl U.vm) qK, qD⟩, va_recv hKc hPc (ci := 5) (q0 := 0) rfl rfl, fun U hU hW => ⟨rfl, by rw [hU], by rw [hU]; exact hPc, va_K.moved hW.alike hKc, hDc.weaken (fun _ _ _ _ => trivial)⟩⟩ rfl rfl hl.1 rfl (lv_room (Nat.le_of_ble_eq_true rfl)) dX3_step_19 ⟨Nat.le_of_ble_eq_true rfl, Nat.le_of_ble_eq_true rfl⟩) hS (fun q _ h => hFc q h) hFc (fun r9 u t H1 locs ht hvm hw hB hz1 hk1 hS => ?_)
  obtain rfl := hw
  obtain ⟨hP1, hK1, hD1⟩ := hB
  rw [ht] at hP1
  have hK1 := va_K.moved hvm.symm hK1
  obtain ⟨hP, hD⟩ := va_join (wr := [(h0, .inr (7, [.ref h1, .ref h2, .ref z0, .ref z1, .ref z2, .ref z3, .int 0, .int 0, .int 0])), (h1, .inl (k0, 4, .inr (.inr (.inr (.inr (va_up (va_up (va_up (va_up (fun _ => none) 0 (some h3)) 1 (some h4)) 2 (some h5)) 3 (some h6))))))), (h3, .inr (6, [.ref z10, .int 0])), (h4, .inr (6, [.ref z11, .int 0])), (h5, .inr (6, [.ref z12, .int 0]))]) (w1 := [(h2, .inr (5, [.ref z4, .ref z5, .ref z6, .ref z7, .ref z8, .ref z9, .int 0, .int 0])), (h6, .inr (6, [.ref z13, .int 0]))]) hP hD [2, 6] [0, 1, 3, 4, 5] rfl rfl (by decide) (by decide) hk1 hFc hP1 hD1
  generalize H1 = H at hP hS ⊢
  have hP : va_P (dC, dI) vwCl [(h0, .inr (7, [.ref h1, .ref h2, .ref z0, .ref z1, .ref z2, .ref z3, .int 0, .int 0, .int 0])), (h1, .inl (k0, 4, .inr (.inr (.inr (.inr (va_up (va_up (va_up (va_up (fun _ => none) 0 (some h3)) 1 (some h4)) 2 (some h5)) 3 (some h6))))))), (h3, .inr (6, [.ref z10, .int 0])), (h4, .inr (6, [.ref z11, .int 0])), (h5, .inr (6, [.ref z12, .int 0])), (h2, .inr (5, [.ref z4, .ref z5, .ref z6, .ref z7, .ref z8, .ref z9, .int 0, .int 0])), (h6, .inr (6, [.ref z13, .int 0]))] H := hP
  have hD : va_D A [(h0, .inr (7, [.ref h1, .ref h2, .ref z0, .ref z1, .ref z2, .ref z3, .int 0, .int 0, .int 0])), (h1, .inl (k0, 4, .inr (.inr (.inr (.inr (va_up (va_up (va_up (va_up (fun _ => none) 0 (some h3)) 1 (some h4)) 2 (some h5)) 3 (some h6))))))), (h3, .inr (6, [.ref z10, .int 0])), (h4, .inr (6, [.ref z11, .int 0])), (h5, .inr (6, [.ref z12, .int 0])), (h2, .inr (5, [.ref z4, .ref z5, .ref z6, .ref z7, .ref z8, .ref z9, .int 0, .int 0])), (h6, .inr (6, [.ref z13, .int 0]))] := hD
  refine lv_istore_n (lv' := [(3, .int (-1)), (0, .ref h0), (1, .int 3), (2, .int i0)]) hx hb dX3_step_22 rfl hl (by decide) rfl (fun ls hl => ?_)
  refine lv_iload_n hx hb dX3_step_23 rfl (lv_at hl 0 rfl) ?_
  refine lv_iconst (v := (-1)) hx hb dX3_step_24 (by decide) ?_
  refine lv_icmp_ne (tgt := 30) hx hb dX3_step_25 (by decide) (fun c9 => absurd (by decide) c9) (fun _ => ?_)
  refine lv_iconst (v := (-1)) hx hb dX3_step_28 (by decide) ?_
  have hP := hP.sub (ws' := [(h0, .inr (7, [.ref h1, .ref h2, .ref z0, .ref z1, .ref z2, .ref z3, .int 0, .int 0, .int 0])), (h1, .inl (k0, 4, .inr (.inr (.inr (.inr (va_up (va_up (va_up (va_up (fun _ => none) 0 (some h3)) 1 (some h4)) 2 (some h5)) 3 (some h6))))))), (h2, .inr (5, [.ref z4, .ref z5, .ref z6, .ref z7, .ref z8, .ref z9, .int 0, .int 0])), (h3, .inr (6, [.ref z10, .int 0])), (h4, .inr (6, [.ref z11, .int 0])), (h5, .inr (6, [.ref z12, .int 0])), (h6, .inr (6, [.ref z13, .int 0]))]) [0, 1, 5, 2, 3, 4, 6] rfl
  have hD := hD.sub (ws' := [(h0, .inr (7, [.ref h1, .ref h2, .ref z0, .ref z1, .ref z2, .ref z3, .int 0, .int 0, .int 0])), (h1, .inl (k0, 4, .inr (.inr (.inr (.inr (va_up (va_up (va_up (va_up (fun _ => none) 0 (some h3)) 1 (some h4)) 2 (some h5)) 3 (some h6))))))), (h2, .inr (5, [.ref z4, .ref z5, .ref z6, .ref z7, .ref z8, .ref z9, .int 0, .int 0])), (h3, .inr (6, [.ref z10, .int 0])), (h4, .inr (6, [.ref z11, .int 0])), (h5, .inr (6, [.ref z12, .int 0])), (h6, .inr (6, [.ref z13, .int 0]))]) [0, 1, 5, 2, 3, 4, 6] (by decide) rfl
  exact W.iret (v := (-1)) hx hb hr (fun t ht hW => ⟨⟨(-1), (), rfl, rfl, by rw [ht]; exact hP, va_K.moved hW.alike hK, hD⟩, hS.F ht⟩) hS.2.2 dX3_step_29
set_option maxHeartbeats 4000000 in
set_option maxRecDepth 100000 in
theorem kx_X3_step_s0 (l : Launch) (dC : Nat → ClassId) (dI : Nat → Nat → Nat) (h0 : Nat) (h1 : Nat) (h2 : Nat) (h3 : Nat) (h4 : Nat) (h5 : Nat) (h6 : Nat) (z0 : Nat) (z1 : Nat) (z2 : Nat) (z3 : Nat) (z4 : Nat) (z5 : Nat) (z6 : Nat) (z7 : Nat) (z8 : Nat) (z9 : Nat) (z10 : Nat) (z11 : Nat) (z12 : Nat) (z13 : Nat) (k0 : ClassId) (sz : Nat) (i0 : Int32) (i0_l : (0 : Int) ≤ i0.toInt) (i0_u : i0.toInt ≤ (2 : Int)) (j1 : Int32) (j1_l : (0 : Int) ≤ j1.toInt) (j1_u : j1.toInt ≤ (3 : Int)) : Met l yX3_step wsX3_step ({ frames := 3, cells := 0, slots := 0, locals := 66 }) (va_Pc [.ref h0, .int j1, .int i0] (fun U => U.heap.size = sz ∧ va_P (dC, dI) vwCl [(h0, .inr (7, [.ref h1, .ref h2, .ref z0, .ref z1, .ref z2, .ref z3, .int 0, .int 0, .int 0])), (h1, .inl (k0, 4, .inr (.inr (.inr (.inr (va_up (va_up (va_up (va_up (fun _ => none) 0 (some h3)) 1 (some h4)) 2 (some h5)) 3 (some h6))))))), (h2, .inr (5, [.ref z4, .ref z5, .ref z6, .ref z7, .ref z8, .ref z9, .int 0, .int 0])), (h3, .inr (6, [.ref z10, .int 0])), (h4, .inr (6, [.ref z11, .int 0])), (h5, .inr (6, [.ref z12, .int 0])), (h6, .inr (6, [.ref z13, .int 0]))] U.heap ∧ va_K (dC, dI) vwCl [(k0, .object "Rewriterope$Text")] U ∧ va_D (fun _ => True) [(h0, .inr (7, [.ref h1, .ref h2, .ref z0, .ref z1, .ref z2, .ref z3, .int 0, .int 0, .int 0])), (h1, .inl (k0, 4, .inr (.inr (.inr (.inr (va_up (va_up (va_up (va_up (fun _ => none) 0 (some h3)) 1 (some h4)) 2 (some h5)) 3 (some h6))))))), (h2, .inr (5, [.ref z4, .ref z5, .ref z6, .ref z7, .ref z8, .ref z9, .int 0, .int 0])), (h3, .inr (6, [.ref z10, .int 0])), (h4, .inr (6, [.ref z11, .int 0])), (h5, .inr (6, [.ref z12, .int 0])), (h6, .inr (6, [.ref z13, .int 0]))])) (va_Qi (fun (r : Int32) (_ : Unit) => r = (-1)) (fun (_ : Unit) (t : State) => va_P (dC, dI) vwCl [(h0, .inr (7, [.ref h1, .ref h2, .ref z0, .ref z1, .ref z2, .ref z3, .int 0, .int 0, .int 0])), (h1, .inl (k0, 4, .inr (.inr (.inr (.inr (va_up (va_up (va_up (va_up (fun _ => none) 0 (some h3)) 1 (some h4)) 2 (some h5)) 3 (some h6))))))), (h2, .inr (5, [.ref z4, .ref z5, .ref z6, .ref z7, .ref z8, .ref z9, .int 0, .int 0])), (h3, .inr (6, [.ref z10, .int 0])), (h4, .inr (6, [.ref z11, .int 0])), (h5, .inr (6, [.ref z12, .int 0])), (h6, .inr (6, [.ref z13, .int 0]))] t.heap ∧ va_K (dC, dI) vwCl [(k0, .object "Rewriterope$Text")] t ∧ va_D (va_A [(h0, .inr (7, [.ref h1, .ref h2, .ref z0, .ref z1, .ref z2, .ref z3, .int 0, .int 0, .int 0])), (h1, .inl (k0, 4, .inr (.inr (.inr (.inr (va_up (va_up (va_up (va_up (fun _ => none) 0 (some h3)) 1 (some h4)) 2 (some h5)) 3 (some h6))))))), (h2, .inr (5, [.ref z4, .ref z5, .ref z6, .ref z7, .ref z8, .ref z9, .int 0, .int 0])), (h3, .inr (6, [.ref z10, .int 0])), (h4, .inr (6, [.ref z11, .int 0])), (h5, .inr (6, [.ref z12, .int 0])), (h6, .inr (6, [.ref z13, .int 0]))] sz) [(h0, .inr (7, [.ref h1, .ref h2, .ref z0, .ref z1, .ref z2, .ref z3, .int 0, .int 0, .int 0])), (h1, .inl (k0, 4, .inr (.inr (.inr (.inr (va_up (va_up (va_up (va_up (fun _ => none) 0 (some h3)) 1 (some h4)) 2 (some h5)) 3 (some h6))))))), (h2, .inr (5, [.ref z4, .ref z5, .ref z6, .ref z7, .ref z8, .ref z9, .int 0, .int 0])), (h3, .inr (6, [.ref z10, .int 0])), (h4, .inr (6, [.ref z11, .int 0])), (h5, .inr (6, [.ref z12, .int 0])), (h6, .inr (6, [.ref z13, .int 0]))]) (va_A [(h0, .inr (7, [.ref h1, .ref h2, .ref z0, .ref z1, .ref z2, .ref z3, .int 0, .int 0, .int 0])), (h1, .inl (k0, 4, .inr (.inr (.inr (.inr (va_up (va_up (va_up (va_up (fun _ => none) 0 (some h3)) 1 (some h4)) 2 (some h5)) 3 (some h6))))))), (h2, .inr (5, [.ref z4, .ref z5, .ref z6, .ref z7, .ref z8, .ref z9, .int 0, .int 0])), (h3, .inr (6, [.ref z10, .int 0])), (h4, .inr (6, [.ref z11, .int 0])), (h5, .inr (6, [.ref z12, .int 0])), (h6, .inr (6, [.ref z13, .int 0]))] sz)) 0 0 (va_A [(h0, .inr (7, [.ref h1, .ref h2, .ref z0, .ref z1, .ref z2, .ref z3, .int 0, .int 0, .int 0])), (h1, .inl (k0, 4, .inr (.inr (.inr (.inr (va_up (va_up (va_up (va_up (fun _ => none) 0 (some h3)) 1 (some h4)) 2 (some h5)) 3 (some h6))))))), (h2, .inr (5, [.ref z4, .ref z5, .ref z6, .ref z7, .ref z8, .ref z9, .int 0, .int 0])), (h3, .inr (6, [.ref z10, .int 0])), (h4, .inr (6, [.ref z11, .int 0])), (h5, .inr (6, [.ref z12, .int 0])), (h6, .inr (6, [.ref z13, .int 0]))] sz) := by
  have e9 : j1 = 0 ∨ j1 = 1 ∨ j1 = 2 ∨ j1 = 3 := by
    have h9 : j1.toInt = 0 ∨ j1.toInt = 1 ∨ j1.toInt = 2 ∨ j1.toInt = 3 := by omega
    rcases h9 with h9 | h9 | h9 | h9
    · exact Or.inl (Int32.toInt_inj.mp (h9.trans (by decide)))
    · exact Or.inr (Or.inl (Int32.toInt_inj.mp (h9.trans (by decide))))
    · exact Or.inr (Or.inr (Or.inl (Int32.toInt_inj.mp (h9.trans (by decide)))))
    · exact Or.inr (Or.inr (Or.inr (Int32.toInt_inj.mp (h9.trans (by decide)))))
  rcases e9 with rfl | rfl | rfl | rfl
  · exact kx_X3_step_0 l dC dI h0 h1 h2 h3 h4 h5 h6 z0 z1 z2 z3 z4 z5 z6 z7 z8 z9 z10 z11 z12 z13 k0 sz i0 i0_l i0_u
  · exact kx_X3_step_1 l dC dI h0 h1 h2 h3 h4 h5 h6 z0 z1 z2 z3 z4 z5 z6 z7 z8 z9 z10 z11 z12 z13 k0 sz i0 i0_l i0_u
  · exact kx_X3_step_2 l dC dI h0 h1 h2 h3 h4 h5 h6 z0 z1 z2 z3 z4 z5 z6 z7 z8 z9 z10 z11 z12 z13 k0 sz i0 i0_l i0_u
  · exact kx_X3_step_3 l dC dI h0 h1 h2 h3 h4 h5 h6 z0 z1 z2 z3 z4 z5 z6 z7 z8 z9 z10 z11 z12 z13 k0 sz i0 i0_l i0_u
set_option maxHeartbeats 4000000 in
set_option maxRecDepth 100000 in
theorem kx_L_step_0 (l : Launch) (dC : Nat → ClassId) (dI : Nat → Nat → Nat) (ge5 gea gv5 gva gde gic gi0 : Nat) (h0 : Nat) (h1 : Nat) (h2 : Nat) (h3 : Nat) (h4 : Nat) (h5 : Nat) (h6 : Nat) (h7 : Nat) (z0 : Nat) (z1 : Nat) (z2 : Nat) (z3 : Nat) (z4 : Nat) (z5 : Nat) (z6 : Nat) (z7 : Nat) (z8 : Nat) (z9 : Nat) (z10 : Nat) (z11 : Nat) (z12 : Nat) (z13 : Nat) (k0 : ClassId) (sz : Nat) (i0 : Int32) (i0_l : (0 : Int) ≤ i0.toInt) (i0_u : i0.toInt ≤ (3 : Int)) (i1 : Int32) (i1_l : (0 : Int) ≤ i1.toInt) (i1_u : i1.toInt ≤ (2 : Int)) : Met l yL_step wsL_step ({ frames := 4, cells := 0, slots := 0, locals := 89 }) (va_Pc [.ref h0, .int i0, .int i1, .ref h7] (fun U => U.heap.size = sz ∧ va_P (dC, dI) vwCl [(h0, .inr (7, [.ref h1, .ref h2, .ref z0, .ref z1, .ref z2, .ref z3, .int 0, .int 0, .int 0])), (h1, .inl (k0, 4, .inr (.inr (.inr (.inr (va_up (va_up (va_up (va_up (fun _ => none) 0 (some h3)) 1 (some h4)) 2 (some h5)) 3 (some h6))))))), (h2, .inr (5, [.ref z4, .ref z5, .ref z6, .ref z7, .ref z8, .ref z9, .int 0, .int 0])), (h3, .inr (6, [.ref z10, .int 0])), (h4, .inr (6, [.ref z11, .int 0])), (h5, .inr (6, [.ref z12, .int 0])), (h6, .inr (6, [.ref z13, .int 0])), (h7, .inr (8, [.long 0, .null]))] U.heap ∧ va_K (dC, dI) vwCl [(k0, .object "Rewriterope$Text")] U ∧ va_D (fun _ => True) [(h0, .inr (7, [.ref h1, .ref h2, .ref z0, .ref z1, .ref z2, .ref z3, .int 0, .int 0, .int 0])), (h1, .inl (k0, 4, .inr (.inr (.inr (.inr (va_up (va_up (va_up (va_up (fun _ => none) 0 (some h3)) 1 (some h4)) 2 (some h5)) 3 (some h6))))))), (h2, .inr (5, [.ref z4, .ref z5, .ref z6, .ref z7, .ref z8, .ref z9, .int 0, .int 0])), (h3, .inr (6, [.ref z10, .int 0])), (h4, .inr (6, [.ref z11, .int 0])), (h5, .inr (6, [.ref z12, .int 0])), (h6, .inr (6, [.ref z13, .int 0])), (h7, .inr (8, [.long 0, .null]))] ∧ gv ge5 gea gv5 gva gde gic gi0 (va_A [(h0, .inr (7, [.ref h1, .ref h2, .ref z0, .ref z1, .ref z2, .ref z3, .int 0, .int 0, .int 0])), (h1, .inl (k0, 4, .inr (.inr (.inr (.inr (va_up (va_up (va_up (va_up (fun _ => none) 0 (some h3)) 1 (some h4)) 2 (some h5)) 3 (some h6))))))), (h2, .inr (5, [.ref z4, .ref z5, .ref z6, .ref z7, .ref z8, .ref z9, .int 0, .int 0])), (h3, .inr (6, [.ref z10, .int 0])), (h4, .inr (6, [.ref z11, .int 0])), (h5, .inr (6, [.ref z12, .int 0])), (h6, .inr (6, [.ref z13, .int 0])), (h7, .inr (8, [.long 0, .null]))] sz) U U.heap)) (va_Qi (fun (r : Int32) (_ : Unit) => r = 0) (fun (_ : Unit) (t : State) => va_P (dC, dI) vwCl [(h0, .inr (7, [.ref h1, .ref h2, .ref z0, .ref z1, .ref z2, .ref z3, .int 0, .int 0, .int 0])), (h1, .inl (k0, 4, .inr (.inr (.inr (.inr (va_up (va_up (va_up (va_up (fun _ => none) 0 (some h3)) 1 (some h4)) 2 (some h5)) 3 (some h6))))))), (h2, .inr (5, [.ref z4, .ref z5, .ref z6, .ref z7, .ref z8, .ref z9, .int 0, .int 0])), (h3, .inr (6, [.ref z10, .int 0])), (h4, .inr (6, [.ref z11, .int 0])), (h5, .inr (6, [.ref z12, .int 0])), (h6, .inr (6, [.ref z13, .int 0])), (h7, .inr (8, [.long (-1), .null]))] t.heap ∧ va_K (dC, dI) vwCl [(k0, .object "Rewriterope$Text")] t ∧ va_D (va_A [(h0, .inr (7, [.ref h1, .ref h2, .ref z0, .ref z1, .ref z2, .ref z3, .int 0, .int 0, .int 0])), (h1, .inl (k0, 4, .inr (.inr (.inr (.inr (va_up (va_up (va_up (va_up (fun _ => none) 0 (some h3)) 1 (some h4)) 2 (some h5)) 3 (some h6))))))), (h2, .inr (5, [.ref z4, .ref z5, .ref z6, .ref z7, .ref z8, .ref z9, .int 0, .int 0])), (h3, .inr (6, [.ref z10, .int 0])), (h4, .inr (6, [.ref z11, .int 0])), (h5, .inr (6, [.ref z12, .int 0])), (h6, .inr (6, [.ref z13, .int 0])), (h7, .inr (8, [.long 0, .null]))] sz) [(h0, .inr (7, [.ref h1, .ref h2, .ref z0, .ref z1, .ref z2, .ref z3, .int 0, .int 0, .int 0])), (h1, .inl (k0, 4, .inr (.inr (.inr (.inr (va_up (va_up (va_up (va_up (fun _ => none) 0 (some h3)) 1 (some h4)) 2 (some h5)) 3 (some h6))))))), (h2, .inr (5, [.ref z4, .ref z5, .ref z6, .ref z7, .ref z8, .ref z9, .int 0, .int 0])), (h3, .inr (6, [.ref z10, .int 0])), (h4, .inr (6, [.ref z11, .int 0])), (h5, .inr (6, [.ref z12, .int 0])), (h6, .inr (6, [.ref z13, .int 0])), (h7, .inr (8, [.long (-1), .null]))]) (va_A [(h0, .inr (7, [.ref h1, .ref h2, .ref z0, .ref z1, .ref z2, .ref z3, .int 0, .int 0, .int 0])), (h1, .inl (k0, 4, .inr (.inr (.inr (.inr (va_up (va_up (va_up (va_up (fun _ => none) 0 (some h3)) 1 (some h4)) 2 (some h5)) 3 (some h6))))))), (h2, .inr (5, [.ref z4, .ref z5, .ref z6, .ref z7, .ref z8, .ref z9, .int 0, .int 0])), (h3, .inr (6, [.ref z10, .int 0])), (h4, .inr (6, [.ref z11, .int 0])), (h5, .inr (6, [.ref z12, .int 0])), (h6, .inr (6, [.ref z13, .int 0])), (h7, .inr (8, [.long 0, .null]))] sz)) 0 0 (va_A [(h0, .inr (7, [.ref h1, .ref h2, .ref z0, .ref z1, .ref z2, .ref z3, .int 0, .int 0, .int 0])), (h1, .inl (k0, 4, .inr (.inr (.inr (.inr (va_up (va_up (va_up (va_up (fun _ => none) 0 (some h3)) 1 (some h4)) 2 (some h5)) 3 (some h6))))))), (h2, .inr (5, [.ref z4, .ref z5, .ref z6, .ref z7, .ref z8, .ref z9, .int 0, .int 0])), (h3, .inr (6, [.ref z10, .int 0])), (h4, .inr (6, [.ref z11, .int 0])), (h5, .inr (6, [.ref z12, .int 0])), (h6, .inr (6, [.ref z13, .int 0])), (h7, .inr (8, [.long 0, .null]))] sz) := by
  refine kz_ofWH (cc := cL_step) (maxL := 5) (ret := (some .int)) (hh := [(0, 11, 14, 19), (0, 11, 18, 21)]) (by decide) rfl ?_
  intro p e s m args below meth c s₁ B hml hv
  obtain ⟨rfl, hsz, hP, hK, hD0, hG⟩ := hv
  have hx := B.exec
  have hb := B.bytes
  have hr := B.returns
  have hts := atoms_spec (ws := wsL_step) B.pre
  have hown : s.vm.findClass RL = some m.cls := findClass_of_methodNamed B.named
  have htab := vx_table (x := yL_step) B (hts (.codeWith yL_step cL_step 5 (some .int) [(0, 11, 14, 19), (0, 11, 18, 21)]) (by decide +kernel))
  have hlocks := B.notSynchronized
  subst hsz
  have hD := hD0.self (sz := s.heap.size)
  generalize hAe : va_A [(h0, .inr (7, [.ref h1, .ref h2, .ref z0, .ref z1, .ref z2, .ref z3, .int 0, .int 0, .int 0])), (h1, .inl (k0, 4, .inr (.inr (.inr (.inr (va_up (va_up (va_up (va_up (fun _ => none) 0 (some h3)) 1 (some h4)) 2 (some h5)) 3 (some h6))))))), (h2, .inr (5, [.ref z4, .ref z5, .ref z6, .ref z7, .ref z8, .ref z9, .int 0, .int 0])), (h3, .inr (6, [.ref z10, .int 0])), (h4, .inr (6, [.ref z11, .int 0])), (h5, .inr (6, [.ref z12, .int 0])), (h6, .inr (6, [.ref z13, .int 0])), (h7, .inr (8, [.long 0, .null]))] s.heap.size = A at hD hG ⊢
  obtain ⟨⟨g_AO_Text, g_AO_String, g_AO_Object, g_nm_RX1_20, g_nm_RX0_17, g_nm_RX3_31, g_nm_RX2_44, g_nm_RL_121, g_nf_RL_13, g_nf_RL_47, g_ca_IO, g_ca_IA, g_ca_IS, g_ca_IntObj, g_ca_StrObj, g_de_RT, g_de_EX, g_de_TH, g_nc_IA_IO, g_nc_IS_IO, g_nc_IS_IA⟩, ⟨g_s3, g_s5, g_sa, g_x278, g_x280, g_x282, g_x284, g_x286, g_x180, g_x238, g_x250⟩, ⟨g_o5, g_c5, g_v5, g_t5, g_oa, g_ca, g_va, g_ta, g_zc, g_zd, g_td, g_zf, g_zU, g_zN, g_zh, g_zk, g_tk, g_oi, g_vi⟩⟩ := id hG
  have hA : ∀ q : Nat, s.heap.size ≤ q → A q := fun q h => by rw [← hAe]; exact Or.inr h
  have hS : va_S A s.heap s.heap [] := va_S.rf
  have hP : va_P (dC, dI) vwCl [(h0, .inr (7, [.ref h1, .ref h2, .ref z0, .ref z1, .ref z2, .ref z3, .int 0, .int 0, .int 0])), (h1, .inl (k0, 4, .inr (.inr (.inr (.inr (va_up (va_up (va_up (va_up (fun _ => none) 0 (some h3)) 1 (some h4)) 2 (some h5)) 3 (some h6))))))), (h2, .inr (5, [.ref z4, .ref z5, .ref z6, .ref z7, .ref z8, .ref z9, .int 0, .int 0])), (h3, .inr (6, [.ref z10, .int 0])), (h4, .inr (6, [.ref z11, .int 0])), (h5, .inr (6, [.ref z12, .int 0])), (h6, .inr (6, [.ref z13, .int 0])), (h7, .inr (8, [.long 0, .null]))] s.heap := hP
  have hl := lv_entry ([.ref h0, .int i0, .int i1, .ref h7]) (n := 5) (Nat.le_of_ble_eq_true rfl)
  rw [lg_entry_eq]
  generalize (lg_sl ([.ref h0, .int i0, .int i1, .ref h7]) ++ List.replicate (5 - (lg_sl ([.ref h0, .int i0, .int i1, .ref h7])).length) Slot.unset).toArray = ls at hl ⊢
  have hl : lv_has ls 5 [(0, .ref h0), (1, .int i0), (2, .int i1), (3, .ref h7)] := hl
  refine lv_aload_n hx hb dL_step_0 rfl (lv_at hl 3 rfl) ?_
  refine lv_aload_n hx hb dL_step_1 rfl (lv_at hl 0 rfl) ?_
  refine lv_iload_n hx hb dL_step_2 rfl (lv_at hl 1 rfl) ?_
  refine lv_iload_n hx hb dL_step_3 rfl (lv_at hl 2 rfl) ?_
  have hPc := hP.sub (ws' := [(h0, .inr (7, [.ref h1, .ref h2, .ref z0, .ref z1, .ref z2, .ref z3, .int 0, .int 0, .int 0])), (h1, .inl (k0, 4, .inr (.inr (.inr (.inr (va_up (va_up (va_up (va_up (fun _ => none) 0 (some h3)) 1 (some h4)) 2 (some h5)) 3 (some h6))))))), (h2, .inr (5, [.ref z4, .ref z5, .ref z6, .ref z7, .ref z8, .ref z9, .int 0, .int 0])), (h3, .inr (6, [.ref z10, .int 0])), (h4, .inr (6, [.ref z11, .int 0])), (h5, .inr (6, [.ref z12, .int 0])), (h6, .inr (6, [.ref z13, .int 0]))]) [0, 1, 2, 3, 4, 5, 6] rfl
  have hDc := hD.sub (ws' := [(h0, .inr (7, [.ref h1, .ref h2, .ref z0, .ref z1, .ref z2, .ref z3, .int 0, .int 0, .int 0])), (h1, .inl (k0, 4, .inr (.inr (.inr (.inr (va_up (va_up (va_up (va_up (fun _ => none) 0 (some h3)) 1 (some h4)) 2 (some h5)) 3 (some h6))))))), (h2, .inr (5, [.ref z4, .ref z5, .ref z6, .ref z7, .ref z8, .ref z9, .int 0, .int 0])), (h3, .inr (6, [.ref z10, .int 0])), (h4, .inr (6, [.ref z11, .int 0])), (h5, .inr (6, [.ref z12, .int 0])), (h6, .inr (6, [.ref z13, .int 0]))]) [0, 1, 2, 3, 4, 5, 6] (by decide) rfl
  have hKc := hK.sub (tys' := [(k0, .object "Rewriterope$Text")]) [0] rfl
  have hFc := va_free (wc := [(h0, .inr (7, [.ref h1, .ref h2, .ref z0, .ref z1, .ref z2, .ref z3, .int 0, .int 0, .int 0])), (h1, .inl (k0, 4, .inr (.inr (.inr (.inr (va_up (va_up (va_up (va_up (fun _ => none) 0 (some h3)) 1 (some h4)) 2 (some h5)) 3 (some h6))))))), (h2, .inr (5, [.ref z4, .ref z5, .ref z6, .ref z7, .ref z8, .ref z9, .int 0, .int 0])), (h3, .inr (6, [.ref z10, .int 0])), (h4, .inr (6, [.ref z11, .int 0])), (h5, .inr (6, [.ref z12, .int 0])), (h6, .inr (6, [.ref z13, .int 0]))]) hD hS hA [0, 1, 2, 3, 4, 5, 6] rfl
  refine va_calli (va_runV (As := [.int i0, .int i1]) (rest := [.ref h7]) ⟨hx, hb, hml, hown, hts⟩ (kx_X3_step_s0 l dC dI h0 h1 h2 h3 h4 h5 h6 z0 z1 z2 z3 z4 z5 z6 z7 z8 z9 z10 z11 z12 z13 k0 s.heap.size i1 i1_l i1_u i0 i0_l i0_u) (cwV 2 hts gL_step_X3_step rfl rfl rfl (by decide +kernel) ⟨Nat.le_of_ble_eq_true rfl, Nat.le_of_ble_eq_true rfl⟩) ⟨fun a U g mk q => by obtain ⟨q0, q1, qP, qK, qD⟩ := q; exact ⟨q0, q1, qP, va_K.moved (u := U) (U := U.calling g mk a) (Vm.Alike.refl U.vm) qK, qD⟩, va_recv hKc hPc (ci := 7) (q0 := 0) rfl rfl, fun U hU hW => ⟨rfl, by rw [hU], by rw [hU]; exact hPc, va_K.moved hW.alike hKc, hDc.weaken (fun _ _ _ _ => trivial)⟩⟩ rfl rfl hl.1 rfl (lv_room (Nat.le_of_ble_eq_true rfl)) dL_step_4 ⟨Nat.le_of_ble_eq_true rfl, Nat.le_of_ble_eq_true rfl⟩) hS (fun q _ h => hFc q h) hFc (fun r9 u t H1 locs ht hvm hw hB hz1 hk1 hS => ?_)
  obtain rfl := hw
  obtain ⟨hP1, hK1, hD1⟩ := hB
  rw [ht] at hP1
  have hK1 := va_K.moved hvm.symm hK1
  obtain ⟨hP, hD⟩ := va_join (wr := [(h7, .inr (8, [.long 0, .null]))]) (w1 := [(h0, .inr (7, [.ref h1, .ref h2, .ref z0, .ref z1, .ref z2, .ref z3, .int 0, .int 0, .int 0])), (h1, .inl (k0, 4, .inr (.inr (.inr (.inr (va_up (va_up (va_up (va_up (fun _ => none) 0 (some h3)) 1 (some h4)) 2 (some h5)) 3 (some h6))))))), (h2, .inr (5, [.ref z4, .ref z5, .ref z6, .ref z7, .ref z8, .ref z9, .int 0, .int 0])), (h3, .inr (6, [.ref z10, .int 0])), (h4, .inr (6, [.ref z11, .int 0])), (h5, .inr (6, [.ref z12, .int 0])), (h6, .inr (6, [.ref z13, .int 0]))]) hP hD [0, 1, 2, 3, 4, 5, 6] [7] rfl rfl (by decide) (by decide) hk1 hFc hP1 hD1
  generalize H1 = H at hP hS ⊢
  have hP : va_P (dC, dI) vwCl [(h7, .inr (8, [.long 0, .null])), (h0, .inr (7, [.ref h1, .ref h2, .ref z0, .ref z1, .ref z2, .ref z3, .int 0, .int 0, .int 0])), (h1, .inl (k0, 4, .inr (.inr (.inr (.inr (va_up (va_up (va_up (va_up (fun _ => none) 0 (some h3)) 1 (some h4)) 2 (some h5)) 3 (some h6))))))), (h2, .inr (5, [.ref z4, .ref z5, .ref z6, .ref z7, .ref z8, .ref z9, .int 0, .int 0])), (h3, .inr (6, [.ref z10, .int 0])), (h4, .inr (6, [.ref z11, .int 0])), (h5, .inr (6, [.ref z12, .int 0])), (h6, .inr (6, [.ref z13, .int 0]))] H := hP
  have hD : va_D A [(h7, .inr (8, [.long 0, .null])), (h0, .inr (7, [.ref h1, .ref h2, .ref z0, .ref z1, .ref z2, .ref z3, .int 0, .int 0, .int 0])), (h1, .inl (k0, 4, .inr (.inr (.inr (.inr (va_up (va_up (va_up (va_up (fun _ => none) 0 (some h3)) 1 (some h4)) 2 (some h5)) 3 (some h6))))))), (h2, .inr (5, [.ref z4, .ref z5, .ref z6, .ref z7, .ref z8, .ref z9, .int 0, .int 0])), (h3, .inr (6, [.ref z10, .int 0])), (h4, .inr (6, [.ref z11, .int 0])), (h5, .inr (6, [.ref z12, .int 0])), (h6, .inr (6, [.ref z13, .int 0]))] := hD
  refine lv_i2l (v := (-1)) hx hb dL_step_7 (by decide) ?_
  refine va_putN (D := (dC, dI)) (ci := 8) (v := .long (-1)) (ty := .long) (C := RX4) (T := TX4) (N := 2) hx hb hts (by decide +kernel) tyX4 tyX4_ok nmX4 hown hK hP hD hS 0 rfl rfl 0 (by decide) (va_Nw.use rfl g_nf_RL_13) (fun _ h9 => h9) rfl (by decide +kernel) rfl rfl (Nat.le_of_ble_eq_true rfl) dL_step_8 (fun H locs hP hD hS => ?_)
  have hP : va_P (dC, dI) vwCl [(h7, .inr (8, [.long (-1), .null])), (h0, .inr (7, [.ref h1, .ref h2, .ref z0, .ref z1, .ref z2, .ref z3, .int 0, .int 0, .int 0])), (h1, .inl (k0, 4, .inr (.inr (.inr (.inr (va_up (va_up (va_up (va_up (fun _ => none) 0 (some h3)) 1 (some h4)) 2 (some h5)) 3 (some h6))))))), (h2, .inr (5, [.ref z4, .ref z5, .ref z6, .ref z7, .ref z8, .ref z9, .int 0, .int 0])), (h3, .inr (6, [.ref z10, .int 0])), (h4, .inr (6, [.ref z11, .int 0])), (h5, .inr (6, [.ref z12, .int 0])), (h6, .inr (6, [.ref z13, .int 0]))] H := hP
  have hD : va_D A [(h7, .inr (8, [.long (-1), .null])), (h0, .inr (7, [.ref h1, .ref h2, .ref z0, .ref z1, .ref z2, .ref z3, .int 0, .int 0, .int 0])), (h1, .inl (k0, 4, .inr (.inr (.inr (.inr (va_up (va_up (va_up (va_up (fun _ => none) 0 (some h3)) 1 (some h4)) 2 (some h5)) 3 (some h6))))))), (h2, .inr (5, [.ref z4, .ref z5, .ref z6, .ref z7, .ref z8, .ref z9, .int 0, .int 0])), (h3, .inr (6, [.ref z10, .int 0])), (h4, .inr (6, [.ref z11, .int 0])), (h5, .inr (6, [.ref z12, .int 0])), (h6, .inr (6, [.ref z13, .int 0]))] := hD
  refine lv_goto (tgt := 22) hx hb dL_step_11 (by decide) ?_
  refine lv_iconst (v := 0) hx hb dL_step_22 (by decide) ?_
  have hP := hP.sub (ws' := [(h0, .inr (7, [.ref h1, .ref h2, .ref z0, .ref z1, .ref z2, .ref z3, .int 0, .int 0, .int 0])), (h1, .inl (k0, 4, .inr (.inr (.inr (.inr (va_up (va_up (va_up (va_up (fun _ => none) 0 (some h3)) 1 (some h4)) 2 (some h5)) 3 (some h6))))))), (h2, .inr (5, [.ref z4, .ref z5, .ref z6, .ref z7, .ref z8, .ref z9, .int 0, .int 0])), (h3, .inr (6, [.ref z10, .int 0])), (h4, .inr (6, [.ref z11, .int 0])), (h5, .inr (6, [.ref z12, .int 0])), (h6, .inr (6, [.ref z13, .int 0])), (h7, .inr (8, [.long (-1), .null]))]) [1, 2, 3, 4, 5, 6, 7, 0] rfl
  have hD := hD.sub (ws' := [(h0, .inr (7, [.ref h1, .ref h2, .ref z0, .ref z1, .ref z2, .ref z3, .int 0, .int 0, .int 0])), (h1, .inl (k0, 4, .inr (.inr (.inr (.inr (va_up (va_up (va_up (va_up (fun _ => none) 0 (some h3)) 1 (some h4)) 2 (some h5)) 3 (some h6))))))), (h2, .inr (5, [.ref z4, .ref z5, .ref z6, .ref z7, .ref z8, .ref z9, .int 0, .int 0])), (h3, .inr (6, [.ref z10, .int 0])), (h4, .inr (6, [.ref z11, .int 0])), (h5, .inr (6, [.ref z12, .int 0])), (h6, .inr (6, [.ref z13, .int 0])), (h7, .inr (8, [.long (-1), .null]))]) [1, 2, 3, 4, 5, 6, 7, 0] (by decide) rfl
  exact W.iret (v := 0) hx hb hr (fun t ht hW => ⟨⟨0, (), rfl, rfl, by rw [ht]; exact hP, va_K.moved hW.alike hK, hD⟩, hS.F ht⟩) hS.2.2 dL_step_23
set_option maxHeartbeats 4000000 in
set_option maxRecDepth 100000 in
theorem kx_X5_isIn_21 (l : Launch) (dC : Nat → ClassId) (dI : Nat → Nat → Nat) (sz : Nat) (i0 : Int32) (i0_l : (0 : Int) ≤ i0.toInt) (i0_u : i0.toInt ≤ (2 : Int)) : Met l yX5_isIn wsX5_isIn ({ frames := 0, cells := 0, slots := 0, locals := 0 }) (va_Pc [.int i0, .int 0, .int 2] (fun U => U.heap.size = sz ∧ va_P (dC, dI) vwCl [] U.heap ∧ va_K (dC, dI) vwCl [] U ∧ va_D (fun _ => True) [])) (va_Qi (fun (r : Int32) (_ : Unit) => r = 1) (fun (_ : Unit) (t : State) => va_P (dC, dI) vwCl [] t.heap ∧ va_K (dC, dI) vwCl [] t ∧ va_D (va_A [] sz) []) (va_A [] sz)) 0 0 (va_A [] sz) := by
  refine Met.ofW (cc := cX5_isIn) (maxL := 3) (ret := (some .boolean)) (by decide) rfl ?_
  intro p e s m args below meth c s₁ B hml hv
  obtain ⟨rfl, hsz, hP, hK, hD0⟩ := hv
  have hx := B.exec
  have hb := B.bytes
  have hr := B.returns
  have hts := atoms_spec (ws := wsX5_isIn) B.pre
  have hown : s.vm.findClass RX5 = some m.cls := findClass_of_methodNamed B.named
  have hlocks := B.notSynchronized
  subst hsz
  have hD := hD0.self (sz := s.heap.size)
  generalize hAe : va_A [] s.heap.size = A at hD ⊢
  have hA : ∀ q : Nat, s.heap.size ≤ q → A q := fun q h => by rw [← hAe]; exact Or.inr h
  have hS : va_S A s.heap s.heap [] := va_S.rf
  have hP : va_P (dC, dI) vwCl [] s.heap := hP
  have hl := lv_entry ([.int i0, .int 0, .int 2]) (n := 3) (Nat.le_of_ble_eq_true rfl)
  rw [lg_entry_eq]
  generalize (lg_sl ([.int i0, .int 0, .int 2]) ++ List.replicate (3 - (lg_sl ([.int i0, .int 0, .int 2])).length) Slot.unset).toArray = ls at hl ⊢
  have hl : lv_has ls 3 [(0, .int i0), (1, .int 0), (2, .int 2)] := hl
  refine lv_iload_n hx hb dX5_isIn_0 rfl (lv_at hl 0 rfl) ?_
  refine lv_iload_n hx hb dX5_isIn_1 rfl (lv_at hl 1 rfl) ?_
  refine lv_icmp_lt (tgt := 14) hx hb dX5_isIn_2 (by decide) (fun c9 => absurd c9 (fun c8 => absurd (Int32.lt_iff_toInt_lt.mp c8) (by rw [show (0 : Int32).toInt = 0 from by decide]; omega))) (fun _ => ?_)
  refine lv_iload_n hx hb dX5_isIn_5 rfl (lv_at hl 0 rfl) ?_
  refine lv_iload_n hx hb dX5_isIn_6 rfl (lv_at hl 2 rfl) ?_
  refine lv_icmp_gt (tgt := 14) hx hb dX5_isIn_7 (by decide) (fun c9 => absurd c9 (fun c8 => absurd (Int32.lt_iff_toInt_lt.mp c8) (by rw [show (2 : Int32).toInt = 2 from by decide]; omega))) (fun _ => ?_)
  refine lv_iconst (v := 1) hx hb dX5_isIn_10 (by decide) ?_
  refine lv_goto (tgt := 15) hx hb dX5_isIn_11 (by decide) ?_
  exact W.zret (v := 1) hx hb hr (by decide) (fun t ht hW => ⟨⟨1, (), rfl, rfl, by rw [ht]; exact hP, va_K.moved hW.alike hK, hD⟩, hS.F ht⟩) hS.2.2 dX5_isIn_15
set_option maxHeartbeats 4000000 in
set_option maxRecDepth 100000 in
theorem kx_X5_chosen_0 (l : Launch) (dC : Nat → ClassId) (dI : Nat → Nat → Nat) (ge5 gea gv5 gva gde gic gi0 : Nat) (h0 : Nat) (h1 : Nat) (z0 : Nat) (z1 : Nat) (sz : Nat) (i0 : Int32) (i0_l : (0 : Int) ≤ i0.toInt) (i0_u : i0.toInt ≤ (2 : Int)) : Met l yX5_chosen wsX5_chosen ({ frames := 2, cells := 0, slots := 0, locals := 40 }) (va_Pc [.ref h1, .ref ge5, .int i0] (fun U => U.heap.size = sz ∧ va_P (dC, dI) vwCl [(h0, .inr (3, [.int 0, .ref gde, .int 0])), (h1, .inr (9, [.int 0, .ref z0, .ref h0, .ref z1, .int 0, .int 0, .int 0]))] U.heap ∧ va_K (dC, dI) vwCl [] U ∧ va_D (fun _ => True) [(h0, .inr (3, [.int 0, .ref gde, .int 0])), (h1, .inr (9, [.int 0, .ref z0, .ref h0, .ref z1, .int 0, .int 0, .int 0]))] ∧ gv ge5 gea gv5 gva gde gic gi0 (va_A [(h0, .inr (3, [.int 0, .ref gde, .int 0])), (h1, .inr (9, [.int 0, .ref z0, .ref h0, .ref z1, .int 0, .int 0, .int 0]))] sz) U U.heap)) (va_Qq (fun (r : Option Nat) (_ : Unit) => r = none) (fun (_ : Unit) (t : State) => va_P (dC, dI) vwCl [(h0, .inr (3, [.int 0, .ref gde, .int 0])), (h1, .inr (9, [.int 0, .ref z0, .ref h0, .ref z1, .int 0, .int 0, .int 0]))] t.heap ∧ va_K (dC, dI) vwCl [] t ∧ va_D (va_A [(h0, .inr (3, [.int 0, .ref gde, .int 0])), (h1, .inr (9, [.int 0, .ref z0, .ref h0, .ref z1, .int 0, .int 0, .int 0]))] sz) [(h0, .inr (3, [.int 0, .ref gde, .int 0])), (h1, .inr (9, [.int 0, .ref z0, .ref h0, .ref z1, .int 0, .int 0, .int 0]))]) (va_A [(h0, .inr (3, [.int 0, .ref gde, .int 0])), (h1, .inr (9, [.int 0, .ref z0, .ref h0, .ref z1, .int 0, .int 0, .int 0]))] sz)) 0 0 (va_A [(h0, .inr (3, [.int 0, .ref gde, .int 0])), (h1, .inr (9, [.int 0, .ref z0, .ref h0, .ref z1, .int 0, .int 0, .int 0]))] sz) := by
  refine Met.ofW (cc := cX5_chosen) (maxL := 7) (ret := (some (.array .int))) (by decide) rfl ?_
  intro p e s m args below meth c s₁ B hml hv
  obtain ⟨rfl, hsz, hP, hK, hD0, hG⟩ := hv
  have hx := B.exec
  have hb := B.bytes
  have hr := B.returns
  have hts := atoms_spec (ws := wsX5_chosen) B.pre
  have hown : s.vm.findClass RX5 = some m.cls := findClass_of_methodNamed B.named
  have hlocks := B.notSynchronized
  subst hsz
  have hD := hD0.self (sz := s.heap.size)
  generalize hAe : va_A [(h0, .inr (3, [.int 0, .ref gde, .int 0])), (h1, .inr (9, [.int 0, .ref z0, .ref h0, .ref z1, .int 0, .int 0, .int 0]))] s.heap.size = A at hD hG ⊢
  obtain ⟨⟨g_AO_Text, g_AO_String, g_AO_Object, g_nm_RX1_20, g_nm_RX0_17, g_nm_RX3_31, g_nm_RX2_44, g_nm_RL_121, g_nf_RL_13, g_nf_RL_47, g_ca_IO, g_ca_IA, g_ca_IS, g_ca_IntObj, g_ca_StrObj, g_de_RT, g_de_EX, g_de_TH, g_nc_IA_IO, g_nc_IS_IO, g_nc_IS_IA⟩, ⟨g_s3, g_s5, g_sa, g_x278, g_x280, g_x282, g_x284, g_x286, g_x180, g_x238, g_x250⟩, ⟨g_o5, g_c5, g_v5, g_t5, g_oa, g_ca, g_va, g_ta, g_zc, g_zd, g_td, g_zf, g_zU, g_zN, g_zh, g_zk, g_tk, g_oi, g_vi⟩⟩ := id hG
  have hA : ∀ q : Nat, s.heap.size ≤ q → A q := fun q h => by rw [← hAe]; exact Or.inr h
  have hS : va_S A s.heap s.heap [] := va_S.rf
  have hP : va_P (dC, dI) vwCl [(h0, .inr (3, [.int 0, .ref gde, .int 0])), (h1, .inr (9, [.int 0, .ref z0, .ref h0, .ref z1, .int 0, .int 0, .int 0]))] s.heap := hP
  have hl := lv_entry ([.ref h1, .ref ge5, .int i0]) (n := 7) (Nat.le_of_ble_eq_true rfl)
  rw [lg_entry_eq]
  generalize (lg_sl ([.ref h1, .ref ge5, .int i0]) ++ List.replicate (7 - (lg_sl ([.ref h1, .ref ge5, .int i0])).length) Slot.unset).toArray = ls at hl ⊢
  have hl : lv_has ls 7 [(0, .ref h1), (1, .ref ge5), (2, .int i0)] := hl
  refine lv_aload_n hx hb dX5_chosen_0 rfl (lv_at hl 0 rfl) ?_
  refine va_get (D := (dC, dI)) (ci := 9) (v := .ref h0) (C := RX5) (T := TX5) (N := 7) hx hb hts (by decide +kernel) hown hK hP 1 rfl rfl 2 (by decide) (hts (.fieldLink RX5 20 "RewriteropeModel" "lefts" "Ljava/util/ArrayList;") (by decide +kernel)) (fun _ h9 => h9) rfl dX5_chosen_1 ?_
  have hPc := hP.sub (ws' := [(h0, .inr (3, [.int 0, .ref gde, .int 0]))]) [0] rfl
  have hDc := hD.sub (ws' := [(h0, .inr (3, [.int 0, .ref gde, .int 0]))]) [0] (by decide) rfl
  have hKc := hK.sub (tys' := []) [] rfl
  have hFc := va_free (wc := [(h0, .inr (3, [.int 0, .ref gde, .int 0]))]) hD hS hA [0] rfl
  refine va_calli (va_runV (As := []) (rest := []) ⟨hx, hb, hml, hown, hts⟩ (kx_Jx4a65c_size_8abf5_1 l dC dI ge5 gea gv5 gva gde gic gi0 h0 s.heap.size) (cwV 0 hts gX5_chosen_Jx4a65c_size_8abf5 rfl rfl rfl (by decide +kernel) ⟨Nat.le_of_ble_eq_true rfl, Nat.le_of_ble_eq_true rfl⟩) ⟨fun a U g mk q => by obtain ⟨q0, q1, qP, qK, qD, qG⟩ := q; exact ⟨q0, q1, qP, va_K.moved (u := U) (U := U.calling g mk a) (Vm.Alike.refl U.vm) qK, qD, gv.fb qG⟩, va_recv hKc hPc (ci := 3) (q0 := 0) rfl rfl, fun U hU hW => ⟨rfl, by rw [hU], by rw [hU]; exact hPc, va_K.moved hW.alike hKc, hDc.weaken (fun _ _ _ _ => trivial), gv.pass hW hU hS hFc hG⟩⟩ rfl rfl hl.1 rfl (lv_room (Nat.le_of_ble_eq_true rfl)) dX5_chosen_4 ⟨Nat.le_of_ble_eq_true rfl, Nat.le_of_ble_eq_true rfl⟩) hS (fun q _ h => hFc q h) hFc (fun r9 u t H1 locs ht hvm hw hB hz1 hk1 hS => ?_)
  obtain rfl := hw
  obtain ⟨hP1, hK1, hD1⟩ := hB
  rw [ht] at hP1
  have hK1 := va_K.moved hvm.symm hK1
  obtain ⟨hP, hD⟩ := va_join (wr := [(h1, .inr (9, [.int 0, .ref z0, .ref h0, .ref z1, .int 0, .int 0, .int 0]))]) (w1 := [(h0, .inr (3, [.int 0, .ref gde, .int 0]))]) hP hD [0] [1] rfl rfl (by decide) (by decide) hk1 hFc hP1 hD1
  generalize H1 = H at hP hS ⊢
  have hP : va_P (dC, dI) vwCl [(h1, .inr (9, [.int 0, .ref z0, .ref h0, .ref z1, .int 0, .int 0, .int 0])), (h0, .inr (3, [.int 0, .ref gde, .int 0]))] H := hP
  have hD : va_D A [(h1, .inr (9, [.int 0, .ref z0, .ref h0, .ref z1, .int 0, .int 0, .int 0])), (h0, .inr (3, [.int 0, .ref gde, .int 0]))] := hD
  refine lv_istore_n (lv' := [(3, .int 0), (0, .ref h1), (1, .ref ge5), (2, .int i0)]) hx hb dX5_chosen_7 rfl hl (by decide) rfl (fun ls hl => ?_)
  refine lv_iconst (v := 0) hx hb dX5_chosen_8 (by decide) ?_
  refine lv_istore (lv' := [(4, .int 0), (3, .int 0), (0, .ref h1), (1, .ref ge5), (2, .int i0)]) hx hb dX5_chosen_9 hl (by decide) rfl (fun ls hl => ?_)
  refine lv_iload hx hb dX5_chosen_11 (lv_at hl 0 rfl) ?_
  refine lv_aload_n hx hb dX5_chosen_13 rfl (lv_at hl 3 rfl) ?_
  have hPc := hP.sub (ws' := []) [] rfl
  have hDc := hD.sub (ws' := []) [] (by decide) rfl
  have hKc := hK.sub (tys' := []) [] rfl
  have hFc := va_free (wc := []) hD hS hA [] rfl
  refine va_calli (va_runV (As := []) (rest := [.int 0]) ⟨hx, hb, hml, hown, hts⟩ (kx_J0_length_8abf5_0 l dC dI ge5 gea gv5 gva gde gic gi0 H.size) (cwV 0 hts gX5_chosen_J0_length_8abf5 rfl rfl rfl (by decide +kernel) ⟨Nat.le_of_ble_eq_true rfl, Nat.le_of_ble_eq_true rfl⟩) ⟨fun a U g mk q => by obtain ⟨q0, q1, qP, qK, qD, qG⟩ := q; exact ⟨q0, q1, qP, va_K.moved (u := U) (U := U.calling g mk a) (Vm.Alike.refl U.vm) qK, qD, gv.fb qG⟩, (by obtain ⟨cell, k1, k2, k3, -⟩ := g_o5.kept hS.2.1; exact ⟨cell, k1, k2, k3⟩), fun U hU hW => ⟨rfl, by rw [hU], by rw [hU]; exact hPc, va_K.moved hW.alike hKc, hDc.weaken (fun _ _ _ _ => trivial), gv.pass hW hU hS hFc hG⟩⟩ rfl rfl hl.1 rfl (lv_room (Nat.le_of_ble_eq_true rfl)) dX5_chosen_14 ⟨Nat.le_of_ble_eq_true rfl, Nat.le_of_ble_eq_true rfl⟩) hS (fun q _ h => hFc q h) hFc (fun r9 u t H1 locs ht hvm hw hB hz1 hk1 hS => ?_)
  obtain rfl := hw
  obtain ⟨hP1, hK1, hD1⟩ := hB
  rw [ht] at hP1
  have hK1 := va_K.moved hvm.symm hK1
  obtain ⟨hP, hD⟩ := va_join (wr := [(h1, .inr (9, [.int 0, .ref z0, .ref h0, .ref z1, .int 0, .int 0, .int 0])), (h0, .inr (3, [.int 0, .ref gde, .int 0]))]) (w1 := []) hP hD [] [0, 1] rfl rfl (by decide) (by decide) hk1 hFc hP1 hD1
  generalize H1 = H at hP hS ⊢
  have hP : va_P (dC, dI) vwCl [(h1, .inr (9, [.int 0, .ref z0, .ref h0, .ref z1, .int 0, .int 0, .int 0])), (h0, .inr (3, [.int 0, .ref gde, .int 0]))] H := hP
  have hD : va_D A [(h1, .inr (9, [.int 0, .ref z0, .ref h0, .ref z1, .int 0, .int 0, .int 0])), (h0, .inr (3, [.int 0, .ref gde, .int 0]))] := hD
  refine lv_iload_n hx hb dX5_chosen_17 rfl (lv_at hl 1 rfl) ?_
  refine lv_imul hx hb dX5_chosen_18 ?_
  refine lv_topi (fun y1 ey1 => ?_)
  obtain rfl : y1 = 0 := ey1.trans (by decide)
  refine lv_icmp_ge (tgt := 123) hx hb dX5_chosen_19 (by decide) (fun _ => ?_) (fun c9 => absurd (by decide) c9)
  refine lv_null hx hb dX5_chosen_123 ?_
  have hP := hP.sub (ws' := [(h0, .inr (3, [.int 0, .ref gde, .int 0])), (h1, .inr (9, [.int 0, .ref z0, .ref h0, .ref z1, .int 0, .int 0, .int 0]))]) [1, 0] rfl
  have hD := hD.sub (ws' := [(h0, .inr (3, [.int 0, .ref gde, .int 0])), (h1, .inr (9, [.int 0, .ref z0, .ref h0, .ref z1, .int 0, .int 0, .int 0]))]) [1, 0] (by decide) rfl
  exact W.aret (v := .null) hx hb hr (Or.inr ⟨_, rfl⟩) (Or.inl rfl) (fun t ht hW => ⟨⟨none, (), rfl, rfl, by rw [ht]; exact hP, va_K.moved hW.alike hK, hD⟩, hS.F ht⟩) hS.2.2 dX5_chosen_124
set_option maxHeartbeats 4000000 in
set_option maxRecDepth 100000 in
theorem kx_X5_step_0 (l : Launch) (dC : Nat → ClassId) (dI : Nat → Nat → Nat) (ge5 gea gv5 gva gde gic gi0 : Nat) (h0 : Nat) (h1 : Nat) (h2 : Nat) (z0 : Nat) (k0 : ClassId) (sz : Nat) (i0 : Int32) (i0_l : (0 : Int) ≤ i0.toInt) (i0_u : i0.toInt ≤ (3 : Int)) (i1 : Int32) (i1_l : (0 : Int) ≤ i1.toInt) (i1_u : i1.toInt ≤ (2 : Int)) : Met l yX5_step wsX5_step ({ frames := 3, cells := 0, slots := 0, locals := 66 }) (va_Pc [.ref h0, .int i0, .int i1] (fun U => U.heap.size = sz ∧ va_P (dC, dI) vwCl [(h0, .inr (9, [.int 0, .ref h1, .ref h2, .ref z0, .int 0, .int 0, .int 0])), (h1, .inl (k0, 4, .inr (.inr (.inr (.inr (va_up (va_up (va_up (va_up (fun _ => none) 0 (some ge5)) 1 (some ge5)) 2 (some ge5)) 3 (some ge5))))))), (h2, .inr (3, [.int 0, .ref gde, .int 0]))] U.heap ∧ va_K (dC, dI) vwCl [(k0, .object "java/lang/String")] U ∧ va_D (fun _ => True) [(h0, .inr (9, [.int 0, .ref h1, .ref h2, .ref z0, .int 0, .int 0, .int 0])), (h1, .inl (k0, 4, .inr (.inr (.inr (.inr (va_up (va_up (va_up (va_up (fun _ => none) 0 (some ge5)) 1 (some ge5)) 2 (some ge5)) 3 (some ge5))))))), (h2, .inr (3, [.int 0, .ref gde, .int 0]))] ∧ gv ge5 gea gv5 gva gde gic gi0 (va_A [(h0, .inr (9, [.int 0, .ref h1, .ref h2, .ref z0, .int 0, .int 0, .int 0])), (h1, .inl (k0, 4, .inr (.inr (.inr (.inr (va_up (va_up (va_up (va_up (fun _ => none) 0 (some ge5)) 1 (some ge5)) 2 (some ge5)) 3 (some ge5))))))), (h2, .inr (3, [.int 0, .ref gde, .int 0]))] sz) U U.heap)) (va_Qi (fun (r : Int32) (_ : Unit) => r = (-1)) (fun (_ : Unit) (t : State) => va_P (dC, dI) vwCl [(h0, .inr (9, [.int 0, .ref h1, .ref h2, .ref z0, .int 0, .int 0, .int 0]))] t.heap ∧ va_K (dC, dI) vwCl [(k0, .object "java/lang/String")] t ∧ va_D (va_A [(h0, .inr (9, [.int 0, .ref h1, .ref h2, .ref z0, .int 0, .int 0, .int 0])), (h1, .inl (k0, 4, .inr (.inr (.inr (.inr (va_up (va_up (va_up (va_up (fun _ => none) 0 (some ge5)) 1 (some ge5)) 2 (some ge5)) 3 (some ge5))))))), (h2, .inr (3, [.int 0, .ref gde, .int 0]))] sz) [(h0, .inr (9, [.int 0, .ref h1, .ref h2, .ref z0, .int 0, .int 0, .int 0]))]) (va_A [(h0, .inr (9, [.int 0, .ref h1, .ref h2, .ref z0, .int 0, .int 0, .int 0])), (h1, .inl (k0, 4, .inr (.inr (.inr (.inr (va_up (va_up (va_up (va_up (fun _ => none) 0 (some ge5)) 1 (some ge5)) 2 (some ge5)) 3 (some ge5))))))), (h2, .inr (3, [.int 0, .ref gde, .int 0]))] sz)) 0 0 (va_A [(h0, .inr (9, [.int 0, .ref h1, .ref h2, .ref z0, .int 0, .int 0, .int 0])), (h1, .inl (k0, 4, .inr (.inr (.inr (.inr (va_up (va_up (va_up (va_up (fun _ => none) 0 (some ge5)) 1 (some ge5)) 2 (some ge5)) 3 (some ge5))))))), (h2, .inr (3, [.int 0, .ref gde, .int 0]))] sz) := by
  refine Met.ofW (cc := cX5_step) (maxL := 5) (ret := (some .int)) (by decide) rfl ?_
  intro p e s m args below meth c s₁ B hml hv
  obtain ⟨rfl, hsz, hP, hK, hD0, hG⟩ := hv
  have hx := B.exec
  have hb := B.bytes
  have hr := B.returns
  have hts := atoms_spec (ws := wsX5_step) B.pre
  have hown : s.vm.findClass RX5 = some m.cls := findClass_of_methodNamed B.named
  have hlocks := B.notSynchronized
  subst hsz
  have hD := hD0.self (sz := s.heap.size)
  generalize hAe : va_A [(h0, .inr (9, [.int 0, .ref h1, .ref h2, .ref z0, .int 0, .int 0, .int 0])), (h1, .inl (k0, 4, .inr (.inr (.inr (.inr (va_up (va_up (va_up (va_up (fun _ => none) 0 (some ge5)) 1 (some ge5)) 2 (some ge5)) 3 (some ge5))))))), (h2, .inr (3, [.int 0, .ref gde, .int 0]))] s.heap.size = A at hD hG ⊢
  obtain ⟨⟨g_AO_Text, g_AO_String, g_AO_Object, g_nm_RX1_20, g_nm_RX0_17, g_nm_RX3_31, g_nm_RX2_44, g_nm_RL_121, g_nf_RL_13, g_nf_RL_47, g_ca_IO, g_ca_IA, g_ca_IS, g_ca_IntObj, g_ca_StrObj, g_de_RT, g_de_EX, g_de_TH, g_nc_IA_IO, g_nc_IS_IO, g_nc_IS_IA⟩, ⟨g_s3, g_s5, g_sa, g_x278, g_x280, g_x282, g_x284, g_x286, g_x180, g_x238, g_x250⟩, ⟨g_o5, g_c5, g_v5, g_t5, g_oa, g_ca, g_va, g_ta, g_zc, g_zd, g_td, g_zf, g_zU, g_zN, g_zh, g_zk, g_tk, g_oi, g_vi⟩⟩ := id hG
  have hA : ∀ q : Nat, s.heap.size ≤ q → A q := fun q h => by rw [← hAe]; exact Or.inr h
  have hS : va_S A s.heap s.heap [] := va_S.rf
  have hP : va_P (dC, dI) vwCl [(h0, .inr (9, [.int 0, .ref h1, .ref h2, .ref z0, .int 0, .int 0, .int 0])), (h1, .inl (k0, 4, .inr (.inr (.inr (.inr (va_up (va_up (va_up (va_up (fun _ => none) 0 (some ge5)) 1 (some ge5)) 2 (some ge5)) 3 (some ge5))))))), (h2, .inr (3, [.int 0, .ref gde, .int 0]))] s.heap := hP
  have hl := lv_entry ([.ref h0, .int i0, .int i1]) (n := 5) (Nat.le_of_ble_eq_true rfl)
  rw [lg_entry_eq]
  generalize (lg_sl ([.ref h0, .int i0, .int i1]) ++ List.replicate (5 - (lg_sl ([.ref h0, .int i0, .int i1])).length) Slot.unset).toArray = ls at hl ⊢
  have hl : lv_has ls 5 [(0, .ref h0), (1, .int i0), (2, .int i1)] := hl
  refine lv_aload_n hx hb dX5_step_0 rfl (lv_at hl 0 rfl) ?_
  refine lv_iload_n hx hb dX5_step_1 rfl (lv_at hl 1 rfl) ?_
  have hPc := hP.sub (ws' := []) [] rfl
  have hDc := hD.sub (ws' := []) [] (by decide) rfl
  have hKc := hK.sub (tys' := []) [] rfl
  have hFc := va_free (wc := []) hD hS hA [] rfl
  refine va_calli (va_runS (As := [.int i0]) (rest := [.ref h0]) ⟨hx, hb, hml, hown, hts⟩ (kx_X5_isNo_1 l dC dI s.heap.size i0 i0_l i0_u) (cwS 1 hts gX5_step_X5_isNo rfl rfl rfl (by decide +kernel) ⟨Nat.le_of_ble_eq_true rfl, Nat.le_of_ble_eq_true rfl⟩) ⟨fun a U g mk q => by obtain ⟨q0, q1, qP, qK, qD⟩ := q; exact ⟨q0, q1, qP, va_K.moved (u := U) (U := U.calling g mk a) (Vm.Alike.refl U.vm) qK, qD⟩, fun U hU hW => ⟨rfl, by rw [hU], by rw [hU]; exact hPc, va_K.moved hW.alike hKc, hDc.weaken (fun _ _ _ _ => trivial)⟩⟩ rfl rfl hl.1 rfl (lv_room (Nat.le_of_ble_eq_true rfl)) dX5_step_2 ⟨Nat.le_of_ble_eq_true rfl, Nat.le_of_ble_eq_true rfl⟩) hS (fun q _ h => hFc q h) hFc (fun r9 u t H1 locs ht hvm hw hB hz1 hk1 hS => ?_)
  obtain rfl := hw
  obtain ⟨hP1, hK1, hD1⟩ := hB
  rw [ht] at hP1
  have hK1 := va_K.moved hvm.symm hK1
  obtain ⟨hP, hD⟩ := va_join (wr := [(h0, .inr (9, [.int 0, .ref h1, .ref h2, .ref z0, .int 0, .int 0, .int 0])), (h1, .inl (k0, 4, .inr (.inr (.inr (.inr (va_up (va_up (va_up (va_up (fun _ => none) 0 (some ge5)) 1 (some ge5)) 2 (some ge5)) 3 (some ge5))))))), (h2, .inr (3, [.int 0, .ref gde, .int 0]))]) (w1 := []) hP hD [] [0, 1, 2] rfl rfl (by decide) (by decide) hk1 hFc hP1 hD1
  generalize H1 = H at hP hS ⊢
  have hP : va_P (dC, dI) vwCl [(h0, .inr (9, [.int 0, .ref h1, .ref h2, .ref z0, .int 0, .int 0, .int 0])), (h1, .inl (k0, 4, .inr (.inr (.inr (.inr (va_up (va_up (va_up (va_up (fun _ => none) 0 (some ge5)) 1 (some ge5)) 2 (some ge5)) 3 (some ge5))))))), (h2, .inr (3, [.int 0, .ref gde, .int 0]))] H := hP
  have hD : va_D A [(h0, .inr (9, [.int 0, .ref h1, .ref h2, .ref z0, .int 0, .int 0, .int 0])), (h1, .inl (k0, 4, .inr (.inr (.inr (.inr (va_up (va_up (va_up (va_up (fun _ => none) 0 (some ge5)) 1 (some ge5)) 2 (some ge5)) 3 (some ge5))))))), (h2, .inr (3, [.int 0, .ref gde, .int 0]))] := hD
  refine lv_iload_n hx hb dX5_step_5 rfl (lv_at hl 2 rfl) ?_
  refine lv_iconst (v := 0) hx hb dX5_step_6 (by decide) ?_
  refine lv_iconst (v := 2) hx hb dX5_step_7 (by decide) ?_
  have hPc := hP.sub (ws' := []) [] rfl
  have hDc := hD.sub (ws' := []) [] (by decide) rfl
  have hKc := hK.sub (tys' := []) [] rfl
  have hFc := va_free (wc := []) hD hS hA [] rfl
  refine va_calli (va_runS (As := [.int i1, .int 0, .int 2]) (rest := [.int 0, .ref h0]) ⟨hx, hb, hml, hown, hts⟩ (kx_X5_isIn_21 l dC dI H.size i1 i1_l i1_u) (cwS 3 hts gX5_step_X5_isIn rfl rfl rfl (by decide +kernel) ⟨Nat.le_of_ble_eq_true rfl, Nat.le_of_ble_eq_true rfl⟩) ⟨fun a U g mk q => by obtain ⟨q0, q1, qP, qK, qD⟩ := q; exact ⟨q0, q1, qP, va_K.moved (u := U) (U := U.calling g mk a) (Vm.Alike.refl U.vm) qK, qD⟩, fun U hU hW => ⟨rfl, by rw [hU], by rw [hU]; exact hPc, va_K.moved hW.alike hKc, hDc.weaken (fun _ _ _ _ => trivial)⟩⟩ rfl rfl hl.1 rfl (lv_room (Nat.le_of_ble_eq_true rfl)) dX5_step_8 ⟨Nat.le_of_ble_eq_true rfl, Nat.le_of_ble_eq_true rfl⟩) hS (fun q _ h => hFc q h) hFc (fun r9 u t H1 locs ht hvm hw hB hz1 hk1 hS => ?_)
  obtain rfl := hw
  obtain ⟨hP1, hK1, hD1⟩ := hB
  rw [ht] at hP1
  have hK1 := va_K.moved hvm.symm hK1
  obtain ⟨hP, hD⟩ := va_join (wr := [(h0, .inr (9, [.int 0, .ref h1, .ref h2, .ref z0, .int 0, .int 0, .int 0])), (h1, .inl (k0, 4, .inr (.inr (.inr (.inr (va_up (va_up (va_up (va_up (fun _ => none) 0 (some ge5)) 1 (some ge5)) 2 (some ge5)) 3 (some ge5))))))), (h2, .inr (3, [.int 0, .ref gde, .int 0]))]) (w1 := []) hP hD [] [0, 1, 2] rfl rfl (by decide) (by decide) hk1 hFc hP1 hD1
  generalize H1 = H at hP hS ⊢
  have hP : va_P (dC, dI) vwCl [(h0, .inr (9, [.int 0, .ref h1, .ref h2, .ref z0, .int 0, .int 0, .int 0])), (h1, .inl (k0, 4, .inr (.inr (.inr (.inr (va_up (va_up (va_up (va_up (fun _ => none) 0 (some ge5)) 1 (some ge5)) 2 (some ge5)) 3 (some ge5))))))), (h2, .inr (3, [.int 0, .ref gde, .int 0]))] H := hP
  have hD : va_D A [(h0, .inr (9, [.int 0, .ref h1, .ref h2, .ref z0, .int 0, .int 0, .int 0])), (h1, .inl (k0, 4, .inr (.inr (.inr (.inr (va_up (va_up (va_up (va_up (fun _ => none) 0 (some ge5)) 1 (some ge5)) 2 (some ge5)) 3 (some ge5))))))), (h2, .inr (3, [.int 0, .ref gde, .int 0]))] := hD
  refine lv_if_ne (tgt := 18) hx hb dX5_step_11 (by decide) (fun _ => ?_) (fun c9 => absurd c9 (by decide))
  refine lv_iconst (v := 0) hx hb dX5_step_18 (by decide) ?_
  refine lv_iconst (v := 0) hx hb dX5_step_19 (by decide) ?_
  have hPc := hP.sub (ws' := [(h0, .inr (9, [.int 0, .ref h1, .ref h2, .ref z0, .int 0, .int 0, .int 0]))]) [0] rfl
  have hDc := hD.sub (ws' := [(h0, .inr (9, [.int 0, .ref h1, .ref h2, .ref z0, .int 0, .int 0, .int 0]))]) [0] (by decide) rfl
  have hKc := hK.sub (tys' := []) [] rfl
  have hFc := va_free (wc := [(h0, .inr (9, [.int 0, .ref h1, .ref h2, .ref z0, .int 0, .int 0, .int 0]))]) hD hS hA [0] rfl
  refine va_calli (va_runV (As := [.int 0, .int 0, .int 0]) (rest := []) ⟨hx, hb, hml, hown, hts⟩ (kx_X5_fails_1 l dC dI h0 h1 h2 z0 H.size) (cwV 3 hts gX5_step_X5_fails rfl rfl rfl (by decide +kernel) ⟨Nat.le_of_ble_eq_true rfl, Nat.le_of_ble_eq_true rfl⟩) ⟨fun a U g mk q => by obtain ⟨q0, q1, qP, qK, qD⟩ := q; exact ⟨q0, q1, qP, va_K.moved (u := U) (U := U.calling g mk a) (Vm.Alike.refl U.vm) qK, qD⟩, va_recv hKc hPc (ci := 9) (q0 := 0) rfl rfl, fun U hU hW => ⟨rfl, by rw [hU], by rw [hU]; exact hPc, va_K.moved hW.alike hKc, hDc.weaken (fun _ _ _ _ => trivial)⟩⟩ rfl rfl hl.1 rfl (lv_room (Nat.le_of_ble_eq_true rfl)) dX5_step_20 ⟨Nat.le_of_ble_eq_true rfl, Nat.le_of_ble_eq_true rfl⟩) hS (fun q _ h => hFc q h) hFc (fun r9 u t H1 locs ht hvm hw hB hz1 hk1 hS => ?_)
  obtain rfl := hw
  obtain ⟨hP1, hK1, hD1⟩ := hB
  rw [ht] at hP1
  have hK1 := va_K.moved hvm.symm hK1
  obtain ⟨hP, hD⟩ := va_join (wr := [(h1, .inl (k0, 4, .inr (.inr (.inr (.inr (va_up (va_up (va_up (va_up (fun _ => none) 0 (some ge5)) 1 (some ge5)) 2 (some ge5)) 3 (some ge5))))))), (h2, .inr (3, [.int 0, .ref gde, .int 0]))]) (w1 := [(h0, .inr (9, [.int 0, .ref h1, .ref h2, .ref z0, .int 0, .int 0, .int 0]))]) hP hD [0] [1, 2] rfl rfl (by decide) (by decide) hk1 hFc hP1 hD1
  generalize H1 = H at hP hS ⊢
  have hP : va_P (dC, dI) vwCl [(h1, .inl (k0, 4, .inr (.inr (.inr (.inr (va_up (va_up (va_up (va_up (fun _ => none) 0 (some ge5)) 1 (some ge5)) 2 (some ge5)) 3 (some ge5))))))), (h2, .inr (3, [.int 0, .ref gde, .int 0])), (h0, .inr (9, [.int 0, .ref h1, .ref h2, .ref z0, .int 0, .int 0, .int 0]))] H := hP
  have hD : va_D A [(h1, .inl (k0, 4, .inr (.inr (.inr (.inr (va_up (va_up (va_up (va_up (fun _ => none) 0 (some ge5)) 1 (some ge5)) 2 (some ge5)) 3 (some ge5))))))), (h2, .inr (3, [.int 0, .ref gde, .int 0])), (h0, .inr (9, [.int 0, .ref h1, .ref h2, .ref z0, .int 0, .int 0, .int 0]))] := hD
  refine lv_if_eq (tgt := 28) hx hb dX5_step_23 (by decide) (fun _ => ?_) (fun c9 => absurd (by decide) c9)
  refine lv_aload_n hx hb dX5_step_28 rfl (lv_at hl 0 rfl) ?_
  refine lv_aload_n hx hb dX5_step_29 rfl (lv_at hl 0 rfl) ?_
  refine va_get (D := (dC, dI)) (ci := 9) (v := .ref h1) (C := RX5) (T := TX5) (N := 7) hx hb hts (by decide +kernel) hown hK hP 2 rfl rfl 1 (by decide) (hts (.fieldLink RX5 11 "RewriteropeModel" "ropes" "[Ljava/lang/String;") (by decide +kernel)) (fun _ h9 => h9) rfl dX5_step_30 ?_
  refine lv_iload_n hx hb dX5_step_33 rfl (lv_at hl 1 rfl) ?_
  refine va_aldq (D := (dC, dI)) hx hb hK hP 0 0 rfl rfl (kz_in4 i0_l i0_u) dX5_step_34 ?_
  rw [show (va_up (va_up (va_up (va_up (fun _ => none) 0 (some ge5)) 1 (some ge5)) 2 (some ge5)) 3 (some ge5)) i0.toNatClampNeg = some ge5 from (kz_ix4 (P := fun z => (va_up (va_up (va_up (va_up (fun _ => none) 0 (some ge5)) 1 (some ge5)) 2 (some ge5)) 3 (some ge5)) z.toNatClampNeg = some ge5) rfl rfl rfl rfl i0_l i0_u)]
  refine W.eq (g2 := F0 m 35 ls [.ref ge5, .ref h0]) rfl ?_
  refine lv_iload_n hx hb dX5_step_35 rfl (lv_at hl 2 rfl) ?_
  have hPc := hP.sub (ws' := [(h2, .inr (3, [.int 0, .ref gde, .int 0])), (h0, .inr (9, [.int 0, .ref h1, .ref h2, .ref z0, .int 0, .int 0, .int 0]))]) [1, 2] rfl
  have hDc := hD.sub (ws' := [(h2, .inr (3, [.int 0, .ref gde, .int 0])), (h0, .inr (9, [.int 0, .ref h1, .ref h2, .ref z0, .int 0, .int 0, .int 0]))]) [1, 2] (by decide) rfl
  have hKc := hK.sub (tys' := []) [] rfl
  have hFc := va_free (wc := [(h2, .inr (3, [.int 0, .ref gde, .int 0])), (h0, .inr (9, [.int 0, .ref h1, .ref h2, .ref z0, .int 0, .int 0, .int 0]))]) hD hS hA [1, 2] rfl
  refine va_callq (va_runV (As := [.ref ge5, .int i1]) (rest := []) ⟨hx, hb, hml, hown, hts⟩ (kx_X5_chosen_0 l dC dI ge5 gea gv5 gva gde gic gi0 h2 h0 h1 z0 H.size i1 i1_l i1_u) (cwV 2 hts gX5_step_X5_chosen rfl rfl rfl (by decide +kernel) ⟨Nat.le_of_ble_eq_true rfl, Nat.le_of_ble_eq_true rfl⟩) ⟨fun a U g mk q => by obtain ⟨q0, q1, qP, qK, qD, qG⟩ := q; exact ⟨q0, q1, qP, va_K.moved (u := U) (U := U.calling g mk a) (Vm.Alike.refl U.vm) qK, qD, gv.fb qG⟩, va_recv hKc hPc (ci := 9) (q0 := 1) rfl rfl, fun U hU hW => ⟨rfl, by rw [hU], by rw [hU]; exact hPc, va_K.moved hW.alike hKc, hDc.weaken (fun _ _ _ _ => trivial), gv.pass hW hU hS hFc hG⟩⟩ rfl rfl hl.1 rfl (lv_room (Nat.le_of_ble_eq_true rfl)) dX5_step_36 ⟨Nat.le_of_ble_eq_true rfl, Nat.le_of_ble_eq_true rfl⟩) hS (fun q _ h => hFc q h) hFc (fun r9 u t H1 locs ht hvm hw hB hz1 hk1 hS => ?_)
  obtain rfl := hw
  obtain ⟨hP1, hK1, hD1⟩ := hB
  rw [ht] at hP1
  have hK1 := va_K.moved hvm.symm hK1
  obtain ⟨hP, hD⟩ := va_join (wr := [(h1, .inl (k0, 4, .inr (.inr (.inr (.inr (va_up (va_up (va_up (va_up (fun _ => none) 0 (some ge5)) 1 (some ge5)) 2 (some ge5)) 3 (some ge5)))))))]) (w1 := [(h2, .inr (3, [.int 0, .ref gde, .int 0])), (h0, .inr (9, [.int 0, .ref h1, .ref h2, .ref z0, .int 0, .int 0, .int 0]))]) hP hD [1, 2] [0] rfl rfl (by decide) (by decide) hk1 hFc hP1 hD1
  generalize H1 = H at hP hS ⊢
  have hP : va_P (dC, dI) vwCl [(h1, .inl (k0, 4, .inr (.inr (.inr (.inr (va_up (va_up (va_up (va_up (fun _ => none) 0 (some ge5)) 1 (some ge5)) 2 (some ge5)) 3 (some ge5))))))), (h2, .inr (3, [.int 0, .ref gde, .int 0])), (h0, .inr (9, [.int 0, .ref h1, .ref h2, .ref z0, .int 0, .int 0, .int 0]))] H := hP
  have hD : va_D A [(h1, .inl (k0, 4, .inr (.inr (.inr (.inr (va_up (va_up (va_up (va_up (fun _ => none) 0 (some ge5)) 1 (some ge5)) 2 (some ge5)) 3 (some ge5))))))), (h2, .inr (3, [.int 0, .ref gde, .int 0])), (h0, .inr (9, [.int 0, .ref h1, .ref h2, .ref z0, .int 0, .int 0, .int 0]))] := hD
  refine lv_astore_nN (lv' := [(3, .null), (0, .ref h0), (1, .int i0), (2, .int i1)]) hx hb dX5_step_39 rfl hl (by decide) rfl (fun ls hl => ?_)
  refine lv_aload_nN hx hb dX5_step_40 rfl (lv_at hl 0 rfl) ?_
  refine lv_ifnonnullN hx hb dX5_step_41 ?_
  refine lv_iconst (v := (-1)) hx hb dX5_step_44 (by decide) ?_
  have hP := hP.sub (ws' := [(h0, .inr (9, [.int 0, .ref h1, .ref h2, .ref z0, .int 0, .int 0, .int 0])), (h1, .inl (k0, 4, .inr (.inr (.inr (.inr (va_up (va_up (va_up (va_up (fun _ => none) 0 (some ge5)) 1 (some ge5)) 2 (some ge5)) 3 (some ge5))))))), (h2, .inr (3, [.int 0, .ref gde, .int 0]))]) [2, 0, 1] rfl
  have hD := hD.sub (ws' := [(h0, .inr (9, [.int 0, .ref h1, .ref h2, .ref z0, .int 0, .int 0, .int 0])), (h1, .inl (k0, 4, .inr (.inr (.inr (.inr (va_up (va_up (va_up (va_up (fun _ => none) 0 (some ge5)) 1 (some ge5)) 2 (some ge5)) 3 (some ge5))))))), (h2, .inr (3, [.int 0, .ref gde, .int 0]))]) [2, 0, 1] (by decide) rfl
  have hP := hP.sub (ws' := [(h0, .inr (9, [.int 0, .ref h1, .ref h2, .ref z0, .int 0, .int 0, .int 0]))]) [0] rfl
  have hD := hD.sub (ws' := [(h0, .inr (9, [.int 0, .ref h1, .ref h2, .ref z0, .int 0, .int 0, .int 0]))]) [0] (by decide) rfl
  exact W.iret (v := (-1)) hx hb hr (fun t ht hW => ⟨⟨(-1), (), rfl, rfl, by rw [ht]; exact hP, va_K.moved hW.alike hK, hD⟩, hS.F ht⟩) hS.2.2 dX5_step_45
set_option maxHeartbeats 4000000 in
set_option maxRecDepth 100000 in
theorem kx_X3_needWay_1 (l : Launch) (hst : l.stackTraces = false) (dC : Nat → ClassId) (dI : Nat → Nat → Nat) (ge5 gea gv5 gva gde gic gi0 : Nat) (sz : Nat) (i0 : Int32) (i0_l : ((-2147483648) : Int) ≤ i0.toInt) (i0_u : i0.toInt ≤ ((-1) : Int)) : vx_Met l yX3_needWay wsX3_needWay ({ frames := 6, cells := 1, slots := 6, locals := 120 }) (va_Pc [.int i0] (fun U => U.heap.size = sz ∧ va_P (dC, dI) vwCl [] U.heap ∧ va_K (dC, dI) vwCl [] U ∧ va_D (fun _ => True) [] ∧ gv ge5 gea gv5 gva gde gic gi0 (va_A [] sz) U U.heap)) (va_Qv (fun _ : Unit => False) (fun _ _ => True) (va_A [] sz)) (vx_X (fun _ : Unit => True) (fun (E : String) (_ : Unit) (t : State) => E = "java/lang/IllegalArgumentException" ∧ va_P (dC, dI) vwCl [] t.heap ∧ va_K (dC, dI) vwCl [] t ∧ va_D (va_A [] sz) []) (va_A [] sz)) 1 6 (va_A [] sz) := by
  refine vx_ofW (cc := cX3_needWay) (maxL := 1) (ret := none) (by decide) rfl ?_
  intro p e s m args below meth c s₁ B hml ht9 hv
  obtain ⟨rfl, hsz, hP, hK, hD0, hG⟩ := hv
  have hx := B.exec
  have hb := B.bytes
  have hr := B.returns
  have hts := atoms_spec (ws := wsX3_needWay) B.pre
  have hown : s.vm.findClass RX3 = some m.cls := findClass_of_methodNamed B.named
  have hlocks := B.notSynchronized
  subst hsz
  have hD := hD0.self (sz := s.heap.size)
  generalize hAe : va_A [] s.heap.size = A at hD hG ⊢
  obtain ⟨⟨g_AO_Text, g_AO_String, g_AO_Object, g_nm_RX1_20, g_nm_RX0_17, g_nm_RX3_31, g_nm_RX2_44, g_nm_RL_121, g_nf_RL_13, g_nf_RL_47, g_ca_IO, g_ca_IA, g_ca_IS, g_ca_IntObj, g_ca_StrObj, g_de_RT, g_de_EX, g_de_TH, g_nc_IA_IO, g_nc_IS_IO, g_nc_IS_IA⟩, ⟨g_s3, g_s5, g_sa, g_x278, g_x280, g_x282, g_x284, g_x286, g_x180, g_x238, g_x250⟩, ⟨g_o5, g_c5, g_v5, g_t5, g_oa, g_ca, g_va, g_ta, g_zc, g_zd, g_td, g_zf, g_zU, g_zN, g_zh, g_zk, g_tk, g_oi, g_vi⟩⟩ := id hG
  have hA : ∀ q : Nat, s.heap.size ≤ q → A q := fun q h => by rw [← hAe]; exact Or.inr h
  have hS : va_S A s.heap s.heap [] := va_S.rf
  have hP : va_P (dC, dI) vwCl [] s.heap := hP
  have hl := lv_entry ([.int i0]) (n := 1) (Nat.le_of_ble_eq_true rfl)
  rw [lg_entry_eq]
  generalize (lg_sl ([.int i0]) ++ List.replicate (1 - (lg_sl ([.int i0])).length) Slot.unset).toArray = ls at hl ⊢
  have hl : lv_has ls 1 [(0, .int i0)] := hl
  refine lv_iload_n hx hb dX3_needWay_0 rfl (lv_at hl 0 rfl) ?_
  refine lv_if_lt (tgt := 9) hx hb dX3_needWay_1 (by decide) (fun _ => ?_) (fun c9 => absurd (Int32.lt_iff_toInt_lt.mpr (by rw [show (0 : Int32).toInt = 0 from by decide]; omega)) c9)
  obtain ⟨sa9, hsa9⟩ := g_x286
  have hin9 : ∀ w ∈ (vx_atS RX3 99 "java/lang/IllegalArgumentException" ["java/lang/RuntimeException", "java/lang/Exception"]).filter goodWord, w ∈ wsX3_needWay := (by intro w hw; first | exact List.mem_cons_of_mem _ (List.mem_append_right _ hw) | exact List.mem_cons_of_mem _ (List.mem_append_left _ (List.mem_append_right _ hw)))
  exact vx_throwSW (cls := "java/lang/IllegalArgumentException") (text := "no such way") (names := ["java/lang/RuntimeException", "java/lang/Exception"]) (ic := 99) hx hb hst hown (by decide) (by decide) (hts (.classLink RX3 95 "java/lang/IllegalArgumentException") (by decide +kernel)) (hts (.initialized "java/lang/IllegalArgumentException") (by decide +kernel)) hsa9 (vx_hat (B := [.declares (Bundle.initS "java/lang/RuntimeException"), .declares (Bundle.initS "java/lang/Exception"), .declares (Bundle.initS Bundle.tN), .castable "java/lang/IllegalArgumentException" "java/lang/IllegalArgumentException"]) (fun w hw => hts w (hin9 w hw)) (fun w hw => by rw [xbad_IA] at hw; exact hw) (vx_c (va_Nw.use rfl g_de_RT) (vx_c (va_Nw.use rfl g_de_EX) (vx_c (va_Nw.use rfl g_de_TH) (vx_c (va_Nw.use rfl g_ca_IA) vx_n))))) (by decide +kernel) g_zU g_zN hS (by rw [hml]; exact hl.1) dX3_needWay_9 dX3_needWay_12 dX3_needWay_13 dX3_needWay_16 dX3_needWay_19 (fun x hx9 => (ht9 x hx9).elim) (Nat.le_of_ble_eq_true rfl) (Nat.le_of_ble_eq_true rfl) (Nat.le_of_ble_eq_true rfl) (Nat.le_of_ble_eq_true rfl) hlocks (fun t ha hz hk => ⟨(), trivial, ⟨rfl, hP.kept (fun k q hq => hk _ (vx_lt hP hq)), va_K.moved ha hK, hD⟩, Nat.le_trans hS.1 hz, fun q h1 h2 => (hk q (Nat.lt_of_lt_of_le h1 hS.1)).trans (hS.2.1 q h1 h2)⟩) hS.2.2 (Nat.le_refl _) (Nat.le_refl _)
set_option maxHeartbeats 4000000 in
set_option maxRecDepth 100000 in
theorem kx_X3_step_4 (l : Launch) (hst : l.stackTraces = false) (dC : Nat → ClassId) (dI : Nat → Nat → Nat) (ge5 gea gv5 gva gde gic gi0 : Nat) (h0 : Nat) (z0 : Nat) (z1 : Nat) (z2 : Nat) (z3 : Nat) (z4 : Nat) (z5 : Nat) (sz : Nat) (i0 : Int32) (i0_l : (0 : Int) ≤ i0.toInt) (i0_u : i0.toInt ≤ (3 : Int)) (i1 : Int32) (i1_l : ((-2147483648) : Int) ≤ i1.toInt) (i1_u : i1.toInt ≤ ((-1) : Int)) : vx_Met l yX3_step wsX3_step ({ frames := 7, cells := 1, slots := 6, locals := 140 }) (va_Pc [.ref h0, .int i0, .int i1] (fun U => U.heap.size = sz ∧ va_P (dC, dI) vwCl [(h0, .inr (7, [.ref z0, .ref z1, .ref z2, .ref z3, .ref z4, .ref z5, .int 0, .int 0, .int 0]))] U.heap ∧ va_K (dC, dI) vwCl [] U ∧ va_D (fun _ => True) [(h0, .inr (7, [.ref z0, .ref z1, .ref z2, .ref z3, .ref z4, .ref z5, .int 0, .int 0, .int 0]))] ∧ gv ge5 gea gv5 gva gde gic gi0 (va_A [(h0, .inr (7, [.ref z0, .ref z1, .ref z2, .ref z3, .ref z4, .ref z5, .int 0, .int 0, .int 0]))] sz) U U.heap)) (va_Qi (fun (_ : Int32) (_ : Unit) => False) (fun _ _ => True) (va_A [(h0, .inr (7, [.ref z0, .ref z1, .ref z2, .ref z3, .ref z4, .ref z5, .int 0, .int 0, .int 0]))] sz)) (vx_X (fun _ : Unit => True) (fun (E : String) (_ : Unit) (t : State) => E = "java/lang/IllegalArgumentException" ∧ va_P (dC, dI) vwCl [(h0, .inr (7, [.ref z0, .ref z1, .ref z2, .ref z3, .ref z4, .ref z5, .int 0, .int 0, .int 0]))] t.heap ∧ va_K (dC, dI) vwCl [] t ∧ va_D (va_A [(h0, .inr (7, [.ref z0, .ref z1, .ref z2, .ref z3, .ref z4, .ref z5, .int 0, .int 0, .int 0]))] sz) [(h0, .inr (7, [.ref z0, .ref z1, .ref z2, .ref z3, .ref z4, .ref z5, .int 0, .int 0, .int 0]))]) (va_A [(h0, .inr (7, [.ref z0, .ref z1, .ref z2, .ref z3, .ref z4, .ref z5, .int 0, .int 0, .int 0]))] sz)) 1 6 (va_A [(h0, .inr (7, [.ref z0, .ref z1, .ref z2, .ref z3, .ref z4, .ref z5, .int 0, .int 0, .int 0]))] sz) := by
  refine vx_ofW (cc := cX3_step) (maxL := 4) (ret := (some .int)) (by decide) rfl ?_
  intro p e s m args below meth c s₁ B hml ht9 hv
  obtain ⟨rfl, hsz, hP, hK, hD0, hG⟩ := hv
  have hx := B.exec
  have hb := B.bytes
  have hr := B.returns
  have hts := atoms_spec (ws := wsX3_step) B.pre
  have hown : s.vm.findClass RX3 = some m.cls := findClass_of_methodNamed B.named
  have hlocks := B.notSynchronized
  subst hsz
  have hD := hD0.self (sz := s.heap.size)
  generalize hAe : va_A [(h0, .inr (7, [.ref z0, .ref z1, .ref z2, .ref z3, .ref z4, .ref z5, .int 0, .int 0, .int 0]))] s.heap.size = A at hD hG ⊢
  obtain ⟨⟨g_AO_Text, g_AO_String, g_AO_Object, g_nm_RX1_20, g_nm_RX0_17, g_nm_RX3_31, g_nm_RX2_44, g_nm_RL_121, g_nf_RL_13, g_nf_RL_47, g_ca_IO, g_ca_IA, g_ca_IS, g_ca_IntObj, g_ca_StrObj, g_de_RT, g_de_EX, g_de_TH, g_nc_IA_IO, g_nc_IS_IO, g_nc_IS_IA⟩, ⟨g_s3, g_s5, g_sa, g_x278, g_x280, g_x282, g_x284, g_x286, g_x180, g_x238, g_x250⟩, ⟨g_o5, g_c5, g_v5, g_t5, g_oa, g_ca, g_va, g_ta, g_zc, g_zd, g_td, g_zf, g_zU, g_zN, g_zh, g_zk, g_tk, g_oi, g_vi⟩⟩ := id hG
  have hA : ∀ q : Nat, s.heap.size ≤ q → A q := fun q h => by rw [← hAe]; exact Or.inr h
  have hS : va_S A s.heap s.heap [] := va_S.rf
  have hP : va_P (dC, dI) vwCl [(h0, .inr (7, [.ref z0, .ref z1, .ref z2, .ref z3, .ref z4, .ref z5, .int 0, .int 0, .int 0]))] s.heap := hP
  have hl := lv_entry ([.ref h0, .int i0, .int i1]) (n := 4) (Nat.le_of_ble_eq_true rfl)
  rw [lg_entry_eq]
  generalize (lg_sl ([.ref h0, .int i0, .int i1]) ++ List.replicate (4 - (lg_sl ([.ref h0, .int i0, .int i1])).length) Slot.unset).toArray = ls at hl ⊢
  have hl : lv_has ls 4 [(0, .ref h0), (1, .int i0), (2, .int i1)] := hl
  refine lv_iload_n hx hb dX3_step_0 rfl (lv_at hl 1 rfl) ?_
  have hPc := hP.sub (ws' := []) [] rfl
  have hDc := hD.sub (ws' := []) [] (by decide) rfl
  have hKc := hK.sub (tys' := []) [] rfl
  have hFc := va_free (wc := []) hD hS hA [] rfl
  refine va_callv (va_runS (As := [.int i0]) (rest := []) ⟨hx, hb, hml, hown, hts⟩ (kx_X3_needRope_4 l dC dI s.heap.size i0 i0_l i0_u) (cwS 1 hts gX3_step_X3_needRope rfl rfl rfl (by decide +kernel) ⟨Nat.le_of_ble_eq_true rfl, Nat.le_of_ble_eq_true rfl⟩) ⟨fun a U g mk q => by obtain ⟨q0, q1, qP, qK, qD⟩ := q; exact ⟨q0, q1, qP, va_K.moved (u := U) (U := U.calling g mk a) (Vm.Alike.refl U.vm) qK, qD⟩, fun U hU hW => ⟨rfl, by rw [hU], by rw [hU]; exact hPc, va_K.moved hW.alike hKc, hDc.weaken (fun _ _ _ _ => trivial)⟩⟩ rfl rfl hl.1 rfl (lv_room (Nat.le_of_ble_eq_true rfl)) dX3_step_1 ⟨Nat.le_of_ble_eq_true rfl, Nat.le_of_ble_eq_true rfl⟩) hS (fun q _ h => hFc q h) hFc (fun u t H1 locs ht hvm hw hB hz1 hk1 hS => ?_)
  obtain ⟨hP1, hK1, hD1⟩ := hB
  rw [ht] at hP1
  have hK1 := va_K.moved hvm.symm hK1
  obtain ⟨hP, hD⟩ := va_join (wr := [(h0, .inr (7, [.ref z0, .ref z1, .ref z2, .ref z3, .ref z4, .ref z5, .int 0, .int 0, .int 0]))]) (w1 := []) hP hD [] [0] rfl rfl (by decide) (by decide) hk1 hFc hP1 hD1
  generalize H1 = H at hP hS ⊢
  have hP : va_P (dC, dI) vwCl [(h0, .inr (7, [.ref z0, .ref z1, .ref z2, .ref z3, .ref z4, .ref z5, .int 0, .int 0, .int 0]))] H := hP
  have hD : va_D A [(h0, .inr (7, [.ref z0, .ref z1, .ref z2, .ref z3, .ref z4, .ref z5, .int 0, .int 0, .int 0]))] := hD
  refine lv_iload_n hx hb dX3_step_4 rfl (lv_at hl 2 rfl) ?_
  have hPc := hP.sub (ws' := []) [] rfl
  have hDc := hD.sub (ws' := []) [] (by decide) rfl
  have hKc := hK.sub (tys' := []) [] rfl
  have hFc := va_free (wc := []) hD hS hA [] rfl
  refine vx_callv (vx_runS (As := [.int i1]) (rest := []) ⟨hx, hb, hml, hown, hts⟩ (kx_X3_needWay_1 l hst dC dI ge5 gea gv5 gva gde gic gi0 H.size i1 i1_l i1_u) (cwS 1 hts gX3_step_X3_needWay rfl rfl rfl (by decide +kernel) ⟨Nat.le_of_ble_eq_true rfl, Nat.le_of_ble_eq_true rfl⟩) ⟨fun a U g mk q => by obtain ⟨q0, q1, qP, qK, qD, qG⟩ := q; exact ⟨q0, q1, qP, va_K.moved (u := U) (U := U.calling g mk a) (Vm.Alike.refl U.vm) qK, qD, gv.fb qG⟩, fun U hU hW => ⟨rfl, by rw [hU], by rw [hU]; exact hPc, va_K.moved hW.alike hKc, hDc.weaken (fun _ _ _ _ => trivial), gv.pass hW hU hS hFc hG⟩⟩ rfl rfl hl.1 rfl (lv_room (Nat.le_of_ble_eq_true rfl)) dX3_step_5 ⟨Nat.le_of_ble_eq_true rfl, Nat.le_of_ble_eq_true rfl⟩) hS (fun q _ h => hFc q h) hFc (fun q _ h => hFc q h) (fun E ce q9 u t H1 locs ht hvm hpx hB hz1 hk1 hS hce hcv hcl => ?_) (fun u t H1 locs ht hvm hw hB hz1 hk1 hS => hw.elim)
  obtain ⟨rfl, hP1, hK1, hD1⟩ := hB
  rw [ht] at hP1
  have hK1 := va_K.moved hvm.symm hK1
  obtain ⟨hP, hD⟩ := va_join (wr := [(h0, .inr (7, [.ref z0, .ref z1, .ref z2, .ref z3, .ref z4, .ref z5, .int 0, .int 0, .int 0]))]) (w1 := []) hP hD [] [0] rfl rfl (by decide) (by decide) hk1 hFc hP1 hD1
  generalize H1 = H at hP hS hce ⊢
  have hP : va_P (dC, dI) vwCl [(h0, .inr (7, [.ref z0, .ref z1, .ref z2, .ref z3, .ref z4, .ref z5, .int 0, .int 0, .int 0]))] H := hP
  have hD : va_D A [(h0, .inr (7, [.ref z0, .ref z1, .ref z2, .ref z3, .ref z4, .ref z5, .int 0, .int 0, .int 0]))] := hD
  exact vx_out (fun x hx9 => (ht9 x hx9).elim) hlocks hce hcv hcl (fun t ht hW => ⟨(), trivial, ⟨rfl, by rw [ht]; exact hP, va_K.moved hW hK, hD⟩, hS.F ht⟩) hS.2.2 (by omega) (by omega)
set_option maxHeartbeats 4000000 in
set_option maxRecDepth 100000 in
theorem kx_L_step_1 (l : Launch) (hst : l.stackTraces = false) (dC : Nat → ClassId) (dI : Nat → Nat → Nat) (ge5 gea gv5 gva gde gic gi0 : Nat) (h0 : Nat) (z0 : Nat) (z1 : Nat) (z2 : Nat) (z3 : Nat) (z4 : Nat) (z5 : Nat) (z6 : Nat) (sz : Nat) (i0 : Int32) (i0_l : (0 : Int) ≤ i0.toInt) (i0_u : i0.toInt ≤ (3 : Int)) (i1 : Int32) (i1_l : ((-2147483648) : Int) ≤ i1.toInt) (i1_u : i1.toInt ≤ ((-1) : Int)) : Met l yL_step wsL_step ({ frames := 8, cells := 1, slots := 6, locals := 163 }) (va_Pc [.ref h0, .int i0, .int i1, .ref z0] (fun U => U.heap.size = sz ∧ va_P (dC, dI) vwCl [(h0, .inr (7, [.ref z1, .ref z2, .ref z3, .ref z4, .ref z5, .ref z6, .int 0, .int 0, .int 0]))] U.heap ∧ va_K (dC, dI) vwCl [] U ∧ va_D (fun _ => True) [(h0, .inr (7, [.ref z1, .ref z2, .ref z3, .ref z4, .ref z5, .ref z6, .int 0, .int 0, .int 0]))] ∧ gv ge5 gea gv5 gva gde gic gi0 (va_A [(h0, .inr (7, [.ref z1, .ref z2, .ref z3, .ref z4, .ref z5, .ref z6, .int 0, .int 0, .int 0]))] sz) U U.heap)) (va_Qi (fun (r : Int32) (_ : Unit) => r = 2) (fun (_ : Unit) (t : State) => va_P (dC, dI) vwCl [(h0, .inr (7, [.ref z1, .ref z2, .ref z3, .ref z4, .ref z5, .ref z6, .int 0, .int 0, .int 0]))] t.heap ∧ va_K (dC, dI) vwCl [] t ∧ va_D (va_A [(h0, .inr (7, [.ref z1, .ref z2, .ref z3, .ref z4, .ref z5, .ref z6, .int 0, .int 0, .int 0]))] sz) [(h0, .inr (7, [.ref z1, .ref z2, .ref z3, .ref z4, .ref z5, .ref z6, .int 0, .int 0, .int 0]))]) (va_A [(h0, .inr (7, [.ref z1, .ref z2, .ref z3, .ref z4, .ref z5, .ref z6, .int 0, .int 0, .int 0]))] sz)) 1 6 (va_A [(h0, .inr (7, [.ref z1, .ref z2, .ref z3, .ref z4, .ref z5, .ref z6, .int 0, .int 0, .int 0]))] sz) := by
  refine kz_ofWH (cc := cL_step) (maxL := 5) (ret := (some .int)) (hh := [(0, 11, 14, 19), (0, 11, 18, 21)]) (by decide) rfl ?_
  intro p e s m args below meth c s₁ B hml hv
  obtain ⟨rfl, hsz, hP, hK, hD0, hG⟩ := hv
  have hx := B.exec
  have hb := B.bytes
  have hr := B.returns
  have hts := atoms_spec (ws := wsL_step) B.pre
  have hown : s.vm.findClass RL = some m.cls := findClass_of_methodNamed B.named
  have htab := vx_table (x := yL_step) B (hts (.codeWith yL_step cL_step 5 (some .int) [(0, 11, 14, 19), (0, 11, 18, 21)]) (by decide +kernel))
  have hlocks := B.notSynchronized
  subst hsz
  have hD := hD0.self (sz := s.heap.size)
  generalize hAe : va_A [(h0, .inr (7, [.ref z1, .ref z2, .ref z3, .ref z4, .ref z5, .ref z6, .int 0, .int 0, .int 0]))] s.heap.size = A at hD hG ⊢
  obtain ⟨⟨g_AO_Text, g_AO_String, g_AO_Object, g_nm_RX1_20, g_nm_RX0_17, g_nm_RX3_31, g_nm_RX2_44, g_nm_RL_121, g_nf_RL_13, g_nf_RL_47, g_ca_IO, g_ca_IA, g_ca_IS, g_ca_IntObj, g_ca_StrObj, g_de_RT, g_de_EX, g_de_TH, g_nc_IA_IO, g_nc_IS_IO, g_nc_IS_IA⟩, ⟨g_s3, g_s5, g_sa, g_x278, g_x280, g_x282, g_x284, g_x286, g_x180, g_x238, g_x250⟩, ⟨g_o5, g_c5, g_v5, g_t5, g_oa, g_ca, g_va, g_ta, g_zc, g_zd, g_td, g_zf, g_zU, g_zN, g_zh, g_zk, g_tk, g_oi, g_vi⟩⟩ := id hG
  have hA : ∀ q : Nat, s.heap.size ≤ q → A q := fun q h => by rw [← hAe]; exact Or.inr h
  have hS : va_S A s.heap s.heap [] := va_S.rf
  have hP : va_P (dC, dI) vwCl [(h0, .inr (7, [.ref z1, .ref z2, .ref z3, .ref z4, .ref z5, .ref z6, .int 0, .int 0, .int 0]))] s.heap := hP
  have hl := lv_entry ([.ref h0, .int i0, .int i1, .ref z0]) (n := 5) (Nat.le_of_ble_eq_true rfl)
  rw [lg_entry_eq]
  generalize (lg_sl ([.ref h0, .int i0, .int i1, .ref z0]) ++ List.replicate (5 - (lg_sl ([.ref h0, .int i0, .int i1, .ref z0])).length) Slot.unset).toArray = ls at hl ⊢
  have hl : lv_has ls 5 [(0, .ref h0), (1, .int i0), (2, .int i1), (3, .ref z0)] := hl
  refine lv_aload_n hx hb dL_step_0 rfl (lv_at hl 3 rfl) ?_
  refine lv_aload_n hx hb dL_step_1 rfl (lv_at hl 0 rfl) ?_
  refine lv_iload_n hx hb dL_step_2 rfl (lv_at hl 1 rfl) ?_
  refine lv_iload_n hx hb dL_step_3 rfl (lv_at hl 2 rfl) ?_
  have hPc := hP.sub (ws' := [(h0, .inr (7, [.ref z1, .ref z2, .ref z3, .ref z4, .ref z5, .ref z6, .int 0, .int 0, .int 0]))]) [0] rfl
  have hDc := hD.sub (ws' := [(h0, .inr (7, [.ref z1, .ref z2, .ref z3, .ref z4, .ref z5, .ref z6, .int 0, .int 0, .int 0]))]) [0] (by decide) rfl
  have hKc := hK.sub (tys' := []) [] rfl
  have hFc := va_free (wc := [(h0, .inr (7, [.ref z1, .ref z2, .ref z3, .ref z4, .ref z5, .ref z6, .int 0, .int 0, .int 0]))]) hD hS hA [0] rfl
  refine vx_calli (vx_runV (As := [.int i0, .int i1]) (rest := [.ref z0]) ⟨hx, hb, hml, hown, hts⟩ (kx_X3_step_4 l hst dC dI ge5 gea gv5 gva gde gic gi0 h0 z1 z2 z3 z4 z5 z6 s.heap.size i0 i0_l i0_u i1 i1_l i1_u) (cwV 2 hts gL_step_X3_step rfl rfl rfl (by decide +kernel) ⟨Nat.le_of_ble_eq_true rfl, Nat.le_of_ble_eq_true rfl⟩) ⟨fun a U g mk q => by obtain ⟨q0, q1, qP, qK, qD, qG⟩ := q; exact ⟨q0, q1, qP, va_K.moved (u := U) (U := U.calling g mk a) (Vm.Alike.refl U.vm) qK, qD, gv.fb qG⟩, va_recv hKc hPc (ci := 7) (q0 := 0) rfl rfl, fun U hU hW => ⟨rfl, by rw [hU], by rw [hU]; exact hPc, va_K.moved hW.alike hKc, hDc.weaken (fun _ _ _ _ => trivial), gv.pass hW hU hS hFc hG⟩⟩ rfl rfl hl.1 rfl (lv_room (Nat.le_of_ble_eq_true rfl)) dL_step_4 ⟨Nat.le_of_ble_eq_true rfl, Nat.le_of_ble_eq_true rfl⟩) hS (fun q _ h => hFc q h) hFc (fun q _ h => hFc q h) (fun E ce q9 u t H1 locs ht hvm hpx hB hz1 hk1 hS hce hcv hcl => ?_) (fun r9 u t H1 locs ht hvm hw hB hz1 hk1 hS => hw.elim)
  obtain ⟨rfl, hP1, hK1, hD1⟩ := hB
  rw [ht] at hP1
  have hK1 := va_K.moved hvm.symm hK1
  obtain ⟨hP, hD⟩ := va_join (wr := []) (w1 := [(h0, .inr (7, [.ref z1, .ref z2, .ref z3, .ref z4, .ref z5, .ref z6, .int 0, .int 0, .int 0]))]) hP hD [0] [] rfl rfl (by decide) (by decide) hk1 hFc hP1 hD1
  generalize H1 = H at hP hS hce ⊢
  have hP : va_P (dC, dI) vwCl [(h0, .inr (7, [.ref z1, .ref z2, .ref z3, .ref z4, .ref z5, .ref z6, .int 0, .int 0, .int 0]))] H := hP
  have hD : va_D A [(h0, .inr (7, [.ref z1, .ref z2, .ref z3, .ref z4, .ref z5, .ref z6, .int 0, .int 0, .int 0]))] := hD
  refine vx_catch (own := RL) (name := "java/lang/IllegalArgumentException") hown (tableOf [(0, 11, 14, 19)]) ⟨0, 11, 18, 21⟩ (tableOf []) (by rw [htab]; rfl) (fun z hz => by
      simp only [tableOf, List.map_cons, List.map_nil, List.mem_cons, List.not_mem_nil, or_false] at hz
      rcases hz with rfl
      · exact Or.inr ⟨by decide, "java/lang/IndexOutOfBoundsException", hts (.classLink RL 19 "java/lang/IndexOutOfBoundsException") (by decide +kernel), g_nc_IA_IO⟩) (by decide +kernel) (by decide) (hts (.classLink RL 21 "java/lang/IllegalArgumentException") (by decide +kernel)) (va_Nw.use rfl g_ca_IA) hce hcv hcl ?_
  refine W.eq (g2 := F0 m 18 ls [.ref q9]) rfl ?_
  refine lv_astore (lv' := [(4, .ref q9), (0, .ref h0), (1, .int i0), (2, .int i1), (3, .ref z0)]) hx hb dL_step_18 hl (by decide) rfl (fun ls hl => ?_)
  refine lv_iconst (v := 2) hx hb dL_step_20 (by decide) ?_
  exact W.iret (v := 2) hx hb hr (fun t ht hW => ⟨⟨2, (), rfl, rfl, by rw [ht]; exact hP, va_K.moved hW.alike hK, hD⟩, hS.F ht⟩) hS.2.2 dL_step_21
set_option maxHeartbeats 4000000 in
set_option maxRecDepth 100000 in
theorem kx_X5_isIn_22 (l : Launch) (dC : Nat → ClassId) (dI : Nat → Nat → Nat) (sz : Nat) (i0 : Int32) (i0_l : ((-2147483648) : Int) ≤ i0.toInt) (i0_u : i0.toInt ≤ ((-1) : Int)) : Met l yX5_isIn wsX5_isIn ({ frames := 0, cells := 0, slots := 0, locals := 0 }) (va_Pc [.int i0, .int 0, .int 2] (fun U => U.heap.size = sz ∧ va_P (dC, dI) vwCl [] U.heap ∧ va_K (dC, dI) vwCl [] U ∧ va_D (fun _ => True) [])) (va_Qi (fun (r : Int32) (_ : Unit) => r = 0) (fun (_ : Unit) (t : State) => va_P (dC, dI) vwCl [] t.heap ∧ va_K (dC, dI) vwCl [] t ∧ va_D (va_A [] sz) []) (va_A [] sz)) 0 0 (va_A [] sz) := by
  refine Met.ofW (cc := cX5_isIn) (maxL := 3) (ret := (some .boolean)) (by decide) rfl ?_
  intro p e s m args below meth c s₁ B hml hv
  obtain ⟨rfl, hsz, hP, hK, hD0⟩ := hv
  have hx := B.exec
  have hb := B.bytes
  have hr := B.returns
  have hts := atoms_spec (ws := wsX5_isIn) B.pre
  have hown : s.vm.findClass RX5 = some m.cls := findClass_of_methodNamed B.named
  have hlocks := B.notSynchronized
  subst hsz
  have hD := hD0.self (sz := s.heap.size)
  generalize hAe : va_A [] s.heap.size = A at hD ⊢
  have hA : ∀ q : Nat, s.heap.size ≤ q → A q := fun q h => by rw [← hAe]; exact Or.inr h
  have hS : va_S A s.heap s.heap [] := va_S.rf
  have hP : va_P (dC, dI) vwCl [] s.heap := hP
  have hl := lv_entry ([.int i0, .int 0, .int 2]) (n := 3) (Nat.le_of_ble_eq_true rfl)
  rw [lg_entry_eq]
  generalize (lg_sl ([.int i0, .int 0, .int 2]) ++ List.replicate (3 - (lg_sl ([.int i0, .int 0, .int 2])).length) Slot.unset).toArray = ls at hl ⊢
  have hl : lv_has ls 3 [(0, .int i0), (1, .int 0), (2, .int 2)] := hl
  refine lv_iload_n hx hb dX5_isIn_0 rfl (lv_at hl 0 rfl) ?_
  refine lv_iload_n hx hb dX5_isIn_1 rfl (lv_at hl 1 rfl) ?_
  refine lv_icmp_lt (tgt := 14) hx hb dX5_isIn_2 (by decide) (fun _ => ?_) (fun c9 => absurd (Int32.lt_iff_toInt_lt.mpr (by rw [show (0 : Int32).toInt = 0 from by decide]; omega)) c9)
  refine lv_iconst (v := 0) hx hb dX5_isIn_14 (by decide) ?_
  exact W.zret (v := 0) hx hb hr (by decide) (fun t ht hW => ⟨⟨0, (), rfl, rfl, by rw [ht]; exact hP, va_K.moved hW.alike hK, hD⟩, hS.F ht⟩) hS.2.2 dX5_isIn_15
set_option maxHeartbeats 4000000 in
set_option maxRecDepth 100000 in
theorem kx_X5_step_1 (l : Launch) (dC : Nat → ClassId) (dI : Nat → Nat → Nat) (h0 : Nat) (z0 : Nat) (z1 : Nat) (z2 : Nat) (sz : Nat) (i0 : Int32) (i0_l : (0 : Int) ≤ i0.toInt) (i0_u : i0.toInt ≤ (3 : Int)) (i1 : Int32) (i1_l : ((-2147483648) : Int) ≤ i1.toInt) (i1_u : i1.toInt ≤ ((-1) : Int)) : Met l yX5_step wsX5_step ({ frames := 2, cells := 0, slots := 0, locals := 42 }) (va_Pc [.ref h0, .int i0, .int i1] (fun U => U.heap.size = sz ∧ va_P (dC, dI) vwCl [(h0, .inr (9, [.int 0, .ref z0, .ref z1, .ref z2, .int 0, .int 0, .int 0]))] U.heap ∧ va_K (dC, dI) vwCl [] U ∧ va_D (fun _ => True) [(h0, .inr (9, [.int 0, .ref z0, .ref z1, .ref z2, .int 0, .int 0, .int 0]))])) (va_Qi (fun (r : Int32) (_ : Unit) => r = 0) (fun (_ : Unit) (t : State) => va_P (dC, dI) vwCl [(h0, .inr (9, [.int 2, .ref z0, .ref z1, .ref z2, .int 0, .int 0, .int 0]))] t.heap ∧ va_K (dC, dI) vwCl [] t ∧ va_D (va_A [(h0, .inr (9, [.int 0, .ref z0, .ref z1, .ref z2, .int 0, .int 0, .int 0]))] sz) [(h0, .inr (9, [.int 2, .ref z0, .ref z1, .ref z2, .int 0, .int 0, .int 0]))]) (va_A [(h0, .inr (9, [.int 0, .ref z0, .ref z1, .ref z2, .int 0, .int 0, .int 0]))] sz)) 0 0 (va_A [(h0, .inr (9, [.int 0, .ref z0, .ref z1, .ref z2, .int 0, .int 0, .int 0]))] sz) := by
  refine Met.ofW (cc := cX5_step) (maxL := 5) (ret := (some .int)) (by decide) rfl ?_
  intro p e s m args below meth c s₁ B hml hv
  obtain ⟨rfl, hsz, hP, hK, hD0⟩ := hv
  have hx := B.exec
  have hb := B.bytes
  have hr := B.returns
  have hts := atoms_spec (ws := wsX5_step) B.pre
  have hown : s.vm.findClass RX5 = some m.cls := findClass_of_methodNamed B.named
  have hlocks := B.notSynchronized
  subst hsz
  have hD := hD0.self (sz := s.heap.size)
  generalize hAe : va_A [(h0, .inr (9, [.int 0, .ref z0, .ref z1, .ref z2, .int 0, .int 0, .int 0]))] s.heap.size = A at hD ⊢
  have hA : ∀ q : Nat, s.heap.size ≤ q → A q := fun q h => by rw [← hAe]; exact Or.inr h
  have hS : va_S A s.heap s.heap [] := va_S.rf
  have hP : va_P (dC, dI) vwCl [(h0, .inr (9, [.int 0, .ref z0, .ref z1, .ref z2, .int 0, .int 0, .int 0]))] s.heap := hP
  have hl := lv_entry ([.ref h0, .int i0, .int i1]) (n := 5) (Nat.le_of_ble_eq_true rfl)
  rw [lg_entry_eq]
  generalize (lg_sl ([.ref h0, .int i0, .int i1]) ++ List.replicate (5 - (lg_sl ([.ref h0, .int i0, .int i1])).length) Slot.unset).toArray = ls at hl ⊢
  have hl : lv_has ls 5 [(0, .ref h0), (1, .int i0), (2, .int i1)] := hl
  refine lv_aload_n hx hb dX5_step_0 rfl (lv_at hl 0 rfl) ?_
  refine lv_iload_n hx hb dX5_step_1 rfl (lv_at hl 1 rfl) ?_
  have hPc := hP.sub (ws' := []) [] rfl
  have hDc := hD.sub (ws' := []) [] (by decide) rfl
  have hKc := hK.sub (tys' := []) [] rfl
  have hFc := va_free (wc := []) hD hS hA [] rfl
  refine va_calli (va_runS (As := [.int i0]) (rest := [.ref h0]) ⟨hx, hb, hml, hown, hts⟩ (kx_X5_isNo_1 l dC dI s.heap.size i0 i0_l i0_u) (cwS 1 hts gX5_step_X5_isNo rfl rfl rfl (by decide +kernel) ⟨Nat.le_of_ble_eq_true rfl, Nat.le_of_ble_eq_true rfl⟩) ⟨fun a U g mk q => by obtain ⟨q0, q1, qP, qK, qD⟩ := q; exact ⟨q0, q1, qP, va_K.moved (u := U) (U := U.calling g mk a) (Vm.Alike.refl U.vm) qK, qD⟩, fun U hU hW => ⟨rfl, by rw [hU], by rw [hU]; exact hPc, va_K.moved hW.alike hKc, hDc.weaken (fun _ _ _ _ => trivial)⟩⟩ rfl rfl hl.1 rfl (lv_room (Nat.le_of_ble_eq_true rfl)) dX5_step_2 ⟨Nat.le_of_ble_eq_true rfl, Nat.le_of_ble_eq_true rfl⟩) hS (fun q _ h => hFc q h) hFc (fun r9 u t H1 locs ht hvm hw hB hz1 hk1 hS => ?_)
  obtain rfl := hw
  obtain ⟨hP1, hK1, hD1⟩ := hB
  rw [ht] at hP1
  have hK1 := va_K.moved hvm.symm hK1
  obtain ⟨hP, hD⟩ := va_join (wr := [(h0, .inr (9, [.int 0, .ref z0, .ref z1, .ref z2, .int 0, .int 0, .int 0]))]) (w1 := []) hP hD [] [0] rfl rfl (by decide) (by decide) hk1 hFc hP1 hD1
  generalize H1 = H at hP hS ⊢
  have hP : va_P (dC, dI) vwCl [(h0, .inr (9, [.int 0, .ref z0, .ref z1, .ref z2, .int 0, .int 0, .int 0]))] H := hP
  have hD : va_D A [(h0, .inr (9, [.int 0, .ref z0, .ref z1, .ref z2, .int 0, .int 0, .int 0]))] := hD
  refine lv_iload_n hx hb dX5_step_5 rfl (lv_at hl 2 rfl) ?_
  refine lv_iconst (v := 0) hx hb dX5_step_6 (by decide) ?_
  refine lv_iconst (v := 2) hx hb dX5_step_7 (by decide) ?_
  have hPc := hP.sub (ws' := []) [] rfl
  have hDc := hD.sub (ws' := []) [] (by decide) rfl
  have hKc := hK.sub (tys' := []) [] rfl
  have hFc := va_free (wc := []) hD hS hA [] rfl
  refine va_calli (va_runS (As := [.int i1, .int 0, .int 2]) (rest := [.int 0, .ref h0]) ⟨hx, hb, hml, hown, hts⟩ (kx_X5_isIn_22 l dC dI H.size i1 i1_l i1_u) (cwS 3 hts gX5_step_X5_isIn rfl rfl rfl (by decide +kernel) ⟨Nat.le_of_ble_eq_true rfl, Nat.le_of_ble_eq_true rfl⟩) ⟨fun a U g mk q => by obtain ⟨q0, q1, qP, qK, qD⟩ := q; exact ⟨q0, q1, qP, va_K.moved (u := U) (U := U.calling g mk a) (Vm.Alike.refl U.vm) qK, qD⟩, fun U hU hW => ⟨rfl, by rw [hU], by rw [hU]; exact hPc, va_K.moved hW.alike hKc, hDc.weaken (fun _ _ _ _ => trivial)⟩⟩ rfl rfl hl.1 rfl (lv_room (Nat.le_of_ble_eq_true rfl)) dX5_step_8 ⟨Nat.le_of_ble_eq_true rfl, Nat.le_of_ble_eq_true rfl⟩) hS (fun q _ h => hFc q h) hFc (fun r9 u t H1 locs ht hvm hw hB hz1 hk1 hS => ?_)
  obtain rfl := hw
  obtain ⟨hP1, hK1, hD1⟩ := hB
  rw [ht] at hP1
  have hK1 := va_K.moved hvm.symm hK1
  obtain ⟨hP, hD⟩ := va_join (wr := [(h0, .inr (9, [.int 0, .ref z0, .ref z1, .ref z2, .int 0, .int 0, .int 0]))]) (w1 := []) hP hD [] [0] rfl rfl (by decide) (by decide) hk1 hFc hP1 hD1
  generalize H1 = H at hP hS ⊢
  have hP : va_P (dC, dI) vwCl [(h0, .inr (9, [.int 0, .ref z0, .ref z1, .ref z2, .int 0, .int 0, .int 0]))] H := hP
  have hD : va_D A [(h0, .inr (9, [.int 0, .ref z0, .ref z1, .ref z2, .int 0, .int 0, .int 0]))] := hD
  refine lv_if_ne (tgt := 18) hx hb dX5_step_11 (by decide) (fun c9 => absurd (by decide) c9) (fun _ => ?_)
  refine lv_iconst (v := 1) hx hb dX5_step_14 (by decide) ?_
  refine lv_goto (tgt := 19) hx hb dX5_step_15 (by decide) ?_
  refine lv_iconst (v := 0) hx hb dX5_step_19 (by decide) ?_
  have hPc := hP.sub (ws' := [(h0, .inr (9, [.int 0, .ref z0, .ref z1, .ref z2, .int 0, .int 0, .int 0]))]) [0] rfl
  have hDc := hD.sub (ws' := [(h0, .inr (9, [.int 0, .ref z0, .ref z1, .ref z2, .int 0, .int 0, .int 0]))]) [0] (by decide) rfl
  have hKc := hK.sub (tys' := []) [] rfl
  have hFc := va_free (wc := [(h0, .inr (9, [.int 0, .ref z0, .ref z1, .ref z2, .int 0, .int 0, .int 0]))]) hD hS hA [0] rfl
  refine va_calli (va_runV (As := [.int 0, .int 1, .int 0]) (rest := []) ⟨hx, hb, hml, hown, hts⟩ (kx_X5_fails_3 l dC dI h0 z0 z1 z2 H.size) (cwV 3 hts gX5_step_X5_fails rfl rfl rfl (by decide +kernel) ⟨Nat.le_of_ble_eq_true rfl, Nat.le_of_ble_eq_true rfl⟩) ⟨fun a U g mk q => by obtain ⟨q0, q1, qP, qK, qD⟩ := q; exact ⟨q0, q1, qP, va_K.moved (u := U) (U := U.calling g mk a) (Vm.Alike.refl U.vm) qK, qD⟩, va_recv hKc hPc (ci := 9) (q0 := 0) rfl rfl, fun U hU hW => ⟨rfl, by rw [hU], by rw [hU]; exact hPc, va_K.moved hW.alike hKc, hDc.weaken (fun _ _ _ _ => trivial)⟩⟩ rfl rfl hl.1 rfl (lv_room (Nat.le_of_ble_eq_true rfl)) dX5_step_20 ⟨Nat.le_of_ble_eq_true rfl, Nat.le_of_ble_eq_true rfl⟩) hS (fun q _ h => hFc q h) hFc (fun r9 u t H1 locs ht hvm hw hB hz1 hk1 hS => ?_)
  obtain rfl := hw
  obtain ⟨hP1, hK1, hD1⟩ := hB
  rw [ht] at hP1
  have hK1 := va_K.moved hvm.symm hK1
  obtain ⟨hP, hD⟩ := va_join (wr := []) (w1 := [(h0, .inr (9, [.int 2, .ref z0, .ref z1, .ref z2, .int 0, .int 0, .int 0]))]) hP hD [0] [] rfl rfl (by decide) (by decide) hk1 hFc hP1 hD1
  generalize H1 = H at hP hS ⊢
  have hP : va_P (dC, dI) vwCl [(h0, .inr (9, [.int 2, .ref z0, .ref z1, .ref z2, .int 0, .int 0, .int 0]))] H := hP
  have hD : va_D A [(h0, .inr (9, [.int 2, .ref z0, .ref z1, .ref z2, .int 0, .int 0, .int 0]))] := hD
  refine lv_if_eq (tgt := 28) hx hb dX5_step_23 (by decide) (fun c9 => absurd c9 (by decide)) (fun _ => ?_)
  refine lv_iconst (v := 0) hx hb dX5_step_26 (by decide) ?_
  exact W.iret (v := 0) hx hb hr (fun t ht hW => ⟨⟨0, (), rfl, rfl, by rw [ht]; exact hP, va_K.moved hW.alike hK, hD⟩, hS.F ht⟩) hS.2.2 dX5_step_27
set_option maxHeartbeats 4000000 in
set_option maxRecDepth 100000 in
theorem kx_X3_needWay_2 (l : Launch) (hst : l.stackTraces = false) (dC : Nat → ClassId) (dI : Nat → Nat → Nat) (ge5 gea gv5 gva gde gic gi0 : Nat) (sz : Nat) (i0 : Int32) (i0_l : (3 : Int) ≤ i0.toInt) (i0_u : i0.toInt ≤ (2147483647 : Int)) : vx_Met l yX3_needWay wsX3_needWay ({ frames := 6, cells := 1, slots := 6, locals := 120 }) (va_Pc [.int i0] (fun U => U.heap.size = sz ∧ va_P (dC, dI) vwCl [] U.heap ∧ va_K (dC, dI) vwCl [] U ∧ va_D (fun _ => True) [] ∧ gv ge5 gea gv5 gva gde gic gi0 (va_A [] sz) U U.heap)) (va_Qv (fun _ : Unit => False) (fun _ _ => True) (va_A [] sz)) (vx_X (fun _ : Unit => True) (fun (E : String) (_ : Unit) (t : State) => E = "java/lang/IllegalArgumentException" ∧ va_P (dC, dI) vwCl [] t.heap ∧ va_K (dC, dI) vwCl [] t ∧ va_D (va_A [] sz) []) (va_A [] sz)) 1 6 (va_A [] sz) := by
  refine vx_ofW (cc := cX3_needWay) (maxL := 1) (ret := none) (by decide) rfl ?_
  intro p e s m args below meth c s₁ B hml ht9 hv
  obtain ⟨rfl, hsz, hP, hK, hD0, hG⟩ := hv
  have hx := B.exec
  have hb := B.bytes
  have hr := B.returns
  have hts := atoms_spec (ws := wsX3_needWay) B.pre
  have hown : s.vm.findClass RX3 = some m.cls := findClass_of_methodNamed B.named
  have hlocks := B.notSynchronized
  subst hsz
  have hD := hD0.self (sz := s.heap.size)
  generalize hAe : va_A [] s.heap.size = A at hD hG ⊢
  obtain ⟨⟨g_AO_Text, g_AO_String, g_AO_Object, g_nm_RX1_20, g_nm_RX0_17, g_nm_RX3_31, g_nm_RX2_44, g_nm_RL_121, g_nf_RL_13, g_nf_RL_47, g_ca_IO, g_ca_IA, g_ca_IS, g_ca_IntObj, g_ca_StrObj, g_de_RT, g_de_EX, g_de_TH, g_nc_IA_IO, g_nc_IS_IO, g_nc_IS_IA⟩, ⟨g_s3, g_s5, g_sa, g_x278, g_x280, g_x282, g_x284, g_x286, g_x180, g_x238, g_x250⟩, ⟨g_o5, g_c5, g_v5, g_t5, g_oa, g_ca, g_va, g_ta, g_zc, g_zd, g_td, g_zf, g_zU, g_zN, g_zh, g_zk, g_tk, g_oi, g_vi⟩⟩ := id hG
  have hA : ∀ q : Nat, s.heap.size ≤ q → A q := fun q h => by rw [← hAe]; exact Or.inr h
  have hS : va_S A s.heap s.heap [] := va_S.rf
  have hP : va_P (dC, dI) vwCl [] s.heap := hP
  have hl := lv_entry ([.int i0]) (n := 1) (Nat.le_of_ble_eq_true rfl)
  rw [lg_entry_eq]
  generalize (lg_sl ([.int i0]) ++ List.replicate (1 - (lg_sl ([.int i0])).length) Slot.unset).toArray = ls at hl ⊢
  have hl : lv_has ls 1 [(0, .int i0)] := hl
  refine lv_iload_n hx hb dX3_needWay_0 rfl (lv_at hl 0 rfl) ?_
  refine lv_if_lt (tgt := 9) hx hb dX3_needWay_1 (by decide) (fun c9 => absurd c9 (fun c8 => absurd (Int32.lt_iff_toInt_lt.mp c8) (by rw [show (0 : Int32).toInt = 0 from by decide]; omega))) (fun _ => ?_)
  refine lv_iload_n hx hb dX3_needWay_4 rfl (lv_at hl 0 rfl) ?_
  refine lv_iconst (v := 3) hx hb dX3_needWay_5 (by decide) ?_
  refine lv_icmp_lt (tgt := 20) hx hb dX3_needWay_6 (by decide) (fun c9 => absurd c9 (fun c8 => absurd (Int32.lt_iff_toInt_lt.mp c8) (by rw [show (3 : Int32).toInt = 3 from by decide]; omega))) (fun _ => ?_)
  obtain ⟨sa9, hsa9⟩ := g_x286
  have hin9 : ∀ w ∈ (vx_atS RX3 99 "java/lang/IllegalArgumentException" ["java/lang/RuntimeException", "java/lang/Exception"]).filter goodWord, w ∈ wsX3_needWay := (by intro w hw; first | exact List.mem_cons_of_mem _ (List.mem_append_right _ hw) | exact List.mem_cons_of_mem _ (List.mem_append_left _ (List.mem_append_right _ hw)))
  exact vx_throwSW (cls := "java/lang/IllegalArgumentException") (text := "no such way") (names := ["java/lang/RuntimeException", "java/lang/Exception"]) (ic := 99) hx hb hst hown (by decide) (by decide) (hts (.classLink RX3 95 "java/lang/IllegalArgumentException") (by decide +kernel)) (hts (.initialized "java/lang/IllegalArgumentException") (by decide +kernel)) hsa9 (vx_hat (B := [.declares (Bundle.initS "java/lang/RuntimeException"), .declares (Bundle.initS "java/lang/Exception"), .declares (Bundle.initS Bundle.tN), .castable "java/lang/IllegalArgumentException" "java/lang/IllegalArgumentException"]) (fun w hw => hts w (hin9 w hw)) (fun w hw => by rw [xbad_IA] at hw; exact hw) (vx_c (va_Nw.use rfl g_de_RT) (vx_c (va_Nw.use rfl g_de_EX) (vx_c (va_Nw.use rfl g_de_TH) (vx_c (va_Nw.use rfl g_ca_IA) vx_n))))) (by decide +kernel) g_zU g_zN hS (by rw [hml]; exact hl.1) dX3_needWay_9 dX3_needWay_12 dX3_needWay_13 dX3_needWay_16 dX3_needWay_19 (fun x hx9 => (ht9 x hx9).elim) (Nat.le_of_ble_eq_true rfl) (Nat.le_of_ble_eq_true rfl) (Nat.le_of_ble_eq_true rfl) (Nat.le_of_ble_eq_true rfl) hlocks (fun t ha hz hk => ⟨(), trivial, ⟨rfl, hP.kept (fun k q hq => hk _ (vx_lt hP hq)), va_K.moved ha hK, hD⟩, Nat.le_trans hS.1 hz, fun q h1 h2 => (hk q (Nat.lt_of_lt_of_le h1 hS.1)).trans (hS.2.1 q h1 h2)⟩) hS.2.2 (Nat.le_refl _) (Nat.le_refl _)
set_option maxHeartbeats 4000000 in
set_option maxRecDepth 100000 in
theorem kx_X3_step_5 (l : Launch) (hst : l.stackTraces = false) (dC : Nat → ClassId) (dI : Nat → Nat → Nat) (ge5 gea gv5 gva gde gic gi0 : Nat) (h0 : Nat) (z0 : Nat) (z1 : Nat) (z2 : Nat) (z3 : Nat) (z4 : Nat) (z5 : Nat) (sz : Nat) (i0 : Int32) (i0_l : (0 : Int) ≤ i0.toInt) (i0_u : i0.toInt ≤ (3 : Int)) (i1 : Int32) (i1_l : (3 : Int) ≤ i1.toInt) (i1_u : i1.toInt ≤ (2147483647 : Int)) : vx_Met l yX3_step wsX3_step ({ frames := 7, cells := 1, slots := 6, locals := 140 }) (va_Pc [.ref h0, .int i0, .int i1] (fun U => U.heap.size = sz ∧ va_P (dC, dI) vwCl [(h0, .inr (7, [.ref z0, .ref z1, .ref z2, .ref z3, .ref z4, .ref z5, .int 0, .int 0, .int 0]))] U.heap ∧ va_K (dC, dI) vwCl [] U ∧ va_D (fun _ => True) [(h0, .inr (7, [.ref z0, .ref z1, .ref z2, .ref z3, .ref z4, .ref z5, .int 0, .int 0, .int 0]))] ∧ gv ge5 gea gv5 gva gde gic gi0 (va_A [(h0, .inr (7, [.ref z0, .ref z1, .ref z2, .ref z3, .ref z4, .ref z5, .int 0, .int 0, .int 0]))] sz) U U.heap)) (va_Qi (fun (_ : Int32) (_ : Unit) => False) (fun _ _ => True) (va_A [(h0, .inr (7, [.ref z0, .ref z1, .ref z2, .ref z3, .ref z4, .ref z5, .int 0, .int 0, .int 0]))] sz)) (vx_X (fun _ : Unit => True) (fun (E : String) (_ : Unit) (t : State) => E = "java/lang/IllegalArgumentException" ∧ va_P (dC, dI) vwCl [(h0, .inr (7, [.ref z0, .ref z1, .ref z2, .ref z3, .ref z4, .ref z5, .int 0, .int 0, .int 0]))] t.heap ∧ va_K (dC, dI) vwCl [] t ∧ va_D (va_A [(h0, .inr (7, [.ref z0, .ref z1, .ref z2, .ref z3, .ref z4, .ref z5, .int 0, .int 0, .int 0]))] sz) [(h0, .inr (7, [.ref z0, .ref z1, .ref z2, .ref z3, .ref z4, .ref z5, .int 0, .int 0, .int 0]))]) (va_A [(h0, .inr (7, [.ref z0, .ref z1, .ref z2, .ref z3, .ref z4, .ref z5, .int 0, .int 0, .int 0]))] sz)) 1 6 (va_A [(h0, .inr (7, [.ref z0, .ref z1, .ref z2, .ref z3, .ref z4, .ref z5, .int 0, .int 0, .int 0]))] sz) := by
  refine vx_ofW (cc := cX3_step) (maxL := 4) (ret := (some .int)) (by decide) rfl ?_
  intro p e s m args below meth c s₁ B hml ht9 hv
  obtain ⟨rfl, hsz, hP, hK, hD0, hG⟩ := hv
  have hx := B.exec
  have hb := B.bytes
  have hr := B.returns
  have hts := atoms_spec (ws := wsX3_step) B.pre
  have hown : s.vm.findClass RX3 = some m.cls := findClass_of_methodNamed B.named
  have hlocks := B.notSynchronized
  subst hsz
  have hD := hD0.self (sz := s.heap.size)
  generalize hAe : va_A [(h0, .inr (7, [.ref z0, .ref z1, .ref z2, .ref z3, .ref z4, .ref z5, .int 0, .int 0, .int 0]))] s.heap.size = A at hD hG ⊢
  obtain ⟨⟨g_AO_Text, g_AO_String, g_AO_Object, g_nm_RX1_20, g_nm_RX0_17, g_nm_RX3_31, g_nm_RX2_44, g_nm_RL_121, g_nf_RL_13, g_nf_RL_47, g_ca_IO, g_ca_IA, g_ca_IS, g_ca_IntObj, g_ca_StrObj, g_de_RT, g_de_EX, g_de_TH, g_nc_IA_IO, g_nc_IS_IO, g_nc_IS_IA⟩, ⟨g_s3, g_s5, g_sa, g_x278, g_x280, g_x282, g_x284, g_x286, g_x180, g_x238, g_x250⟩, ⟨g_o5, g_c5, g_v5, g_t5, g_oa, g_ca, g_va, g_ta, g_zc, g_zd, g_td, g_zf, g_zU, g_zN, g_zh, g_zk, g_tk, g_oi, g_vi⟩⟩ := id hG
  have hA : ∀ q : Nat, s.heap.size ≤ q → A q := fun q h => by rw [← hAe]; exact Or.inr h
  have hS : va_S A s.heap s.heap [] := va_S.rf
  have hP : va_P (dC, dI) vwCl [(h0, .inr (7, [.ref z0, .ref z1, .ref z2, .ref z3, .ref z4, .ref z5, .int 0, .int 0, .int 0]))] s.heap := hP
  have hl := lv_entry ([.ref h0, .int i0, .int i1]) (n := 4) (Nat.le_of_ble_eq_true rfl)
  rw [lg_entry_eq]
  generalize (lg_sl ([.ref h0, .int i0, .int i1]) ++ List.replicate (4 - (lg_sl ([.ref h0, .int i0, .int i1])).length) Slot.unset).toArray = ls at hl ⊢
  have hl : lv_has ls 4 [(0, .ref h0), (1, .int i0), (2, .int i1)] := hl
  refine lv_iload_n hx hb dX3_step_0 rfl (lv_at hl 1 rfl) ?_
  have hPc := hP.sub (ws' := []) [] rfl
  have hDc := hD.sub (ws' := []) [] (by decide) rfl
  have hKc := hK.sub (tys' := []) [] rfl
  have hFc := va_free (wc := []) hD hS hA [] rfl
  refine va_callv (va_runS (As := [.int i0]) (rest := []) ⟨hx, hb, hml, hown, hts⟩ (kx_X3_needRope_4 l dC dI s.heap.size i0 i0_l i0_u) (cwS 1 hts gX3_step_X3_needRope rfl rfl rfl (by decide +kernel) ⟨Nat.le_of_ble_eq_true rfl, Nat.le_of_ble_eq_true rfl⟩) ⟨fun a U g mk q => by obtain ⟨q0, q1, qP, qK, qD⟩ := q; exact ⟨q0, q1, qP, va_K.moved (u := U) (U := U.calling g mk a) (Vm.Alike.refl U.vm) qK, qD⟩, fun U hU hW => ⟨rfl, by rw [hU], by rw [hU]; exact hPc, va_K.moved hW.alike hKc, hDc.weaken (fun _ _ _ _ => trivial)⟩⟩ rfl rfl hl.1 rfl (lv_room (Nat.le_of_ble_eq_true rfl)) dX3_step_1 ⟨Nat.le_of_ble_eq_true rfl, Nat.le_of_ble_eq_true rfl⟩) hS (fun q _ h => hFc q h) hFc (fun u t H1 locs ht hvm hw hB hz1 hk1 hS => ?_)
  obtain ⟨hP1, hK1, hD1⟩ := hB
  rw [ht] at hP1
  have hK1 := va_K.moved hvm.symm hK1
  obtain ⟨hP, hD⟩ := va_join (wr := [(h0, .inr (7, [.ref z0, .ref z1, .ref z2, .ref z3, .ref z4, .ref z5, .int 0, .int 0, .int 0]))]) (w1 := []) hP hD [] [0] rfl rfl (by decide) (by decide) hk1 hFc hP1 hD1
  generalize H1 = H at hP hS ⊢
  have hP : va_P (dC, dI) vwCl [(h0, .inr (7, [.ref z0, .ref z1, .ref z2, .ref z3, .ref z4, .ref z5, .int 0, .int 0, .int 0]))] H := hP
  have hD : va_D A [(h0, .inr (7, [.ref z0, .ref z1, .ref z2, .ref z3, .ref z4, .ref z5, .int 0, .int 0, .int 0]))] := hD
  refine lv_iload_n hx hb dX3_step_4 rfl (lv_at hl 2 rfl) ?_
  have hPc := hP.sub (ws' := []) [] rfl
  have hDc := hD.sub (ws' := []) [] (by decide) rfl
  have hKc := hK.sub (tys' := []) [] rfl
  have hFc := va_free (wc := []) hD hS hA [] rfl
  refine vx_callv (vx_runS (As := [.int i1]) (rest := []) ⟨hx, hb, hml, hown, hts⟩ (kx_X3_needWay_2 l hst dC dI ge5 gea gv5 gva gde gic gi0 H.size i1 i1_l i1_u) (cwS 1 hts gX3_step_X3_needWay rfl rfl rfl (by decide +kernel) ⟨Nat.le_of_ble_eq_true rfl, Nat.le_of_ble_eq_true rfl⟩) ⟨fun a U g mk q => by obtain ⟨q0, q1, qP, qK, qD, qG⟩ := q; exact ⟨q0, q1, qP, va_K.moved (u := U) (U := U.calling g mk a) (Vm.Alike.refl U.vm) qK, qD, gv.fb qG⟩, fun U hU hW => ⟨rfl, by rw [hU], by rw [hU]; exact hPc, va_K.moved hW.alike hKc, hDc.weaken (fun _ _ _ _ => trivial), gv.pass hW hU hS hFc hG⟩⟩ rfl rfl hl.1 rfl (lv_room (Nat.le_of_ble_eq_true rfl)) dX3_step_5 ⟨Nat.le_of_ble_eq_true rfl, Nat.le_of_ble_eq_true rfl⟩) hS (fun q _ h => hFc q h) hFc (fun q _ h => hFc q h) (fun E ce q9 u t H1 locs ht hvm hpx hB hz1 hk1 hS hce hcv hcl => ?_) (fun u t H1 locs ht hvm hw hB hz1 hk1 hS => hw.elim)
  obtain ⟨rfl, hP1, hK1, hD1⟩ := hB
  rw [ht] at hP1
  have hK1 := va_K.moved hvm.symm hK1
  obtain ⟨hP, hD⟩ := va_join (wr := [(h0, .inr (7, [.ref z0, .ref z1, .ref z2, .ref z3, .ref z4, .ref z5, .int 0, .int 0, .int 0]))]) (w1 := []) hP hD [] [0] rfl rfl (by decide) (by decide) hk1 hFc hP1 hD1
  generalize H1 = H at hP hS hce ⊢
  have hP : va_P (dC, dI) vwCl [(h0, .inr (7, [.ref z0, .ref z1, .ref z2, .ref z3, .ref z4, .ref z5, .int 0, .int 0, .int 0]))] H := hP
  have hD : va_D A [(h0, .inr (7, [.ref z0, .ref z1, .ref z2, .ref z3, .ref z4, .ref z5, .int 0, .int 0, .int 0]))] := hD
  exact vx_out (fun x hx9 => (ht9 x hx9).elim) hlocks hce hcv hcl (fun t ht hW => ⟨(), trivial, ⟨rfl, by rw [ht]; exact hP, va_K.moved hW hK, hD⟩, hS.F ht⟩) hS.2.2 (by omega) (by omega)
set_option maxHeartbeats 4000000 in
set_option maxRecDepth 100000 in
theorem kx_L_step_2 (l : Launch) (hst : l.stackTraces = false) (dC : Nat → ClassId) (dI : Nat → Nat → Nat) (ge5 gea gv5 gva gde gic gi0 : Nat) (h0 : Nat) (z0 : Nat) (z1 : Nat) (z2 : Nat) (z3 : Nat) (z4 : Nat) (z5 : Nat) (z6 : Nat) (sz : Nat) (i0 : Int32) (i0_l : (0 : Int) ≤ i0.toInt) (i0_u : i0.toInt ≤ (3 : Int)) (i1 : Int32) (i1_l : (3 : Int) ≤ i1.toInt) (i1_u : i1.toInt ≤ (2147483647 : Int)) : Met l yL_step wsL_step ({ frames := 8, cells := 1, slots := 6, locals := 163 }) (va_Pc [.ref h0, .int i0, .int i1, .ref z0] (fun U => U.heap.size = sz ∧ va_P (dC, dI) vwCl [(h0, .inr (7, [.ref z1, .ref z2, .ref z3, .ref z4, .ref z5, .ref z6, .int 0, .int 0, .int 0]))] U.heap ∧ va_K (dC, dI) vwCl [] U ∧ va_D (fun _ => True) [(h0, .inr (7, [.ref z1, .ref z2, .ref z3, .ref z4, .ref z5, .ref z6, .int 0, .int 0, .int 0]))] ∧ gv ge5 gea gv5 gva gde gic gi0 (va_A [(h0, .inr (7, [.ref z1, .ref z2, .ref z3, .ref z4, .ref z5, .ref z6, .int 0, .int 0, .int 0]))] sz) U U.heap)) (va_Qi (fun (r : Int32) (_ : Unit) => r = 2) (fun (_ : Unit) (t : State) => va_P (dC, dI) vwCl [(h0, .inr (7, [.ref z1, .ref z2, .ref z3, .ref z4, .ref z5, .ref z6, .int 0, .int 0, .int 0]))] t.heap ∧ va_K (dC, dI) vwCl [] t ∧ va_D (va_A [(h0, .inr (7, [.ref z1, .ref z2, .ref z3, .ref z4, .ref z5, .ref z6, .int 0, .int 0, .int 0]))] sz) [(h0, .inr (7, [.ref z1, .ref z2, .ref z3, .ref z4, .ref z5, .ref z6, .int 0, .int 0, .int 0]))]) (va_A [(h0, .inr (7, [.ref z1, .ref z2, .ref z3, .ref z4, .ref z5, .ref z6, .int 0, .int 0, .int 0]))] sz)) 1 6 (va_A [(h0, .inr (7, [.ref z1, .ref z2, .ref z3, .ref z4, .ref z5, .ref z6, .int 0, .int 0, .int 0]))] sz) := by
  refine kz_ofWH (cc := cL_step) (maxL := 5) (ret := (some .int)) (hh := [(0, 11, 14, 19), (0, 11, 18, 21)]) (by decide) rfl ?_
  intro p e s m args below meth c s₁ B hml hv
  obtain ⟨rfl, hsz, hP, hK, hD0, hG⟩ := hv
  have hx := B.exec
  have hb := B.bytes
  have hr := B.returns
  have hts := atoms_spec (ws := wsL_step) B.pre
  have hown : s.vm.findClass RL = some m.cls := findClass_of_methodNamed B.named
  have htab := vx_table (x := yL_step) B (hts (.codeWith yL_step cL_step 5 (some .int) [(0, 11, 14, 19), (0, 11, 18, 21)]) (by decide +kernel))
  have hlocks := B.notSynchronized
  subst hsz
  have hD := hD0.self (sz := s.heap.size)
  generalize hAe : va_A [(h0, .inr (7, [.ref z1, .ref z2, .ref z3, .ref z4, .ref z5, .ref z6, .int 0, .int 0, .int 0]))] s.heap.size = A at hD hG ⊢
  obtain ⟨⟨g_AO_Text, g_AO_String, g_AO_Object, g_nm_RX1_20, g_nm_RX0_17, g_nm_RX3_31, g_nm_RX2_44, g_nm_RL_121, g_nf_RL_13, g_nf_RL_47, g_ca_IO, g_ca_IA, g_ca_IS, g_ca_IntObj, g_ca_StrObj, g_de_RT, g_de_EX, g_de_TH, g_nc_IA_IO, g_nc_IS_IO, g_nc_IS_IA⟩, ⟨g_s3, g_s5, g_sa, g_x278, g_x280, g_x282, g_x284, g_x286, g_x180, g_x238, g_x250⟩, ⟨g_o5, g_c5, g_v5, g_t5, g_oa, g_ca, g_va, g_ta, g_zc, g_zd, g_td, g_zf, g_zU, g_zN, g_zh, g_zk, g_tk, g_oi, g_vi⟩⟩ := id hG
  have hA : ∀ q : Nat, s.heap.size ≤ q → A q := fun q h => by rw [← hAe]; exact Or.inr h
  have hS : va_S A s.heap s.heap [] := va_S.rf
  have hP : va_P (dC, dI) vwCl [(h0, .inr (7, [.ref z1, .ref z2, .ref z3, .ref z4, .ref z5, .ref z6, .int 0, .int 0, .int 0]))] s.heap := hP
  have hl := lv_entry ([.ref h0, .int i0, .int i1, .ref z0]) (n := 5) (Nat.le_of_ble_eq_true rfl)
  rw [lg_entry_eq]
  generalize (lg_sl ([.ref h0, .int i0, .int i1, .ref z0]) ++ List.replicate (5 - (lg_sl ([.ref h0, .int i0, .int i1, .ref z0])).length) Slot.unset).toArray = ls at hl ⊢
  have hl : lv_has ls 5 [(0, .ref h0), (1, .int i0), (2, .int i1), (3, .ref z0)] := hl
  refine lv_aload_n hx hb dL_step_0 rfl (lv_at hl 3 rfl) ?_
  refine lv_aload_n hx hb dL_step_1 rfl (lv_at hl 0 rfl) ?_
  refine lv_iload_n hx hb dL_step_2 rfl (lv_at hl 1 rfl) ?_
  refine lv_iload_n hx hb dL_step_3 rfl (lv_at hl 2 rfl) ?_
  have hPc := hP.sub (ws' := [(h0, .inr (7, [.ref z1, .ref z2, .ref z3, .ref z4, .ref z5, .ref z6, .int 0, .int 0, .int 0]))]) [0] rfl
  have hDc := hD.sub (ws' := [(h0, .inr (7, [.ref z1, .ref z2, .ref z3, .ref z4, .ref z5, .ref z6, .int 0, .int 0, .int 0]))]) [0] (by decide) rfl
  have hKc := hK.sub (tys' := []) [] rfl
  have hFc := va_free (wc := [(h0, .inr (7, [.ref z1, .ref z2, .ref z3, .ref z4, .ref z5, .ref z6, .int 0, .int 0, .int 0]))]) hD hS hA [0] rfl
  refine vx_calli (vx_runV (As := [.int i0, .int i1]) (rest := [.ref z0]) ⟨hx, hb, hml, hown, hts⟩ (kx_X3_step_5 l hst dC dI ge5 gea gv5 gva gde gic gi0 h0 z1 z2 z3 z4 z5 z6 s.heap.size i0 i0_l i0_u i1 i1_l i1_u) (cwV 2 hts gL_step_X3_step rfl rfl rfl (by decide +kernel) ⟨Nat.le_of_ble_eq_true rfl, Nat.le_of_ble_eq_true rfl⟩) ⟨fun a U g mk q => by obtain ⟨q0, q1, qP, qK, qD, qG⟩ := q; exact ⟨q0, q1, qP, va_K.moved (u := U) (U := U.calling g mk a) (Vm.Alike.refl U.vm) qK, qD, gv.fb qG⟩, va_recv hKc hPc (ci := 7) (q0 := 0) rfl rfl, fun U hU hW => ⟨rfl, by rw [hU], by rw [hU]; exact hPc, va_K.moved hW.alike hKc, hDc.weaken (fun _ _ _ _ => trivial), gv.pass hW hU hS hFc hG⟩⟩ rfl rfl hl.1 rfl (lv_room (Nat.le_of_ble_eq_true rfl)) dL_step_4 ⟨Nat.le_of_ble_eq_true rfl, Nat.le_of_ble_eq_true rfl⟩) hS (fun q _ h => hFc q h) hFc (fun q _ h => hFc q h) (fun E ce q9 u t H1 locs ht hvm hpx hB hz1 hk1 hS hce hcv hcl => ?_) (fun r9 u t H1 locs ht hvm hw hB hz1 hk1 hS => hw.elim)
  obtain ⟨rfl, hP1, hK1, hD1⟩ := hB
  rw [ht] at hP1
  have hK1 := va_K.moved hvm.symm hK1
  obtain ⟨hP, hD⟩ := va_join (wr := []) (w1 := [(h0, .inr (7, [.ref z1, .ref z2, .ref z3, .ref z4, .ref z5, .ref z6, .int 0, .int 0, .int 0]))]) hP hD [0] [] rfl rfl (by decide) (by decide) hk1 hFc hP1 hD1
  generalize H1 = H at hP hS hce ⊢
  have hP : va_P (dC, dI) vwCl [(h0, .inr (7, [.ref z1, .ref z2, .ref z3, .ref z4, .ref z5, .ref z6, .int 0, .int 0, .int 0]))] H := hP
  have hD : va_D A [(h0, .inr (7, [.ref z1, .ref z2, .ref z3, .ref z4, .ref z5, .ref z6, .int 0, .int 0, .int 0]))] := hD
  refine vx_catch (own := RL) (name := "java/lang/IllegalArgumentException") hown (tableOf [(0, 11, 14, 19)]) ⟨0, 11, 18, 21⟩ (tableOf []) (by rw [htab]; rfl) (fun z hz => by
      simp only [tableOf, List.map_cons, List.map_nil, List.mem_cons, List.not_mem_nil, or_false] at hz
      rcases hz with rfl
      · exact Or.inr ⟨by decide, "java/lang/IndexOutOfBoundsException", hts (.classLink RL 19 "java/lang/IndexOutOfBoundsException") (by decide +kernel), g_nc_IA_IO⟩) (by decide +kernel) (by decide) (hts (.classLink RL 21 "java/lang/IllegalArgumentException") (by decide +kernel)) (va_Nw.use rfl g_ca_IA) hce hcv hcl ?_
  refine W.eq (g2 := F0 m 18 ls [.ref q9]) rfl ?_
  refine lv_astore (lv' := [(4, .ref q9), (0, .ref h0), (1, .int i0), (2, .int i1), (3, .ref z0)]) hx hb dL_step_18 hl (by decide) rfl (fun ls hl => ?_)
  refine lv_iconst (v := 2) hx hb dL_step_20 (by decide) ?_
  exact W.iret (v := 2) hx hb hr (fun t ht hW => ⟨⟨2, (), rfl, rfl, by rw [ht]; exact hP, va_K.moved hW.alike hK, hD⟩, hS.F ht⟩) hS.2.2 dL_step_21
set_option maxHeartbeats 4000000 in
set_option maxRecDepth 100000 in
theorem kx_X5_isIn_23 (l : Launch) (dC : Nat → ClassId) (dI : Nat → Nat → Nat) (sz : Nat) (i0 : Int32) (i0_l : (3 : Int) ≤ i0.toInt) (i0_u : i0.toInt ≤ (2147483647 : Int)) : Met l yX5_isIn wsX5_isIn ({ frames := 0, cells := 0, slots := 0, locals := 0 }) (va_Pc [.int i0, .int 0, .int 2] (fun U => U.heap.size = sz ∧ va_P (dC, dI) vwCl [] U.heap ∧ va_K (dC, dI) vwCl [] U ∧ va_D (fun _ => True) [])) (va_Qi (fun (r : Int32) (_ : Unit) => r = 0) (fun (_ : Unit) (t : State) => va_P (dC, dI) vwCl [] t.heap ∧ va_K (dC, dI) vwCl [] t ∧ va_D (va_A [] sz) []) (va_A [] sz)) 0 0 (va_A [] sz) := by
  refine Met.ofW (cc := cX5_isIn) (maxL := 3) (ret := (some .boolean)) (by decide) rfl ?_
  intro p e s m args below meth c s₁ B hml hv
  obtain ⟨rfl, hsz, hP, hK, hD0⟩ := hv
  have hx := B.exec
  have hb := B.bytes
  have hr := B.returns
  have hts := atoms_spec (ws := wsX5_isIn) B.pre
  have hown : s.vm.findClass RX5 = some m.cls := findClass_of_methodNamed B.named
  have hlocks := B.notSynchronized
  subst hsz
  have hD := hD0.self (sz := s.heap.size)
  generalize hAe : va_A [] s.heap.size = A at hD ⊢
  have hA : ∀ q : Nat, s.heap.size ≤ q → A q := fun q h => by rw [← hAe]; exact Or.inr h
  have hS : va_S A s.heap s.heap [] := va_S.rf
  have hP : va_P (dC, dI) vwCl [] s.heap := hP
  have hl := lv_entry ([.int i0, .int 0, .int 2]) (n := 3) (Nat.le_of_ble_eq_true rfl)
  rw [lg_entry_eq]
  generalize (lg_sl ([.int i0, .int 0, .int 2]) ++ List.replicate (3 - (lg_sl ([.int i0, .int 0, .int 2])).length) Slot.unset).toArray = ls at hl ⊢
  have hl : lv_has ls 3 [(0, .int i0), (1, .int 0), (2, .int 2)] := hl
  refine lv_iload_n hx hb dX5_isIn_0 rfl (lv_at hl 0 rfl) ?_
  refine lv_iload_n hx hb dX5_isIn_1 rfl (lv_at hl 1 rfl) ?_
  refine lv_icmp_lt (tgt := 14) hx hb dX5_isIn_2 (by decide) (fun c9 => absurd c9 (fun c8 => absurd (Int32.lt_iff_toInt_lt.mp c8) (by rw [show (0 : Int32).toInt = 0 from by decide]; omega))) (fun _ => ?_)
  refine lv_iload_n hx hb dX5_isIn_5 rfl (lv_at hl 0 rfl) ?_
  refine lv_iload_n hx hb dX5_isIn_6 rfl (lv_at hl 2 rfl) ?_
  refine lv_icmp_gt (tgt := 14) hx hb dX5_isIn_7 (by decide) (fun _ => ?_) (fun c9 => absurd (Int32.lt_iff_toInt_lt.mpr (by rw [show (2 : Int32).toInt = 2 from by decide]; omega)) c9)
  refine lv_iconst (v := 0) hx hb dX5_isIn_14 (by decide) ?_
  exact W.zret (v := 0) hx hb hr (by decide) (fun t ht hW => ⟨⟨0, (), rfl, rfl, by rw [ht]; exact hP, va_K.moved hW.alike hK, hD⟩, hS.F ht⟩) hS.2.2 dX5_isIn_15
set_option maxHeartbeats 4000000 in
set_option maxRecDepth 100000 in
theorem kx_X5_step_2 (l : Launch) (dC : Nat → ClassId) (dI : Nat → Nat → Nat) (h0 : Nat) (z0 : Nat) (z1 : Nat) (z2 : Nat) (sz : Nat) (i0 : Int32) (i0_l : (0 : Int) ≤ i0.toInt) (i0_u : i0.toInt ≤ (3 : Int)) (i1 : Int32) (i1_l : (3 : Int) ≤ i1.toInt) (i1_u : i1.toInt ≤ (2147483647 : Int)) : Met l yX5_step wsX5_step ({ frames := 2, cells := 0, slots := 0, locals := 42 }) (va_Pc [.ref h0, .int i0, .int i1] (fun U => U.heap.size = sz ∧ va_P (dC, dI) vwCl [(h0, .inr (9, [.int 0, .ref z0, .ref z1, .ref z2, .int 0, .int 0, .int 0]))] U.heap ∧ va_K (dC, dI) vwCl [] U ∧ va_D (fun _ => True) [(h0, .inr (9, [.int 0, .ref z0, .ref z1, .ref z2, .int 0, .int 0, .int 0]))])) (va_Qi (fun (r : Int32) (_ : Unit) => r = 0) (fun (_ : Unit) (t : State) => va_P (dC, dI) vwCl [(h0, .inr (9, [.int 2, .ref z0, .ref z1, .ref z2, .int 0, .int 0, .int 0]))] t.heap ∧ va_K (dC, dI) vwCl [] t ∧ va_D (va_A [(h0, .inr (9, [.int 0, .ref z0, .ref z1, .ref z2, .int 0, .int 0, .int 0]))] sz) [(h0, .inr (9, [.int 2, .ref z0, .ref z1, .ref z2, .int 0, .int 0, .int 0]))]) (va_A [(h0, .inr (9, [.int 0, .ref z0, .ref z1, .ref z2, .int 0, .int 0, .int 0]))] sz)) 0 0 (va_A [(h0, .inr (9, [.int 0, .ref z0, .ref z1, .ref z2, .int 0, .int 0, .int 0]))] sz) := by
  refine Met.ofW (cc := cX5_step) (maxL := 5) (ret := (some .int)) (by decide) rfl ?_
  intro p e s m args below meth c s₁ B hml hv
  obtain ⟨rfl, hsz, hP, hK, hD0⟩ := hv
  have hx := B.exec
  have hb := B.bytes
  have hr := B.returns
  have hts := atoms_spec (ws := wsX5_step) B.pre
  have hown : s.vm.findClass RX5 = some m.cls := findClass_of_methodNamed B.named
  have hlocks := B.notSynchronized
  subst hsz
  have hD := hD0.self (sz := s.heap.size)
  generalize hAe : va_A [(h0, .inr (9, [.int 0, .ref z0, .ref z1, .ref z2, .int 0, .int 0, .int 0]))] s.heap.size = A at hD ⊢
  have hA : ∀ q : Nat, s.heap.size ≤ q → A q := fun q h => by rw [← hAe]; exact Or.inr h
  have hS : va_S A s.heap s.heap [] := va_S.rf
  have hP : va_P (dC, dI) vwCl [(h0, .inr (9, [.int 0, .ref z0, .ref z1, .ref z2, .int 0, .int 0, .int 0]))] s.heap := hP
  have hl := lv_entry ([.ref h0, .int i0, .int i1]) (n := 5) (Nat.le_of_ble_eq_true rfl)
  rw [lg_entry_eq]
  generalize (lg_sl ([.ref h0, .int i0, .int i1]) ++ List.replicate (5 - (lg_sl ([.ref h0, .int i0, .int i1])).length) Slot.unset).toArray = ls at hl ⊢
  have hl : lv_has ls 5 [(0, .ref h0), (1, .int i0), (2, .int i1)] := hl
  refine lv_aload_n hx hb dX5_step_0 rfl (lv_at hl 0 rfl) ?_
  refine lv_iload_n hx hb dX5_step_1 rfl (lv_at hl 1 rfl) ?_
  have hPc := hP.sub (ws' := []) [] rfl
  have hDc := hD.sub (ws' := []) [] (by decide) rfl
  have hKc := hK.sub (tys' := []) [] rfl
  have hFc := va_free (wc := []) hD hS hA [] rfl
  refine va_calli (va_runS (As := [.int i0]) (rest := [.ref h0]) ⟨hx, hb, hml, hown, hts⟩ (kx_X5_isNo_1 l dC dI s.heap.size i0 i0_l i0_u) (cwS 1 hts gX5_step_X5_isNo rfl rfl rfl (by decide +kernel) ⟨Nat.le_of_ble_eq_true rfl, Nat.le_of_ble_eq_true rfl⟩) ⟨fun a U g mk q => by obtain ⟨q0, q1, qP, qK, qD⟩ := q; exact ⟨q0, q1, qP, va_K.moved (u := U) (U := U.calling g mk a) (Vm.Alike.refl U.vm) qK, qD⟩, fun U hU hW => ⟨rfl, by rw [hU], by rw [hU]; exact hPc, va_K.moved hW.alike hKc, hDc.weaken (fun _ _ _ _ => trivial)⟩⟩ rfl rfl hl.1 rfl (lv_room (Nat.le_of_ble_eq_true rfl)) dX5_step_2 ⟨Nat.le_of_ble_eq_true rfl, Nat.le_of_ble_eq_true rfl⟩) hS (fun q _ h => hFc q h) hFc (fun r9 u t H1 locs ht hvm hw hB hz1 hk1 hS => ?_)
  obtain rfl := hw
  obtain ⟨hP1, hK1, hD1⟩ := hB
  rw [ht] at hP1
  have hK1 := va_K.moved hvm.symm hK1
  obtain ⟨hP, hD⟩ := va_join (wr := [(h0, .inr (9, [.int 0, .ref z0, .ref z1, .ref z2, .int 0, .int 0, .int 0]))]) (w1 := []) hP hD [] [0] rfl rfl (by decide) (by decide) hk1 hFc hP1 hD1
  generalize H1 = H at hP hS ⊢
  have hP : va_P (dC, dI) vwCl [(h0, .inr (9, [.int 0, .ref z0, .ref z1, .ref z2, .int 0, .int 0, .int 0]))] H := hP
  have hD : va_D A [(h0, .inr (9, [.int 0, .ref z0, .ref z1, .ref z2, .int 0, .int 0, .int 0]))] := hD
  refine lv_iload_n hx hb dX5_step_5 rfl (lv_at hl 2 rfl) ?_
  refine lv_iconst (v := 0) hx hb dX5_step_6 (by decide) ?_
  refine lv_iconst (v := 2) hx hb dX5_step_7 (by decide) ?_
  have hPc := hP.sub (ws' := []) [] rfl
  have hDc := hD.sub (ws' := []) [] (by decide) rfl
  have hKc := hK.sub (tys' := []) [] rfl
  have hFc := va_free (wc := []) hD hS hA [] rfl
  refine va_calli (va_runS (As := [.int i1, .int 0, .int 2]) (rest := [.int 0, .ref h0]) ⟨hx, hb, hml, hown, hts⟩ (kx_X5_isIn_23 l dC dI H.size i1 i1_l i1_u) (cwS 3 hts gX5_step_X5_isIn rfl rfl rfl (by decide +kernel) ⟨Nat.le_of_ble_eq_true rfl, Nat.le_of_ble_eq_true rfl⟩) ⟨fun a U g mk q => by obtain ⟨q0, q1, qP, qK, qD⟩ := q; exact ⟨q0, q1, qP, va_K.moved (u := U) (U := U.calling g mk a) (Vm.Alike.refl U.vm) qK, qD⟩, fun U hU hW => ⟨rfl, by rw [hU], by rw [hU]; exact hPc, va_K.moved hW.alike hKc, hDc.weaken (fun _ _ _ _ => trivial)⟩⟩ rfl rfl hl.1 rfl (lv_room (Nat.le_of_ble_eq_true rfl)) dX5_step_8 ⟨Nat.le_of_ble_eq_true rfl, Nat.le_of_ble_eq_true rfl⟩) hS (fun q _ h => hFc q h) hFc (fun r9 u t H1 locs ht hvm hw hB hz1 hk1 hS => ?_)
  obtain rfl := hw
  obtain ⟨hP1, hK1, hD1⟩ := hB
  rw [ht] at hP1
  have hK1 := va_K.moved hvm.symm hK1
  obtain ⟨hP, hD⟩ := va_join (wr := [(h0, .inr (9, [.int 0, .ref z0, .ref z1, .ref z2, .int 0, .int 0, .int 0]))]) (w1 := []) hP hD [] [0] rfl rfl (by decide) (by decide) hk1 hFc hP1 hD1
  generalize H1 = H at hP hS ⊢
  have hP : va_P (dC, dI) vwCl [(h0, .inr (9, [.int 0, .ref z0, .ref z1, .ref z2, .int 0, .int 0, .int 0]))] H := hP
  have hD : va_D A [(h0, .inr (9, [.int 0, .ref z0, .ref z1, .ref z2, .int 0, .int 0, .int 0]))] := hD
  refine lv_if_ne (tgt := 18) hx hb dX5_step_11 (by decide) (fun c9 => absurd (by decide) c9) (fun _ => ?_)
  refine lv_iconst (v := 1) hx hb dX5_step_14 (by decide) ?_
  refine lv_goto (tgt := 19) hx hb dX5_step_15 (by decide) ?_
  refine lv_iconst (v := 0) hx hb dX5_step_19 (by decide) ?_
  have hPc := hP.sub (ws' := [(h0, .inr (9, [.int 0, .ref z0, .ref z1, .ref z2, .int 0, .int 0, .int 0]))]) [0] rfl
  have hDc := hD.sub (ws' := [(h0, .inr (9, [.int 0, .ref z0, .ref z1, .ref z2, .int 0, .int 0, .int 0]))]) [0] (by decide) rfl
  have hKc := hK.sub (tys' := []) [] rfl
  have hFc := va_free (wc := [(h0, .inr (9, [.int 0, .ref z0, .ref z1, .ref z2, .int 0, .int 0, .int 0]))]) hD hS hA [0] rfl
  refine va_calli (va_runV (As := [.int 0, .int 1, .int 0]) (rest := []) ⟨hx, hb, hml, hown, hts⟩ (kx_X5_fails_3 l dC dI h0 z0 z1 z2 H.size) (cwV 3 hts gX5_step_X5_fails rfl rfl rfl (by decide +kernel) ⟨Nat.le_of_ble_eq_true rfl, Nat.le_of_ble_eq_true rfl⟩) ⟨fun a U g mk q => by obtain ⟨q0, q1, qP, qK, qD⟩ := q; exact ⟨q0, q1, qP, va_K.moved (u := U) (U := U.calling g mk a) (Vm.Alike.refl U.vm) qK, qD⟩, va_recv hKc hPc (ci := 9) (q0 := 0) rfl rfl, fun U hU hW => ⟨rfl, by rw [hU], by rw [hU]; exact hPc, va_K.moved hW.alike hKc, hDc.weaken (fun _ _ _ _ => trivial)⟩⟩ rfl rfl hl.1 rfl (lv_room (Nat.le_of_ble_eq_true rfl)) dX5_step_20 ⟨Nat.le_of_ble_eq_true rfl, Nat.le_of_ble_eq_true rfl⟩) hS (fun q _ h => hFc q h) hFc (fun r9 u t H1 locs ht hvm hw hB hz1 hk1 hS => ?_)
  obtain rfl := hw
  obtain ⟨hP1, hK1, hD1⟩ := hB
  rw [ht] at hP1
  have hK1 := va_K.moved hvm.symm hK1
  obtain ⟨hP, hD⟩ := va_join (wr := []) (w1 := [(h0, .inr (9, [.int 2, .ref z0, .ref z1, .ref z2, .int 0, .int 0, .int 0]))]) hP hD [0] [] rfl rfl (by decide) (by decide) hk1 hFc hP1 hD1
  generalize H1 = H at hP hS ⊢
  have hP : va_P (dC, dI) vwCl [(h0, .inr (9, [.int 2, .ref z0, .ref z1, .ref z2, .int 0, .int 0, .int 0]))] H := hP
  have hD : va_D A [(h0, .inr (9, [.int 2, .ref z0, .ref z1, .ref z2, .int 0, .int 0, .int 0]))] := hD
  refine lv_if_eq (tgt := 28) hx hb dX5_step_23 (by decide) (fun c9 => absurd c9 (by decide)) (fun _ => ?_)
  refine lv_iconst (v := 0) hx hb dX5_step_26 (by decide) ?_
  exact W.iret (v := 0) hx hb hr (fun t ht hW => ⟨⟨0, (), rfl, rfl, by rw [ht]; exact hP, va_K.moved hW.alike hK, hD⟩, hS.F ht⟩) hS.2.2 dX5_step_27
set_option maxHeartbeats 4000000 in
set_option maxRecDepth 100000 in
theorem kx_X3_step_6 (l : Launch) (hst : l.stackTraces = false) (dC : Nat → ClassId) (dI : Nat → Nat → Nat) (ge5 gea gv5 gva gde gic gi0 : Nat) (h0 : Nat) (z0 : Nat) (z1 : Nat) (z2 : Nat) (z3 : Nat) (z4 : Nat) (z5 : Nat) (sz : Nat) (i0 : Int32) (i0_l : ((-2147483648) : Int) ≤ i0.toInt) (i0_u : i0.toInt ≤ ((-1) : Int)) (i1 : Int32) (i1_l : (0 : Int) ≤ i1.toInt) (i1_u : i1.toInt ≤ (2 : Int)) : vx_Met l yX3_step wsX3_step ({ frames := 7, cells := 1, slots := 6, locals := 140 }) (va_Pc [.ref h0, .int i0, .int i1] (fun U => U.heap.size = sz ∧ va_P (dC, dI) vwCl [(h0, .inr (7, [.ref z0, .ref z1, .ref z2, .ref z3, .ref z4, .ref z5, .int 0, .int 0, .int 0]))] U.heap ∧ va_K (dC, dI) vwCl [] U ∧ va_D (fun _ => True) [(h0, .inr (7, [.ref z0, .ref z1, .ref z2, .ref z3, .ref z4, .ref z5, .int 0, .int 0, .int 0]))] ∧ gv ge5 gea gv5 gva gde gic gi0 (va_A [(h0, .inr (7, [.ref z0, .ref z1, .ref z2, .ref z3, .ref z4, .ref z5, .int 0, .int 0, .int 0]))] sz) U U.heap)) (va_Qi (fun (_ : Int32) (_ : Unit) => False) (fun _ _ => True) (va_A [(h0, .inr (7, [.ref z0, .ref z1, .ref z2, .ref z3, .ref z4, .ref z5, .int 0, .int 0, .int 0]))] sz)) (vx_X (fun _ : Unit => True) (fun (E : String) (_ : Unit) (t : State) => E = "java/lang/IndexOutOfBoundsException" ∧ va_P (dC, dI) vwCl [(h0, .inr (7, [.ref z0, .ref z1, .ref z2, .ref z3, .ref z4, .ref z5, .int 0, .int 0, .int 0]))] t.heap ∧ va_K (dC, dI) vwCl [] t ∧ va_D (va_A [(h0, .inr (7, [.ref z0, .ref z1, .ref z2, .ref z3, .ref z4, .ref z5, .int 0, .int 0, .int 0]))] sz) [(h0, .inr (7, [.ref z0, .ref z1, .ref z2, .ref z3, .ref z4, .ref z5, .int 0, .int 0, .int 0]))]) (va_A [(h0, .inr (7, [.ref z0, .ref z1, .ref z2, .ref z3, .ref z4, .ref z5, .int 0, .int 0, .int 0]))] sz)) 1 6 (va_A [(h0, .inr (7, [.ref z0, .ref z1, .ref z2, .ref z3, .ref z4, .ref z5, .int 0, .int 0, .int 0]))] sz) := by
  refine vx_ofW (cc := cX3_step) (maxL := 4) (ret := (some .int)) (by decide) rfl ?_
  intro p e s m args below meth c s₁ B hml ht9 hv
  obtain ⟨rfl, hsz, hP, hK, hD0, hG⟩ := hv
  have hx := B.exec
  have hb := B.bytes
  have hr := B.returns
  have hts := atoms_spec (ws := wsX3_step) B.pre
  have hown : s.vm.findClass RX3 = some m.cls := findClass_of_methodNamed B.named
  have hlocks := B.notSynchronized
  subst hsz
  have hD := hD0.self (sz := s.heap.size)
  generalize hAe : va_A [(h0, .inr (7, [.ref z0, .ref z1, .ref z2, .ref z3, .ref z4, .ref z5, .int 0, .int 0, .int 0]))] s.heap.size = A at hD hG ⊢
  obtain ⟨⟨g_AO_Text, g_AO_String, g_AO_Object, g_nm_RX1_20, g_nm_RX0_17, g_nm_RX3_31, g_nm_RX2_44, g_nm_RL_121, g_nf_RL_13, g_nf_RL_47, g_ca_IO, g_ca_IA, g_ca_IS, g_ca_IntObj, g_ca_StrObj, g_de_RT, g_de_EX, g_de_TH, g_nc_IA_IO, g_nc_IS_IO, g_nc_IS_IA⟩, ⟨g_s3, g_s5, g_sa, g_x278, g_x280, g_x282, g_x284, g_x286, g_x180, g_x238, g_x250⟩, ⟨g_o5, g_c5, g_v5, g_t5, g_oa, g_ca, g_va, g_ta, g_zc, g_zd, g_td, g_zf, g_zU, g_zN, g_zh, g_zk, g_tk, g_oi, g_vi⟩⟩ := id hG
  have hA : ∀ q : Nat, s.heap.size ≤ q → A q := fun q h => by rw [← hAe]; exact Or.inr h
  have hS : va_S A s.heap s.heap [] := va_S.rf
  have hP : va_P (dC, dI) vwCl [(h0, .inr (7, [.ref z0, .ref z1, .ref z2, .ref z3, .ref z4, .ref z5, .int 0, .int 0, .int 0]))] s.heap := hP
  have hl := lv_entry ([.ref h0, .int i0, .int i1]) (n := 4) (Nat.le_of_ble_eq_true rfl)
  rw [lg_entry_eq]
  generalize (lg_sl ([.ref h0, .int i0, .int i1]) ++ List.replicate (4 - (lg_sl ([.ref h0, .int i0, .int i1])).length) Slot.unset).toArray = ls at hl ⊢
  have hl : lv_has ls 4 [(0, .ref h0), (1, .int i0), (2, .int i1)] := hl
  refine lv_iload_n hx hb dX3_step_0 rfl (lv_at hl 1 rfl) ?_
  have hPc := hP.sub (ws' := []) [] rfl
  have hDc := hD.sub (ws' := []) [] (by decide) rfl
  have hKc := hK.sub (tys' := []) [] rfl
  have hFc := va_free (wc := []) hD hS hA [] rfl
  refine vx_callv (vx_runS (As := [.int i0]) (rest := []) ⟨hx, hb, hml, hown, hts⟩ (kx_X3_needRope_5 l hst dC dI ge5 gea gv5 gva gde gic gi0 s.heap.size i0 i0_l i0_u) (cwS 1 hts gX3_step_X3_needRope rfl rfl rfl (by decide +kernel) ⟨Nat.le_of_ble_eq_true rfl, Nat.le_of_ble_eq_true rfl⟩) ⟨fun a U g mk q => by obtain ⟨q0, q1, qP, qK, qD, qG⟩ := q; exact ⟨q0, q1, qP, va_K.moved (u := U) (U := U.calling g mk a) (Vm.Alike.refl U.vm) qK, qD, gv.fb qG⟩, fun U hU hW => ⟨rfl, by rw [hU], by rw [hU]; exact hPc, va_K.moved hW.alike hKc, hDc.weaken (fun _ _ _ _ => trivial), gv.pass hW hU hS hFc hG⟩⟩ rfl rfl hl.1 rfl (lv_room (Nat.le_of_ble_eq_true rfl)) dX3_step_1 ⟨Nat.le_of_ble_eq_true rfl, Nat.le_of_ble_eq_true rfl⟩) hS (fun q _ h => hFc q h) hFc (fun q _ h => hFc q h) (fun E ce q9 u t H1 locs ht hvm hpx hB hz1 hk1 hS hce hcv hcl => ?_) (fun u t H1 locs ht hvm hw hB hz1 hk1 hS => hw.elim)
  obtain ⟨rfl, hP1, hK1, hD1⟩ := hB
  rw [ht] at hP1
  have hK1 := va_K.moved hvm.symm hK1
  obtain ⟨hP, hD⟩ := va_join (wr := [(h0, .inr (7, [.ref z0, .ref z1, .ref z2, .ref z3, .ref z4, .ref z5, .int 0, .int 0, .int 0]))]) (w1 := []) hP hD [] [0] rfl rfl (by decide) (by decide) hk1 hFc hP1 hD1
  generalize H1 = H at hP hS hce ⊢
  have hP : va_P (dC, dI) vwCl [(h0, .inr (7, [.ref z0, .ref z1, .ref z2, .ref z3, .ref z4, .ref z5, .int 0, .int 0, .int 0]))] H := hP
  have hD : va_D A [(h0, .inr (7, [.ref z0, .ref z1, .ref z2, .ref z3, .ref z4, .ref z5, .int 0, .int 0, .int 0]))] := hD
  exact vx_out (fun x hx9 => (ht9 x hx9).elim) hlocks hce hcv hcl (fun t ht hW => ⟨(), trivial, ⟨rfl, by rw [ht]; exact hP, va_K.moved hW hK, hD⟩, hS.F ht⟩) hS.2.2 (by omega) (by omega)
set_option maxHeartbeats 4000000 in
set_option maxRecDepth 100000 in
theorem kx_L_step_3 (l : Launch) (hst : l.stackTraces = false) (dC : Nat → ClassId) (dI : Nat → Nat → Nat) (ge5 gea gv5 gva gde gic gi0 : Nat) (h0 : Nat) (z0 : Nat) (z1 : Nat) (z2 : Nat) (z3 : Nat) (z4 : Nat) (z5 : Nat) (z6 : Nat) (sz : Nat) (i0 : Int32) (i0_l : ((-2147483648) : Int) ≤ i0.toInt) (i0_u : i0.toInt ≤ ((-1) : Int)) (i1 : Int32) (i1_l : (0 : Int) ≤ i1.toInt) (i1_u : i1.toInt ≤ (2 : Int)) : Met l yL_step wsL_step ({ frames := 8, cells := 1, slots := 6, locals := 163 }) (va_Pc [.ref h0, .int i0, .int i1, .ref z0] (fun U => U.heap.size = sz ∧ va_P (dC, dI) vwCl [(h0, .inr (7, [.ref z1, .ref z2, .ref z3, .ref z4, .ref z5, .ref z6, .int 0, .int 0, .int 0]))] U.heap ∧ va_K (dC, dI) vwCl [] U ∧ va_D (fun _ => True) [(h0, .inr (7, [.ref z1, .ref z2, .ref z3, .ref z4, .ref z5, .ref z6, .int 0, .int 0, .int 0]))] ∧ gv ge5 gea gv5 gva gde gic gi0 (va_A [(h0, .inr (7, [.ref z1, .ref z2, .ref z3, .ref z4, .ref z5, .ref z6, .int 0, .int 0, .int 0]))] sz) U U.heap)) (va_Qi (fun (r : Int32) (_ : Unit) => r = 1) (fun (_ : Unit) (t : State) => va_P (dC, dI) vwCl [(h0, .inr (7, [.ref z1, .ref z2, .ref z3, .ref z4, .ref z5, .ref z6, .int 0, .int 0, .int 0]))] t.heap ∧ va_K (dC, dI) vwCl [] t ∧ va_D (va_A [(h0, .inr (7, [.ref z1, .ref z2, .ref z3, .ref z4, .ref z5, .ref z6, .int 0, .int 0, .int 0]))] sz) [(h0, .inr (7, [.ref z1, .ref z2, .ref z3, .ref z4, .ref z5, .ref z6, .int 0, .int 0, .int 0]))]) (va_A [(h0, .inr (7, [.ref z1, .ref z2, .ref z3, .ref z4, .ref z5, .ref z6, .int 0, .int 0, .int 0]))] sz)) 1 6 (va_A [(h0, .inr (7, [.ref z1, .ref z2, .ref z3, .ref z4, .ref z5, .ref z6, .int 0, .int 0, .int 0]))] sz) := by
  refine kz_ofWH (cc := cL_step) (maxL := 5) (ret := (some .int)) (hh := [(0, 11, 14, 19), (0, 11, 18, 21)]) (by decide) rfl ?_
  intro p e s m args below meth c s₁ B hml hv
  obtain ⟨rfl, hsz, hP, hK, hD0, hG⟩ := hv
  have hx := B.exec
  have hb := B.bytes
  have hr := B.returns
  have hts := atoms_spec (ws := wsL_step) B.pre
  have hown : s.vm.findClass RL = some m.cls := findClass_of_methodNamed B.named
  have htab := vx_table (x := yL_step) B (hts (.codeWith yL_step cL_step 5 (some .int) [(0, 11, 14, 19), (0, 11, 18, 21)]) (by decide +kernel))
  have hlocks := B.notSynchronized
  subst hsz
  have hD := hD0.self (sz := s.heap.size)
  generalize hAe : va_A [(h0, .inr (7, [.ref z1, .ref z2, .ref z3, .ref z4, .ref z5, .ref z6, .int 0, .int 0, .int 0]))] s.heap.size = A at hD hG ⊢
  obtain ⟨⟨g_AO_Text, g_AO_String, g_AO_Object, g_nm_RX1_20, g_nm_RX0_17, g_nm_RX3_31, g_nm_RX2_44, g_nm_RL_121, g_nf_RL_13, g_nf_RL_47, g_ca_IO, g_ca_IA, g_ca_IS, g_ca_IntObj, g_ca_StrObj, g_de_RT, g_de_EX, g_de_TH, g_nc_IA_IO, g_nc_IS_IO, g_nc_IS_IA⟩, ⟨g_s3, g_s5, g_sa, g_x278, g_x280, g_x282, g_x284, g_x286, g_x180, g_x238, g_x250⟩, ⟨g_o5, g_c5, g_v5, g_t5, g_oa, g_ca, g_va, g_ta, g_zc, g_zd, g_td, g_zf, g_zU, g_zN, g_zh, g_zk, g_tk, g_oi, g_vi⟩⟩ := id hG
  have hA : ∀ q : Nat, s.heap.size ≤ q → A q := fun q h => by rw [← hAe]; exact Or.inr h
  have hS : va_S A s.heap s.heap [] := va_S.rf
  have hP : va_P (dC, dI) vwCl [(h0, .inr (7, [.ref z1, .ref z2, .ref z3, .ref z4, .ref z5, .ref z6, .int 0, .int 0, .int 0]))] s.heap := hP
  have hl := lv_entry ([.ref h0, .int i0, .int i1, .ref z0]) (n := 5) (Nat.le_of_ble_eq_true rfl)
  rw [lg_entry_eq]
  generalize (lg_sl ([.ref h0, .int i0, .int i1, .ref z0]) ++ List.replicate (5 - (lg_sl ([.ref h0, .int i0, .int i1, .ref z0])).length) Slot.unset).toArray = ls at hl ⊢
  have hl : lv_has ls 5 [(0, .ref h0), (1, .int i0), (2, .int i1), (3, .ref z0)] := hl
  refine lv_aload_n hx hb dL_step_0 rfl (lv_at hl 3 rfl) ?_
  refine lv_aload_n hx hb dL_step_1 rfl (lv_at hl 0 rfl) ?_
  refine lv_iload_n hx hb dL_step_2 rfl (lv_at hl 1 rfl) ?_
  refine lv_iload_n hx hb dL_step_3 rfl (lv_at hl 2 rfl) ?_
  have hPc := hP.sub (ws' := [(h0, .inr (7, [.ref z1, .ref z2, .ref z3, .ref z4, .ref z5, .ref z6, .int 0, .int 0, .int 0]))]) [0] rfl
  have hDc := hD.sub (ws' := [(h0, .inr (7, [.ref z1, .ref z2, .ref z3, .ref z4, .ref z5, .ref z6, .int 0, .int 0, .int 0]))]) [0] (by decide) rfl
  have hKc := hK.sub (tys' := []) [] rfl
  have hFc := va_free (wc := [(h0, .inr (7, [.ref z1, .ref z2, .ref z3, .ref z4, .ref z5, .ref z6, .int 0, .int 0, .int 0]))]) hD hS hA [0] rfl
  refine vx_calli (vx_runV (As := [.int i0, .int i1]) (rest := [.ref z0]) ⟨hx, hb, hml, hown, hts⟩ (kx_X3_step_6 l hst dC dI ge5 gea gv5 gva gde gic gi0 h0 z1 z2 z3 z4 z5 z6 s.heap.size i0 i0_l i0_u i1 i1_l i1_u) (cwV 2 hts gL_step_X3_step rfl rfl rfl (by decide +kernel) ⟨Nat.le_of_ble_eq_true rfl, Nat.le_of_ble_eq_true rfl⟩) ⟨fun a U g mk q => by obtain ⟨q0, q1, qP, qK, qD, qG⟩ := q; exact ⟨q0, q1, qP, va_K.moved (u := U) (U := U.calling g mk a) (Vm.Alike.refl U.vm) qK, qD, gv.fb qG⟩, va_recv hKc hPc (ci := 7) (q0 := 0) rfl rfl, fun U hU hW => ⟨rfl, by rw [hU], by rw [hU]; exact hPc, va_K.moved hW.alike hKc, hDc.weaken (fun _ _ _ _ => trivial), gv.pass hW hU hS hFc hG⟩⟩ rfl rfl hl.1 rfl (lv_room (Nat.le_of_ble_eq_true rfl)) dL_step_4 ⟨Nat.le_of_ble_eq_true rfl, Nat.le_of_ble_eq_true rfl⟩) hS (fun q _ h => hFc q h) hFc (fun q _ h => hFc q h) (fun E ce q9 u t H1 locs ht hvm hpx hB hz1 hk1 hS hce hcv hcl => ?_) (fun r9 u t H1 locs ht hvm hw hB hz1 hk1 hS => hw.elim)
  obtain ⟨rfl, hP1, hK1, hD1⟩ := hB
  rw [ht] at hP1
  have hK1 := va_K.moved hvm.symm hK1
  obtain ⟨hP, hD⟩ := va_join (wr := []) (w1 := [(h0, .inr (7, [.ref z1, .ref z2, .ref z3, .ref z4, .ref z5, .ref z6, .int 0, .int 0, .int 0]))]) hP hD [0] [] rfl rfl (by decide) (by decide) hk1 hFc hP1 hD1
  generalize H1 = H at hP hS hce ⊢
  have hP : va_P (dC, dI) vwCl [(h0, .inr (7, [.ref z1, .ref z2, .ref z3, .ref z4, .ref z5, .ref z6, .int 0, .int 0, .int 0]))] H := hP
  have hD : va_D A [(h0, .inr (7, [.ref z1, .ref z2, .ref z3, .ref z4, .ref z5, .ref z6, .int 0, .int 0, .int 0]))] := hD
  refine vx_catch (own := RL) (name := "java/lang/IndexOutOfBoundsException") hown (tableOf []) ⟨0, 11, 14, 19⟩ (tableOf [(0, 11, 18, 21)]) (by rw [htab]; rfl) (fun z hz => nomatch hz) (by decide +kernel) (by decide) (hts (.classLink RL 19 "java/lang/IndexOutOfBoundsException") (by decide +kernel)) (va_Nw.use rfl g_ca_IO) hce hcv hcl ?_
  refine W.eq (g2 := F0 m 14 ls [.ref q9]) rfl ?_
  refine lv_astore (lv' := [(4, .ref q9), (0, .ref h0), (1, .int i0), (2, .int i1), (3, .ref z0)]) hx hb dL_step_14 hl (by decide) rfl (fun ls hl => ?_)
  refine lv_iconst (v := 1) hx hb dL_step_16 (by decide) ?_
  exact W.iret (v := 1) hx hb hr (fun t ht hW => ⟨⟨1, (), rfl, rfl, by rw [ht]; exact hP, va_K.moved hW.alike hK, hD⟩, hS.F ht⟩) hS.2.2 dL_step_17
set_option maxHeartbeats 4000000 in
set_option maxRecDepth 100000 in
theorem kx_X5_step_3 (l : Launch) (dC : Nat → ClassId) (dI : Nat → Nat → Nat) (h0 : Nat) (z0 : Nat) (z1 : Nat) (z2 : Nat) (sz : Nat) (i0 : Int32) (i0_l : ((-2147483648) : Int) ≤ i0.toInt) (i0_u : i0.toInt ≤ ((-1) : Int)) (i1 : Int32) (i1_l : (0 : Int) ≤ i1.toInt) (i1_u : i1.toInt ≤ (2 : Int)) : Met l yX5_step wsX5_step ({ frames := 2, cells := 0, slots := 0, locals := 42 }) (va_Pc [.ref h0, .int i0, .int i1] (fun U => U.heap.size = sz ∧ va_P (dC, dI) vwCl [(h0, .inr (9, [.int 0, .ref z0, .ref z1, .ref z2, .int 0, .int 0, .int 0]))] U.heap ∧ va_K (dC, dI) vwCl [] U ∧ va_D (fun _ => True) [(h0, .inr (9, [.int 0, .ref z0, .ref z1, .ref z2, .int 0, .int 0, .int 0]))])) (va_Qi (fun (r : Int32) (_ : Unit) => r = 0) (fun (_ : Unit) (t : State) => va_P (dC, dI) vwCl [(h0, .inr (9, [.int 1, .ref z0, .ref z1, .ref z2, .int 0, .int 0, .int 0]))] t.heap ∧ va_K (dC, dI) vwCl [] t ∧ va_D (va_A [(h0, .inr (9, [.int 0, .ref z0, .ref z1, .ref z2, .int 0, .int 0, .int 0]))] sz) [(h0, .inr (9, [.int 1, .ref z0, .ref z1, .ref z2, .int 0, .int 0, .int 0]))]) (va_A [(h0, .inr (9, [.int 0, .ref z0, .ref z1, .ref z2, .int 0, .int 0, .int 0]))] sz)) 0 0 (va_A [(h0, .inr (9, [.int 0, .ref z0, .ref z1, .ref z2, .int 0, .int 0, .int 0]))] sz) := by
  refine Met.ofW (cc := cX5_step) (maxL := 5) (ret := (some .int)) (by decide) rfl ?_
  intro p e s m args below meth c s₁ B hml hv
  obtain ⟨rfl, hsz, hP, hK, hD0⟩ := hv
  have hx := B.exec
  have hb := B.bytes
  have hr := B.returns
  have hts := atoms_spec (ws := wsX5_step) B.pre
  have hown : s.vm.findClass RX5 = some m.cls := findClass_of_methodNamed B.named
  have hlocks := B.notSynchronized
  subst hsz
  have hD := hD0.self (sz := s.heap.size)
  generalize hAe : va_A [(h0, .inr (9, [.int 0, .ref z0, .ref z1, .ref z2, .int 0, .int 0, .int 0]))] s.heap.size = A at hD ⊢
  have hA : ∀ q : Nat, s.heap.size ≤ q → A q := fun q h => by rw [← hAe]; exact Or.inr h
  have hS : va_S A s.heap s.heap [] := va_S.rf
  have hP : va_P (dC, dI) vwCl [(h0, .inr (9, [.int 0, .ref z0, .ref z1, .ref z2, .int 0, .int 0, .int 0]))] s.heap := hP
  have hl := lv_entry ([.ref h0, .int i0, .int i1]) (n := 5) (Nat.le_of_ble_eq_true rfl)
  rw [lg_entry_eq]
  generalize (lg_sl ([.ref h0, .int i0, .int i1]) ++ List.replicate (5 - (lg_sl ([.ref h0, .int i0, .int i1])).length) Slot.unset).toArray = ls at hl ⊢
  have hl : lv_has ls 5 [(0, .ref h0), (1, .int i0), (2, .int i1)] := hl
  refine lv_aload_n hx hb dX5_step_0 rfl (lv_at hl 0 rfl) ?_
  refine lv_iload_n hx hb dX5_step_1 rfl (lv_at hl 1 rfl) ?_
  have hPc := hP.sub (ws' := []) [] rfl
  have hDc := hD.sub (ws' := []) [] (by decide) rfl
  have hKc := hK.sub (tys' := []) [] rfl
  have hFc := va_free (wc := []) hD hS hA [] rfl
  refine va_calli (va_runS (As := [.int i0]) (rest := [.ref h0]) ⟨hx, hb, hml, hown, hts⟩ (kx_X5_isNo_0 l dC dI s.heap.size i0 i0_l i0_u) (cwS 1 hts gX5_step_X5_isNo rfl rfl rfl (by decide +kernel) ⟨Nat.le_of_ble_eq_true rfl, Nat.le_of_ble_eq_true rfl⟩) ⟨fun a U g mk q => by obtain ⟨q0, q1, qP, qK, qD⟩ := q; exact ⟨q0, q1, qP, va_K.moved (u := U) (U := U.calling g mk a) (Vm.Alike.refl U.vm) qK, qD⟩, fun U hU hW => ⟨rfl, by rw [hU], by rw [hU]; exact hPc, va_K.moved hW.alike hKc, hDc.weaken (fun _ _ _ _ => trivial)⟩⟩ rfl rfl hl.1 rfl (lv_room (Nat.le_of_ble_eq_true rfl)) dX5_step_2 ⟨Nat.le_of_ble_eq_true rfl, Nat.le_of_ble_eq_true rfl⟩) hS (fun q _ h => hFc q h) hFc (fun r9 u t H1 locs ht hvm hw hB hz1 hk1 hS => ?_)
  obtain rfl := hw
  obtain ⟨hP1, hK1, hD1⟩ := hB
  rw [ht] at hP1
  have hK1 := va_K.moved hvm.symm hK1
  obtain ⟨hP, hD⟩ := va_join (wr := [(h0, .inr (9, [.int 0, .ref z0, .ref z1, .ref z2, .int 0, .int 0, .int 0]))]) (w1 := []) hP hD [] [0] rfl rfl (by decide) (by decide) hk1 hFc hP1 hD1
  generalize H1 = H at hP hS ⊢
  have hP : va_P (dC, dI) vwCl [(h0, .inr (9, [.int 0, .ref z0, .ref z1, .ref z2, .int 0, .int 0, .int 0]))] H := hP
  have hD : va_D A [(h0, .inr (9, [.int 0, .ref z0, .ref z1, .ref z2, .int 0, .int 0, .int 0]))] := hD
  refine lv_iload_n hx hb dX5_step_5 rfl (lv_at hl 2 rfl) ?_
  refine lv_iconst (v := 0) hx hb dX5_step_6 (by decide) ?_
  refine lv_iconst (v := 2) hx hb dX5_step_7 (by decide) ?_
  have hPc := hP.sub (ws' := []) [] rfl
  have hDc := hD.sub (ws' := []) [] (by decide) rfl
  have hKc := hK.sub (tys' := []) [] rfl
  have hFc := va_free (wc := []) hD hS hA [] rfl
  refine va_calli (va_runS (As := [.int i1, .int 0, .int 2]) (rest := [.int 1, .ref h0]) ⟨hx, hb, hml, hown, hts⟩ (kx_X5_isIn_21 l dC dI H.size i1 i1_l i1_u) (cwS 3 hts gX5_step_X5_isIn rfl rfl rfl (by decide +kernel) ⟨Nat.le_of_ble_eq_true rfl, Nat.le_of_ble_eq_true rfl⟩) ⟨fun a U g mk q => by obtain ⟨q0, q1, qP, qK, qD⟩ := q; exact ⟨q0, q1, qP, va_K.moved (u := U) (U := U.calling g mk a) (Vm.Alike.refl U.vm) qK, qD⟩, fun U hU hW => ⟨rfl, by rw [hU], by rw [hU]; exact hPc, va_K.moved hW.alike hKc, hDc.weaken (fun _ _ _ _ => trivial)⟩⟩ rfl rfl hl.1 rfl (lv_room (Nat.le_of_ble_eq_true rfl)) dX5_step_8 ⟨Nat.le_of_ble_eq_true rfl, Nat.le_of_ble_eq_true rfl⟩) hS (fun q _ h => hFc q h) hFc (fun r9 u t H1 locs ht hvm hw hB hz1 hk1 hS => ?_)
  obtain rfl := hw
  obtain ⟨hP1, hK1, hD1⟩ := hB
  rw [ht] at hP1
  have hK1 := va_K.moved hvm.symm hK1
  obtain ⟨hP, hD⟩ := va_join (wr := [(h0, .inr (9, [.int 0, .ref z0, .ref z1, .ref z2, .int 0, .int 0, .int 0]))]) (w1 := []) hP hD [] [0] rfl rfl (by decide) (by decide) hk1 hFc hP1 hD1
  generalize H1 = H at hP hS ⊢
  have hP : va_P (dC, dI) vwCl [(h0, .inr (9, [.int 0, .ref z0, .ref z1, .ref z2, .int 0, .int 0, .int 0]))] H := hP
  have hD : va_D A [(h0, .inr (9, [.int 0, .ref z0, .ref z1, .ref z2, .int 0, .int 0, .int 0]))] := hD
  refine lv_if_ne (tgt := 18) hx hb dX5_step_11 (by decide) (fun _ => ?_) (fun c9 => absurd c9 (by decide))
  refine lv_iconst (v := 0) hx hb dX5_step_18 (by decide) ?_
  refine lv_iconst (v := 0) hx hb dX5_step_19 (by decide) ?_
  have hPc := hP.sub (ws' := [(h0, .inr (9, [.int 0, .ref z0, .ref z1, .ref z2, .int 0, .int 0, .int 0]))]) [0] rfl
  have hDc := hD.sub (ws' := [(h0, .inr (9, [.int 0, .ref z0, .ref z1, .ref z2, .int 0, .int 0, .int 0]))]) [0] (by decide) rfl
  have hKc := hK.sub (tys' := []) [] rfl
  have hFc := va_free (wc := [(h0, .inr (9, [.int 0, .ref z0, .ref z1, .ref z2, .int 0, .int 0, .int 0]))]) hD hS hA [0] rfl
  refine va_calli (va_runV (As := [.int 1, .int 0, .int 0]) (rest := []) ⟨hx, hb, hml, hown, hts⟩ (kx_X5_fails_0 l dC dI h0 z0 z1 z2 H.size) (cwV 3 hts gX5_step_X5_fails rfl rfl rfl (by decide +kernel) ⟨Nat.le_of_ble_eq_true rfl, Nat.le_of_ble_eq_true rfl⟩) ⟨fun a U g mk q => by obtain ⟨q0, q1, qP, qK, qD⟩ := q; exact ⟨q0, q1, qP, va_K.moved (u := U) (U := U.calling g mk a) (Vm.Alike.refl U.vm) qK, qD⟩, va_recv hKc hPc (ci := 9) (q0 := 0) rfl rfl, fun U hU hW => ⟨rfl, by rw [hU], by rw [hU]; exact hPc, va_K.moved hW.alike hKc, hDc.weaken (fun _ _ _ _ => trivial)⟩⟩ rfl rfl hl.1 rfl (lv_room (Nat.le_of_ble_eq_true rfl)) dX5_step_20 ⟨Nat.le_of_ble_eq_true rfl, Nat.le_of_ble_eq_true rfl⟩) hS (fun q _ h => hFc q h) hFc (fun r9 u t H1 locs ht hvm hw hB hz1 hk1 hS => ?_)
  obtain rfl := hw
  obtain ⟨hP1, hK1, hD1⟩ := hB
  rw [ht] at hP1
  have hK1 := va_K.moved hvm.symm hK1
  obtain ⟨hP, hD⟩ := va_join (wr := []) (w1 := [(h0, .inr (9, [.int 1, .ref z0, .ref z1, .ref z2, .int 0, .int 0, .int 0]))]) hP hD [0] [] rfl rfl (by decide) (by decide) hk1 hFc hP1 hD1
  generalize H1 = H at hP hS ⊢
  have hP : va_P (dC, dI) vwCl [(h0, .inr (9, [.int 1, .ref z0, .ref z1, .ref z2, .int 0, .int 0, .int 0]))] H := hP
  have hD : va_D A [(h0, .inr (9, [.int 1, .ref z0, .ref z1, .ref z2, .int 0, .int 0, .int 0]))] := hD
  refine lv_if_eq (tgt := 28) hx hb dX5_step_23 (by decide) (fun c9 => absurd c9 (by decide)) (fun _ => ?_)
  refine lv_iconst (v := 0) hx hb dX5_step_26 (by decide) ?_
  exact W.iret (v := 0) hx hb hr (fun t ht hW => ⟨⟨0, (), rfl, rfl, by rw [ht]; exact hP, va_K.moved hW.alike hK, hD⟩, hS.F ht⟩) hS.2.2 dX5_step_27
set_option maxHeartbeats 4000000 in
set_option maxRecDepth 100000 in
theorem kx_X3_step_7 (l : Launch) (hst : l.stackTraces = false) (dC : Nat → ClassId) (dI : Nat → Nat → Nat) (ge5 gea gv5 gva gde gic gi0 : Nat) (h0 : Nat) (z0 : Nat) (z1 : Nat) (z2 : Nat) (z3 : Nat) (z4 : Nat) (z5 : Nat) (sz : Nat) (i0 : Int32) (i0_l : ((-2147483648) : Int) ≤ i0.toInt) (i0_u : i0.toInt ≤ ((-1) : Int)) (i1 : Int32) (i1_l : ((-2147483648) : Int) ≤ i1.toInt) (i1_u : i1.toInt ≤ ((-1) : Int)) : vx_Met l yX3_step wsX3_step ({ frames := 7, cells := 1, slots := 6, locals := 140 }) (va_Pc [.ref h0, .int i0, .int i1] (fun U => U.heap.size = sz ∧ va_P (dC, dI) vwCl [(h0, .inr (7, [.ref z0, .ref z1, .ref z2, .ref z3, .ref z4, .ref z5, .int 0, .int 0, .int 0]))] U.heap ∧ va_K (dC, dI) vwCl [] U ∧ va_D (fun _ => True) [(h0, .inr (7, [.ref z0, .ref z1, .ref z2, .ref z3, .ref z4, .ref z5, .int 0, .int 0, .int 0]))] ∧ gv ge5 gea gv5 gva gde gic gi0 (va_A [(h0, .inr (7, [.ref z0, .ref z1, .ref z2, .ref z3, .ref z4, .ref z5, .int 0, .int 0, .int 0]))] sz) U U.heap)) (va_Qi (fun (_ : Int32) (_ : Unit) => False) (fun _ _ => True) (va_A [(h0, .inr (7, [.ref z0, .ref z1, .ref z2, .ref z3, .ref z4, .ref z5, .int 0, .int 0, .int 0]))] sz)) (vx_X (fun _ : Unit => True) (fun (E : String) (_ : Unit) (t : State) => E = "java/lang/IndexOutOfBoundsException" ∧ va_P (dC, dI) vwCl [(h0, .inr (7, [.ref z0, .ref z1, .ref z2, .ref z3, .ref z4, .ref z5, .int 0, .int 0, .int 0]))] t.heap ∧ va_K (dC, dI) vwCl [] t ∧ va_D (va_A [(h0, .inr (7, [.ref z0, .ref z1, .ref z2, .ref z3, .ref z4, .ref z5, .int 0, .int 0, .int 0]))] sz) [(h0, .inr (7, [.ref z0, .ref z1, .ref z2, .ref z3, .ref z4, .ref z5, .int 0, .int 0, .int 0]))]) (va_A [(h0, .inr (7, [.ref z0, .ref z1, .ref z2, .ref z3, .ref z4, .ref z5, .int 0, .int 0, .int 0]))] sz)) 1 6 (va_A [(h0, .inr (7, [.ref z0, .ref z1, .ref z2, .ref z3, .ref z4, .ref z5, .int 0, .int 0, .int 0]))] sz) := by
  refine vx_ofW (cc := cX3_step) (maxL := 4) (ret := (some .int)) (by decide) rfl ?_
  intro p e s m args below meth c s₁ B hml ht9 hv
  obtain ⟨rfl, hsz, hP, hK, hD0, hG⟩ := hv
  have hx := B.exec
  have hb := B.bytes
  have hr := B.returns
  have hts := atoms_spec (ws := wsX3_step) B.pre
  have hown : s.vm.findClass RX3 = some m.cls := findClass_of_methodNamed B.named
  have hlocks := B.notSynchronized
  subst hsz
  have hD := hD0.self (sz := s.heap.size)
  generalize hAe : va_A [(h0, .inr (7, [.ref z0, .ref z1, .ref z2, .ref z3, .ref z4, .ref z5, .int 0, .int 0, .int 0]))] s.heap.size = A at hD hG ⊢
  obtain ⟨⟨g_AO_Text, g_AO_String, g_AO_Object, g_nm_RX1_20, g_nm_RX0_17, g_nm_RX3_31, g_nm_RX2_44, g_nm_RL_121, g_nf_RL_13, g_nf_RL_47, g_ca_IO, g_ca_IA, g_ca_IS, g_ca_IntObj, g_ca_StrObj, g_de_RT, g_de_EX, g_de_TH, g_nc_IA_IO, g_nc_IS_IO, g_nc_IS_IA⟩, ⟨g_s3, g_s5, g_sa, g_x278, g_x280, g_x282, g_x284, g_x286, g_x180, g_x238, g_x250⟩, ⟨g_o5, g_c5, g_v5, g_t5, g_oa, g_ca, g_va, g_ta, g_zc, g_zd, g_td, g_zf, g_zU, g_zN, g_zh, g_zk, g_tk, g_oi, g_vi⟩⟩ := id hG
  have hA : ∀ q : Nat, s.heap.size ≤ q → A q := fun q h => by rw [← hAe]; exact Or.inr h
  have hS : va_S A s.heap s.heap [] := va_S.rf
  have hP : va_P (dC, dI) vwCl [(h0, .inr (7, [.ref z0, .ref z1, .ref z2, .ref z3, .ref z4, .ref z5, .int 0, .int 0, .int 0]))] s.heap := hP
  have hl := lv_entry ([.ref h0, .int i0, .int i1]) (n := 4) (Nat.le_of_ble_eq_true rfl)
  rw [lg_entry_eq]
  generalize (lg_sl ([.ref h0, .int i0, .int i1]) ++ List.replicate (4 - (lg_sl ([.ref h0, .int i0, .int i1])).length) Slot.unset).toArray = ls at hl ⊢
  have hl : lv_has ls 4 [(0, .ref h0), (1, .int i0), (2, .int i1)] := hl
  refine lv_iload_n hx hb dX3_step_0 rfl (lv_at hl 1 rfl) ?_
  have hPc := hP.sub (ws' := []) [] rfl
  have hDc := hD.sub (ws' := []) [] (by decide) rfl
  have hKc := hK.sub (tys' := []) [] rfl
  have hFc := va_free (wc := []) hD hS hA [] rfl
  refine vx_callv (vx_runS (As := [.int i0]) (rest := []) ⟨hx, hb, hml, hown, hts⟩ (kx_X3_needRope_5 l hst dC dI ge5 gea gv5 gva gde gic gi0 s.heap.size i0 i0_l i0_u) (cwS 1 hts gX3_step_X3_needRope rfl rfl rfl (by decide +kernel) ⟨Nat.le_of_ble_eq_true rfl, Nat.le_of_ble_eq_true rfl⟩) ⟨fun a U g mk q => by obtain ⟨q0, q1, qP, qK, qD, qG⟩ := q; exact ⟨q0, q1, qP, va_K.moved (u := U) (U := U.calling g mk a) (Vm.Alike.refl U.vm) qK, qD, gv.fb qG⟩, fun U hU hW => ⟨rfl, by rw [hU], by rw [hU]; exact hPc, va_K.moved hW.alike hKc, hDc.weaken (fun _ _ _ _ => trivial), gv.pass hW hU hS hFc hG⟩⟩ rfl rfl hl.1 rfl (lv_room (Nat.le_of_ble_eq_true rfl)) dX3_step_1 ⟨Nat.le_of_ble_eq_true rfl, Nat.le_of_ble_eq_true rfl⟩) hS (fun q _ h => hFc q h) hFc (fun q _ h => hFc q h) (fun E ce q9 u t H1 locs ht hvm hpx hB hz1 hk1 hS hce hcv hcl => ?_) (fun u t H1 locs ht hvm hw hB hz1 hk1 hS => hw.elim)
  obtain ⟨rfl, hP1, hK1, hD1⟩ := hB
  rw [ht] at hP1
  have hK1 := va_K.moved hvm.symm hK1
  obtain ⟨hP, hD⟩ := va_join (wr := [(h0, .inr (7, [.ref z0, .ref z1, .ref z2, .ref z3, .ref z4, .ref z5, .int 0, .int 0, .int 0]))]) (w1 := []) hP hD [] [0] rfl rfl (by decide) (by decide) hk1 hFc hP1 hD1
  generalize H1 = H at hP hS hce ⊢
  have hP : va_P (dC, dI) vwCl [(h0, .inr (7, [.ref z0, .ref z1, .ref z2, .ref z3, .ref z4, .ref z5, .int 0, .int 0, .int 0]))] H := hP
  have hD : va_D A [(h0, .inr (7, [.ref z0, .ref z1, .ref z2, .ref z3, .ref z4, .ref z5, .int 0, .int 0, .int 0]))] := hD
  exact vx_out (fun x hx9 => (ht9 x hx9).elim) hlocks hce hcv hcl (fun t ht hW => ⟨(), trivial, ⟨rfl, by rw [ht]; exact hP, va_K.moved hW hK, hD⟩, hS.F ht⟩) hS.2.2 (by omega) (by omega)
set_option maxHeartbeats 4000000 in
set_option maxRecDepth 100000 in
theorem kx_L_step_4 (l : Launch) (hst : l.stackTraces = false) (dC : Nat → ClassId) (dI : Nat → Nat → Nat) (ge5 gea gv5 gva gde gic gi0 : Nat) (h0 : Nat) (z0 : Nat) (z1 : Nat) (z2 : Nat) (z3 : Nat) (z4 : Nat) (z5 : Nat) (z6 : Nat) (sz : Nat) (i0 : Int32) (i0_l : ((-2147483648) : Int) ≤ i0.toInt) (i0_u : i0.toInt ≤ ((-1) : Int)) (i1 : Int32) (i1_l : ((-2147483648) : Int) ≤ i1.toInt) (i1_u : i1.toInt ≤ ((-1) : Int)) : Met l yL_step wsL_step ({ frames := 8, cells := 1, slots := 6, locals := 163 }) (va_Pc [.ref h0, .int i0, .int i1, .ref z0] (fun U => U.heap.size = sz ∧ va_P (dC, dI) vwCl [(h0, .inr (7, [.ref z1, .ref z2, .ref z3, .ref z4, .ref z5, .ref z6, .int 0, .int 0, .int 0]))] U.heap ∧ va_K (dC, dI) vwCl [] U ∧ va_D (fun _ => True) [(h0, .inr (7, [.ref z1, .ref z2, .ref z3, .ref z4, .ref z5, .ref z6, .int 0, .int 0, .int 0]))] ∧ gv ge5 gea gv5 gva gde gic gi0 (va_A [(h0, .inr (7, [.ref z1, .ref z2, .ref z3, .ref z4, .ref z5, .ref z6, .int 0, .int 0, .int 0]))] sz) U U.heap)) (va_Qi (fun (r : Int32) (_ : Unit) => r = 1) (fun (_ : Unit) (t : State) => va_P (dC, dI) vwCl [(h0, .inr (7, [.ref z1, .ref z2, .ref z3, .ref z4, .ref z5, .ref z6, .int 0, .int 0, .int 0]))] t.heap ∧ va_K (dC, dI) vwCl [] t ∧ va_D (va_A [(h0, .inr (7, [.ref z1, .ref z2, .ref z3, .ref z4, .ref z5, .ref z6, .int 0, .int 0, .int 0]))] sz) [(h0, .inr (7, [.ref z1, .ref z2, .ref z3, .ref z4, .ref z5, .ref z6, .int 0, .int 0, .int 0]))]) (va_A [(h0, .inr (7, [.ref z1, .ref z2, .ref z3, .ref z4, .ref z5, .ref z6, .int 0, .int 0, .int 0]))] sz)) 1 6 (va_A [(h0, .inr (7, [.ref z1, .ref z2, .ref z3, .ref z4, .ref z5, .ref z6, .int 0, .int 0, .int 0]))] sz) := by
  refine kz_ofWH (cc := cL_step) (maxL := 5) (ret := (some .int)) (hh := [(0, 11, 14, 19), (0, 11, 18, 21)]) (by decide) rfl ?_
  intro p e s m args below meth c s₁ B hml hv
  obtain ⟨rfl, hsz, hP, hK, hD0, hG⟩ := hv
  have hx := B.exec
  have hb := B.bytes
  have hr := B.returns
  have hts := atoms_spec (ws := wsL_step) B.pre
  have hown : s.vm.findClass RL = some m.cls := findClass_of_methodNamed B.named
  have htab := vx_table (x := yL_step) B (hts (.codeWith yL_step cL_step 5 (some .int) [(0, 11, 14, 19), (0, 11, 18, 21)]) (by decide +kernel))
  have hlocks := B.notSynchronized
  subst hsz
  have hD := hD0.self (sz := s.heap.size)
  generalize hAe : va_A [(h0, .inr (7, [.ref z1, .ref z2, .ref z3, .ref z4, .ref z5, .ref z6, .int 0, .int 0, .int 0]))] s.heap.size = A at hD hG ⊢
  obtain ⟨⟨g_AO_Text, g_AO_String, g_AO_Object, g_nm_RX1_20, g_nm_RX0_17, g_nm_RX3_31, g_nm_RX2_44, g_nm_RL_121, g_nf_RL_13, g_nf_RL_47, g_ca_IO, g_ca_IA, g_ca_IS, g_ca_IntObj, g_ca_StrObj, g_de_RT, g_de_EX, g_de_TH, g_nc_IA_IO, g_nc_IS_IO, g_nc_IS_IA⟩, ⟨g_s3, g_s5, g_sa, g_x278, g_x280, g_x282, g_x284, g_x286, g_x180, g_x238, g_x250⟩, ⟨g_o5, g_c5, g_v5, g_t5, g_oa, g_ca, g_va, g_ta, g_zc, g_zd, g_td, g_zf, g_zU, g_zN, g_zh, g_zk, g_tk, g_oi, g_vi⟩⟩ := id hG
  have hA : ∀ q : Nat, s.heap.size ≤ q → A q := fun q h => by rw [← hAe]; exact Or.inr h
  have hS : va_S A s.heap s.heap [] := va_S.rf
  have hP : va_P (dC, dI) vwCl [(h0, .inr (7, [.ref z1, .ref z2, .ref z3, .ref z4, .ref z5, .ref z6, .int 0, .int 0, .int 0]))] s.heap := hP
  have hl := lv_entry ([.ref h0, .int i0, .int i1, .ref z0]) (n := 5) (Nat.le_of_ble_eq_true rfl)
  rw [lg_entry_eq]
  generalize (lg_sl ([.ref h0, .int i0, .int i1, .ref z0]) ++ List.replicate (5 - (lg_sl ([.ref h0, .int i0, .int i1, .ref z0])).length) Slot.unset).toArray = ls at hl ⊢
  have hl : lv_has ls 5 [(0, .ref h0), (1, .int i0), (2, .int i1), (3, .ref z0)] := hl
  refine lv_aload_n hx hb dL_step_0 rfl (lv_at hl 3 rfl) ?_
  refine lv_aload_n hx hb dL_step_1 rfl (lv_at hl 0 rfl) ?_
  refine lv_iload_n hx hb dL_step_2 rfl (lv_at hl 1 rfl) ?_
  refine lv_iload_n hx hb dL_step_3 rfl (lv_at hl 2 rfl) ?_
  have hPc := hP.sub (ws' := [(h0, .inr (7, [.ref z1, .ref z2, .ref z3, .ref z4, .ref z5, .ref z6, .int 0, .int 0, .int 0]))]) [0] rfl
  have hDc := hD.sub (ws' := [(h0, .inr (7, [.ref z1, .ref z2, .ref z3, .ref z4, .ref z5, .ref z6, .int 0, .int 0, .int 0]))]) [0] (by decide) rfl
  have hKc := hK.sub (tys' := []) [] rfl
  have hFc := va_free (wc := [(h0, .inr (7, [.ref z1, .ref z2, .ref z3, .ref z4, .ref z5, .ref z6, .int 0, .int 0, .int 0]))]) hD hS hA [0] rfl
  refine vx_calli (vx_runV (As := [.int i0, .int i1]) (rest := [.ref z0]) ⟨hx, hb, hml, hown, hts⟩ (kx_X3_step_7 l hst dC dI ge5 gea gv5 gva gde gic gi0 h0 z1 z2 z3 z4 z5 z6 s.heap.size i0 i0_l i0_u i1 i1_l i1_u) (cwV 2 hts gL_step_X3_step rfl rfl rfl (by decide +kernel) ⟨Nat.le_of_ble_eq_true rfl, Nat.le_of_ble_eq_true rfl⟩) ⟨fun a U g mk q => by obtain ⟨q0, q1, qP, qK, qD, qG⟩ := q; exact ⟨q0, q1, qP, va_K.moved (u := U) (U := U.calling g mk a) (Vm.Alike.refl U.vm) qK, qD, gv.fb qG⟩, va_recv hKc hPc (ci := 7) (q0 := 0) rfl rfl, fun U hU hW => ⟨rfl, by rw [hU], by rw [hU]; exact hPc, va_K.moved hW.alike hKc, hDc.weaken (fun _ _ _ _ => trivial), gv.pass hW hU hS hFc hG⟩⟩ rfl rfl hl.1 rfl (lv_room (Nat.le_of_ble_eq_true rfl)) dL_step_4 ⟨Nat.le_of_ble_eq_true rfl, Nat.le_of_ble_eq_true rfl⟩) hS (fun q _ h => hFc q h) hFc (fun q _ h => hFc q h) (fun E ce q9 u t H1 locs ht hvm hpx hB hz1 hk1 hS hce hcv hcl => ?_) (fun r9 u t H1 locs ht hvm hw hB hz1 hk1 hS => hw.elim)
  obtain ⟨rfl, hP1, hK1, hD1⟩ := hB
  rw [ht] at hP1
  have hK1 := va_K.moved hvm.symm hK1
  obtain ⟨hP, hD⟩ := va_join (wr := []) (w1 := [(h0, .inr (7, [.ref z1, .ref z2, .ref z3, .ref z4, .ref z5, .ref z6, .int 0, .int 0, .int 0]))]) hP hD [0] [] rfl rfl (by decide) (by decide) hk1 hFc hP1 hD1
  generalize H1 = H at hP hS hce ⊢
  have hP : va_P (dC, dI) vwCl [(h0, .inr (7, [.ref z1, .ref z2, .ref z3, .ref z4, .ref z5, .ref z6, .int 0, .int 0, .int 0]))] H := hP
  have hD : va_D A [(h0, .inr (7, [.ref z1, .ref z2, .ref z3, .ref z4, .ref z5, .ref z6, .int 0, .int 0, .int 0]))] := hD
  refine vx_catch (own := RL) (name := "java/lang/IndexOutOfBoundsException") hown (tableOf []) ⟨0, 11, 14, 19⟩ (tableOf [(0, 11, 18, 21)]) (by rw [htab]; rfl) (fun z hz => nomatch hz) (by decide +kernel) (by decide) (hts (.classLink RL 19 "java/lang/IndexOutOfBoundsException") (by decide +kernel)) (va_Nw.use rfl g_ca_IO) hce hcv hcl ?_
  refine W.eq (g2 := F0 m 14 ls [.ref q9]) rfl ?_
  refine lv_astore (lv' := [(4, .ref q9), (0, .ref h0), (1, .int i0), (2, .int i1), (3, .ref z0)]) hx hb dL_step_14 hl (by decide) rfl (fun ls hl => ?_)
  refine lv_iconst (v := 1) hx hb dL_step_16 (by decide) ?_
  exact W.iret (v := 1) hx hb hr (fun t ht hW => ⟨⟨1, (), rfl, rfl, by rw [ht]; exact hP, va_K.moved hW.alike hK, hD⟩, hS.F ht⟩) hS.2.2 dL_step_17
set_option maxHeartbeats 4000000 in
set_option maxRecDepth 100000 in
theorem kx_X5_step_4 (l : Launch) (dC : Nat → ClassId) (dI : Nat → Nat → Nat) (h0 : Nat) (z0 : Nat) (z1 : Nat) (z2 : Nat) (sz : Nat) (i0 : Int32) (i0_l : ((-2147483648) : Int) ≤ i0.toInt) (i0_u : i0.toInt ≤ ((-1) : Int)) (i1 : Int32) (i1_l : ((-2147483648) : Int) ≤ i1.toInt) (i1_u : i1.toInt ≤ ((-1) : Int)) : Met l yX5_step wsX5_step ({ frames := 2, cells := 0, slots := 0, locals := 42 }) (va_Pc [.ref h0, .int i0, .int i1] (fun U => U.heap.size = sz ∧ va_P (dC, dI) vwCl [(h0, .inr (9, [.int 0, .ref z0, .ref z1, .ref z2, .int 0, .int 0, .int 0]))] U.heap ∧ va_K (dC, dI) vwCl [] U ∧ va_D (fun _ => True) [(h0, .inr (9, [.int 0, .ref z0, .ref z1, .ref z2, .int 0, .int 0, .int 0]))])) (va_Qi (fun (r : Int32) (_ : Unit) => r = 0) (fun (_ : Unit) (t : State) => va_P (dC, dI) vwCl [(h0, .inr (9, [.int 1, .ref z0, .ref z1, .ref z2, .int 0, .int 0, .int 0]))] t.heap ∧ va_K (dC, dI) vwCl [] t ∧ va_D (va_A [(h0, .inr (9, [.int 0, .ref z0, .ref z1, .ref z2, .int 0, .int 0, .int 0]))] sz) [(h0, .inr (9, [.int 1, .ref z0, .ref z1, .ref z2, .int 0, .int 0, .int 0]))]) (va_A [(h0, .inr (9, [.int 0, .ref z0, .ref z1, .ref z2, .int 0, .int 0, .int 0]))] sz)) 0 0 (va_A [(h0, .inr (9, [.int 0, .ref z0, .ref z1, .ref z2, .int 0, .int 0, .int 0]))] sz) := by
  refine Met.ofW (cc := cX5_step) (maxL := 5) (ret := (some .int)) (by decide) rfl ?_
  intro p e s m args below meth c s₁ B hml hv
  obtain ⟨rfl, hsz, hP, hK, hD0⟩ := hv
  have hx := B.exec
  have hb := B.bytes
  have hr := B.returns
  have hts := atoms_spec (ws := wsX5_step) B.pre
  have hown : s.vm.findClass RX5 = some m.cls := findClass_of_methodNamed B.named
  have hlocks := B.notSynchronized
  subst hsz
  have hD := hD0.self (sz := s.heap.size)
  generalize hAe : va_A [(h0, .inr (9, [.int 0, .ref z0, .ref z1, .ref z2, .int 0, .int 0, .int 0]))] s.heap.size = A at hD ⊢
  have hA : ∀ q : Nat, s.heap.size ≤ q → A q := fun q h => by rw [← hAe]; exact Or.inr h
  have hS : va_S A s.heap s.heap [] := va_S.rf
  have hP : va_P (dC, dI) vwCl [(h0, .inr (9, [.int 0, .ref z0, .ref z1, .ref z2, .int 0, .int 0, .int 0]))] s.heap := hP
  have hl := lv_entry ([.ref h0, .int i0, .int i1]) (n := 5) (Nat.le_of_ble_eq_true rfl)
  rw [lg_entry_eq]
  generalize (lg_sl ([.ref h0, .int i0, .int i1]) ++ List.replicate (5 - (lg_sl ([.ref h0, .int i0, .int i1])).length) Slot.unset).toArray = ls at hl ⊢
  have hl : lv_has ls 5 [(0, .ref h0), (1, .int i0), (2, .int i1)] := hl
  refine lv_aload_n hx hb dX5_step_0 rfl (lv_at hl 0 rfl) ?_
  refine lv_iload_n hx hb dX5_step_1 rfl (lv_at hl 1 rfl) ?_
  have hPc := hP.sub (ws' := []) [] rfl
  have hDc := hD.sub (ws' := []) [] (by decide) rfl
  have hKc := hK.sub (tys' := []) [] rfl
  have hFc := va_free (wc := []) hD hS hA [] rfl
  refine va_calli (va_runS (As := [.int i0]) (rest := [.ref h0]) ⟨hx, hb, hml, hown, hts⟩ (kx_X5_isNo_0 l dC dI s.heap.size i0 i0_l i0_u) (cwS 1 hts gX5_step_X5_isNo rfl rfl rfl (by decide +kernel) ⟨Nat.le_of_ble_eq_true rfl, Nat.le_of_ble_eq_true rfl⟩) ⟨fun a U g mk q => by obtain ⟨q0, q1, qP, qK, qD⟩ := q; exact ⟨q0, q1, qP, va_K.moved (u := U) (U := U.calling g mk a) (Vm.Alike.refl U.vm) qK, qD⟩, fun U hU hW => ⟨rfl, by rw [hU], by rw [hU]; exact hPc, va_K.moved hW.alike hKc, hDc.weaken (fun _ _ _ _ => trivial)⟩⟩ rfl rfl hl.1 rfl (lv_room (Nat.le_of_ble_eq_true rfl)) dX5_step_2 ⟨Nat.le_of_ble_eq_true rfl, Nat.le_of_ble_eq_true rfl⟩) hS (fun q _ h => hFc q h) hFc (fun r9 u t H1 locs ht hvm hw hB hz1 hk1 hS => ?_)
  obtain rfl := hw
  obtain ⟨hP1, hK1, hD1⟩ := hB
  rw [ht] at hP1
  have hK1 := va_K.moved hvm.symm hK1
  obtain ⟨hP, hD⟩ := va_join (wr := [(h0, .inr (9, [.int 0, .ref z0, .ref z1, .ref z2, .int 0, .int 0, .int 0]))]) (w1 := []) hP hD [] [0] rfl rfl (by decide) (by decide) hk1 hFc hP1 hD1
  generalize H1 = H at hP hS ⊢
  have hP : va_P (dC, dI) vwCl [(h0, .inr (9, [.int 0, .ref z0, .ref z1, .ref z2, .int 0, .int 0, .int 0]))] H := hP
  have hD : va_D A [(h0, .inr (9, [.int 0, .ref z0, .ref z1, .ref z2, .int 0, .int 0, .int 0]))] := hD
  refine lv_iload_n hx hb dX5_step_5 rfl (lv_at hl 2 rfl) ?_
  refine lv_iconst (v := 0) hx hb dX5_step_6 (by decide) ?_
  refine lv_iconst (v := 2) hx hb dX5_step_7 (by decide) ?_
  have hPc := hP.sub (ws' := []) [] rfl
  have hDc := hD.sub (ws' := []) [] (by decide) rfl
  have hKc := hK.sub (tys' := []) [] rfl
  have hFc := va_free (wc := []) hD hS hA [] rfl
  refine va_calli (va_runS (As := [.int i1, .int 0, .int 2]) (rest := [.int 1, .ref h0]) ⟨hx, hb, hml, hown, hts⟩ (kx_X5_isIn_22 l dC dI H.size i1 i1_l i1_u) (cwS 3 hts gX5_step_X5_isIn rfl rfl rfl (by decide +kernel) ⟨Nat.le_of_ble_eq_true rfl, Nat.le_of_ble_eq_true rfl⟩) ⟨fun a U g mk q => by obtain ⟨q0, q1, qP, qK, qD⟩ := q; exact ⟨q0, q1, qP, va_K.moved (u := U) (U := U.calling g mk a) (Vm.Alike.refl U.vm) qK, qD⟩, fun U hU hW => ⟨rfl, by rw [hU], by rw [hU]; exact hPc, va_K.moved hW.alike hKc, hDc.weaken (fun _ _ _ _ => trivial)⟩⟩ rfl rfl hl.1 rfl (lv_room (Nat.le_of_ble_eq_true rfl)) dX5_step_8 ⟨Nat.le_of_ble_eq_true rfl, Nat.le_of_ble_eq_true rfl⟩) hS (fun q _ h => hFc q h) hFc (fun r9 u t H1 locs ht hvm hw hB hz1 hk1 hS => ?_)
  obtain rfl := hw
  obtain ⟨hP1, hK1, hD1⟩ := hB
  rw [ht] at hP1
  have hK1 := va_K.moved hvm.symm hK1
  obtain ⟨hP, hD⟩ := va_join (wr := [(h0, .inr (9, [.int 0, .ref z0, .ref z1, .ref z2, .int 0, .int 0, .int 0]))]) (w1 := []) hP hD [] [0] rfl rfl (by decide) (by decide) hk1 hFc hP1 hD1
  generalize H1 = H at hP hS ⊢
  have hP : va_P (dC, dI) vwCl [(h0, .inr (9, [.int 0, .ref z0, .ref z1, .ref z2, .int 0, .int 0, .int 0]))] H := hP
  have hD : va_D A [(h0, .inr (9, [.int 0, .ref z0, .ref z1, .ref z2, .int 0, .int 0, .int 0]))] := hD
  refine lv_if_ne (tgt := 18) hx hb dX5_step_11 (by decide) (fun c9 => absurd (by decide) c9) (fun _ => ?_)
  refine lv_iconst (v := 1) hx hb dX5_step_14 (by decide) ?_
  refine lv_goto (tgt := 19) hx hb dX5_step_15 (by decide) ?_
  refine lv_iconst (v := 0) hx hb dX5_step_19 (by decide) ?_
  have hPc := hP.sub (ws' := [(h0, .inr (9, [.int 0, .ref z0, .ref z1, .ref z2, .int 0, .int 0, .int 0]))]) [0] rfl
  have hDc := hD.sub (ws' := [(h0, .inr (9, [.int 0, .ref z0, .ref z1, .ref z2, .int 0, .int 0, .int 0]))]) [0] (by decide) rfl
  have hKc := hK.sub (tys' := []) [] rfl
  have hFc := va_free (wc := [(h0, .inr (9, [.int 0, .ref z0, .ref z1, .ref z2, .int 0, .int 0, .int 0]))]) hD hS hA [0] rfl
  refine va_calli (va_runV (As := [.int 1, .int 1, .int 0]) (rest := []) ⟨hx, hb, hml, hown, hts⟩ (kx_X5_fails_2 l dC dI h0 z0 z1 z2 H.size) (cwV 3 hts gX5_step_X5_fails rfl rfl rfl (by decide +kernel) ⟨Nat.le_of_ble_eq_true rfl, Nat.le_of_ble_eq_true rfl⟩) ⟨fun a U g mk q => by obtain ⟨q0, q1, qP, qK, qD⟩ := q; exact ⟨q0, q1, qP, va_K.moved (u := U) (U := U.calling g mk a) (Vm.Alike.refl U.vm) qK, qD⟩, va_recv hKc hPc (ci := 9) (q0 := 0) rfl rfl, fun U hU hW => ⟨rfl, by rw [hU], by rw [hU]; exact hPc, va_K.moved hW.alike hKc, hDc.weaken (fun _ _ _ _ => trivial)⟩⟩ rfl rfl hl.1 rfl (lv_room (Nat.le_of_ble_eq_true rfl)) dX5_step_20 ⟨Nat.le_of_ble_eq_true rfl, Nat.le_of_ble_eq_true rfl⟩) hS (fun q _ h => hFc q h) hFc (fun r9 u t H1 locs ht hvm hw hB hz1 hk1 hS => ?_)
  obtain rfl := hw
  obtain ⟨hP1, hK1, hD1⟩ := hB
  rw [ht] at hP1
  have hK1 := va_K.moved hvm.symm hK1
  obtain ⟨hP, hD⟩ := va_join (wr := []) (w1 := [(h0, .inr (9, [.int 1, .ref z0, .ref z1, .ref z2, .int 0, .int 0, .int 0]))]) hP hD [0] [] rfl rfl (by decide) (by decide) hk1 hFc hP1 hD1
  generalize H1 = H at hP hS ⊢
  have hP : va_P (dC, dI) vwCl [(h0, .inr (9, [.int 1, .ref z0, .ref z1, .ref z2, .int 0, .int 0, .int 0]))] H := hP
  have hD : va_D A [(h0, .inr (9, [.int 1, .ref z0, .ref z1, .ref z2, .int 0, .int 0, .int 0]))] := hD
  refine lv_if_eq (tgt := 28) hx hb dX5_step_23 (by decide) (fun c9 => absurd c9 (by decide)) (fun _ => ?_)
  refine lv_iconst (v := 0) hx hb dX5_step_26 (by decide) ?_
  exact W.iret (v := 0) hx hb hr (fun t ht hW => ⟨⟨0, (), rfl, rfl, by rw [ht]; exact hP, va_K.moved hW.alike hK, hD⟩, hS.F ht⟩) hS.2.2 dX5_step_27
set_option maxHeartbeats 4000000 in
set_option maxRecDepth 100000 in
theorem kx_X3_step_8 (l : Launch) (hst : l.stackTraces = false) (dC : Nat → ClassId) (dI : Nat → Nat → Nat) (ge5 gea gv5 gva gde gic gi0 : Nat) (h0 : Nat) (z0 : Nat) (z1 : Nat) (z2 : Nat) (z3 : Nat) (z4 : Nat) (z5 : Nat) (sz : Nat) (i0 : Int32) (i0_l : ((-2147483648) : Int) ≤ i0.toInt) (i0_u : i0.toInt ≤ ((-1) : Int)) (i1 : Int32) (i1_l : (3 : Int) ≤ i1.toInt) (i1_u : i1.toInt ≤ (2147483647 : Int)) : vx_Met l yX3_step wsX3_step ({ frames := 7, cells := 1, slots := 6, locals := 140 }) (va_Pc [.ref h0, .int i0, .int i1] (fun U => U.heap.size = sz ∧ va_P (dC, dI) vwCl [(h0, .inr (7, [.ref z0, .ref z1, .ref z2, .ref z3, .ref z4, .ref z5, .int 0, .int 0, .int 0]))] U.heap ∧ va_K (dC, dI) vwCl [] U ∧ va_D (fun _ => True) [(h0, .inr (7, [.ref z0, .ref z1, .ref z2, .ref z3, .ref z4, .ref z5, .int 0, .int 0, .int 0]))] ∧ gv ge5 gea gv5 gva gde gic gi0 (va_A [(h0, .inr (7, [.ref z0, .ref z1, .ref z2, .ref z3, .ref z4, .ref z5, .int 0, .int 0, .int 0]))] sz) U U.heap)) (va_Qi (fun (_ : Int32) (_ : Unit) => False) (fun _ _ => True) (va_A [(h0, .inr (7, [.ref z0, .ref z1, .ref z2, .ref z3, .ref z4, .ref z5, .int 0, .int 0, .int 0]))] sz)) (vx_X (fun _ : Unit => True) (fun (E : String) (_ : Unit) (t : State) => E = "java/lang/IndexOutOfBoundsException" ∧ va_P (dC, dI) vwCl [(h0, .inr (7, [.ref z0, .ref z1, .ref z2, .ref z3, .ref z4, .ref z5, .int 0, .int 0, .int 0]))] t.heap ∧ va_K (dC, dI) vwCl [] t ∧ va_D (va_A [(h0, .inr (7, [.ref z0, .ref z1, .ref z2, .ref z3, .ref z4, .ref z5, .int 0, .int 0, .int 0]))] sz) [(h0, .inr (7, [.ref z0, .ref z1, .ref z2, .ref z3, .ref z4, .ref z5, .int 0, .int 0, .int 0]))]) (va_A [(h0, .inr (7, [.ref z0, .ref z1, .ref z2, .ref z3, .ref z4, .ref z5, .int 0, .int 0, .int 0]))] sz)) 1 6 (va_A [(h0, .inr (7, [.ref z0, .ref z1, .ref z2, .ref z3, .ref z4, .ref z5, .int 0, .int 0, .int 0]))] sz) := by
  refine vx_ofW (cc := cX3_step) (maxL := 4) (ret := (some .int)) (by decide) rfl ?_
  intro p e s m args below meth c s₁ B hml ht9 hv
  obtain ⟨rfl, hsz, hP, hK, hD0, hG⟩ := hv
  have hx := B.exec
  have hb := B.bytes
  have hr := B.returns
  have hts := atoms_spec (ws := wsX3_step) B.pre
  have hown : s.vm.findClass RX3 = some m.cls := findClass_of_methodNamed B.named
  have hlocks := B.notSynchronized
  subst hsz
  have hD := hD0.self (sz := s.heap.size)
  generalize hAe : va_A [(h0, .inr (7, [.ref z0, .ref z1, .ref z2, .ref z3, .ref z4, .ref z5, .int 0, .int 0, .int 0]))] s.heap.size = A at hD hG ⊢
  obtain ⟨⟨g_AO_Text, g_AO_String, g_AO_Object, g_nm_RX1_20, g_nm_RX0_17, g_nm_RX3_31, g_nm_RX2_44, g_nm_RL_121, g_nf_RL_13, g_nf_RL_47, g_ca_IO, g_ca_IA, g_ca_IS, g_ca_IntObj, g_ca_StrObj, g_de_RT, g_de_EX, g_de_TH, g_nc_IA_IO, g_nc_IS_IO, g_nc_IS_IA⟩, ⟨g_s3, g_s5, g_sa, g_x278, g_x280, g_x282, g_x284, g_x286, g_x180, g_x238, g_x250⟩, ⟨g_o5, g_c5, g_v5, g_t5, g_oa, g_ca, g_va, g_ta, g_zc, g_zd, g_td, g_zf, g_zU, g_zN, g_zh, g_zk, g_tk, g_oi, g_vi⟩⟩ := id hG
  have hA : ∀ q : Nat, s.heap.size ≤ q → A q := fun q h => by rw [← hAe]; exact Or.inr h
  have hS : va_S A s.heap s.heap [] := va_S.rf
  have hP : va_P (dC, dI) vwCl [(h0, .inr (7, [.ref z0, .ref z1, .ref z2, .ref z3, .ref z4, .ref z5, .int 0, .int 0, .int 0]))] s.heap := hP
  have hl := lv_entry ([.ref h0, .int i0, .int i1]) (n := 4) (Nat.le_of_ble_eq_true rfl)
  rw [lg_entry_eq]
  generalize (lg_sl ([.ref h0, .int i0, .int i1]) ++ List.replicate (4 - (lg_sl ([.ref h0, .int i0, .int i1])).length) Slot.unset).toArray = ls at hl ⊢
  have hl : lv_has ls 4 [(0, .ref h0), (1, .int i0), (2, .int i1)] := hl
  refine lv_iload_n hx hb dX3_step_0 rfl (lv_at hl 1 rfl) ?_
  have hPc := hP.sub (ws' := []) [] rfl
  have hDc := hD.sub (ws' := []) [] (by decide) rfl
  have hKc := hK.sub (tys' := []) [] rfl
  have hFc := va_free (wc := []) hD hS hA [] rfl
  refine vx_callv (vx_runS (As := [.int i0]) (rest := []) ⟨hx, hb, hml, hown, hts⟩ (kx_X3_needRope_5 l hst dC dI ge5 gea gv5 gva gde gic gi0 s.heap.size i0 i0_l i0_u) (cwS 1 hts gX3_step_X3_needRope rfl rfl rfl (by decide +kernel) ⟨Nat.le_of_ble_eq_true rfl, Nat.le_of_ble_eq_true rfl⟩) ⟨fun a U g mk q => by obtain ⟨q0, q1, qP, qK, qD, qG⟩ := q; exact ⟨q0, q1, qP, va_K.moved (u := U) (U := U.calling g mk a) (Vm.Alike.refl U.vm) qK, qD, gv.fb qG⟩, fun U hU hW => ⟨rfl, by rw [hU], by rw [hU]; exact hPc, va_K.moved hW.alike hKc, hDc.weaken (fun _ _ _ _ => trivial), gv.pass hW hU hS hFc hG⟩⟩ rfl rfl hl.1 rfl (lv_room (Nat.le_of_ble_eq_true rfl)) dX3_step_1 ⟨Nat.le_of_ble_eq_true rfl, Nat.le_of_ble_eq_true rfl⟩) hS (fun q _ h => hFc q h) hFc (fun q _ h => hFc q h) (fun E ce q9 u t H1 locs ht hvm hpx hB hz1 hk1 hS hce hcv hcl => ?_) (fun u t H1 locs ht hvm hw hB hz1 hk1 hS => hw.elim)
  obtain ⟨rfl, hP1, hK1, hD1⟩ := hB
  rw [ht] at hP1
  have hK1 := va_K.moved hvm.symm hK1
  obtain ⟨hP, hD⟩ := va_join (wr := [(h0, .inr (7, [.ref z0, .ref z1, .ref z2, .ref z3, .ref z4, .ref z5, .int 0, .int 0, .int 0]))]) (w1 := []) hP hD [] [0] rfl rfl (by decide) (by decide) hk1 hFc hP1 hD1
  generalize H1 = H at hP hS hce ⊢
  have hP : va_P (dC, dI) vwCl [(h0, .inr (7, [.ref z0, .ref z1, .ref z2, .ref z3, .ref z4, .ref z5, .int 0, .int 0, .int 0]))] H := hP
  have hD : va_D A [(h0, .inr (7, [.ref z0, .ref z1, .ref z2, .ref z3, .ref z4, .ref z5, .int 0, .int 0, .int 0]))] := hD
  exact vx_out (fun x hx9 => (ht9 x hx9).elim) hlocks hce hcv hcl (fun t ht hW => ⟨(), trivial, ⟨rfl, by rw [ht]; exact hP, va_K.moved hW hK, hD⟩, hS.F ht⟩) hS.2.2 (by omega) (by omega)
set_option maxHeartbeats 4000000 in
set_option maxRecDepth 100000 in
theorem kx_L_step_5 (l : Launch) (hst : l.stackTraces = false) (dC : Nat → ClassId) (dI : Nat → Nat → Nat) (ge5 gea gv5 gva gde gic gi0 : Nat) (h0 : Nat) (z0 : Nat) (z1 : Nat) (z2 : Nat) (z3 : Nat) (z4 : Nat) (z5 : Nat) (z6 : Nat) (sz : Nat) (i0 : Int32) (i0_l : ((-2147483648) : Int) ≤ i0.toInt) (i0_u : i0.toInt ≤ ((-1) : Int)) (i1 : Int32) (i1_l : (3 : Int) ≤ i1.toInt) (i1_u : i1.toInt ≤ (2147483647 : Int)) : Met l yL_step wsL_step ({ frames := 8, cells := 1, slots := 6, locals := 163 }) (va_Pc [.ref h0, .int i0, .int i1, .ref z0] (fun U => U.heap.size = sz ∧ va_P (dC, dI) vwCl [(h0, .inr (7, [.ref z1, .ref z2, .ref z3, .ref z4, .ref z5, .ref z6, .int 0, .int 0, .int 0]))] U.heap ∧ va_K (dC, dI) vwCl [] U ∧ va_D (fun _ => True) [(h0, .inr (7, [.ref z1, .ref z2, .ref z3, .ref z4, .ref z5, .ref z6, .int 0, .int 0, .int 0]))] ∧ gv ge5 gea gv5 gva gde gic gi0 (va_A [(h0, .inr (7, [.ref z1, .ref z2, .ref z3, .ref z4, .ref z5, .ref z6, .int 0, .int 0, .int 0]))] sz) U U.heap)) (va_Qi (fun (r : Int32) (_ : Unit) => r = 1) (fun (_ : Unit) (t : State) => va_P (dC, dI) vwCl [(h0, .inr (7, [.ref z1, .ref z2, .ref z3, .ref z4, .ref z5, .ref z6, .int 0, .int 0, .int 0]))] t.heap ∧ va_K (dC, dI) vwCl [] t ∧ va_D (va_A [(h0, .inr (7, [.ref z1, .ref z2, .ref z3, .ref z4, .ref z5, .ref z6, .int 0, .int 0, .int 0]))] sz) [(h0, .inr (7, [.ref z1, .ref z2, .ref z3, .ref z4, .ref z5, .ref z6, .int 0, .int 0, .int 0]))]) (va_A [(h0, .inr (7, [.ref z1, .ref z2, .ref z3, .ref z4, .ref z5, .ref z6, .int 0, .int 0, .int 0]))] sz)) 1 6 (va_A [(h0, .inr (7, [.ref z1, .ref z2, .ref z3, .ref z4, .ref z5, .ref z6, .int 0, .int 0, .int 0]))] sz) := by
  refine kz_ofWH (cc := cL_step) (maxL := 5) (ret := (some .int)) (hh := [(0, 11, 14, 19), (0, 11, 18, 21)]) (by decide) rfl ?_
  intro p e s m args below meth c s₁ B hml hv
  obtain ⟨rfl, hsz, hP, hK, hD0, hG⟩ := hv
  have hx := B.exec
  have hb := B.bytes
  have hr := B.returns
  have hts := atoms_spec (ws := wsL_step) B.pre
  have hown : s.vm.findClass RL = some m.cls := findClass_of_methodNamed B.named
  have htab := vx_table (x := yL_step) B (hts (.codeWith yL_step cL_step 5 (some .int) [(0, 11, 14, 19), (0, 11, 18, 21)]) (by decide +kernel))
  have hlocks := B.notSynchronized
  subst hsz
  have hD := hD0.self (sz := s.heap.size)
  generalize hAe : va_A [(h0, .inr (7, [.ref z1, .ref z2, .ref z3, .ref z4, .ref z5, .ref z6, .int 0, .int 0, .int 0]))] s.heap.size = A at hD hG ⊢
  obtain ⟨⟨g_AO_Text, g_AO_String, g_AO_Object, g_nm_RX1_20, g_nm_RX0_17, g_nm_RX3_31, g_nm_RX2_44, g_nm_RL_121, g_nf_RL_13, g_nf_RL_47, g_ca_IO, g_ca_IA, g_ca_IS, g_ca_IntObj, g_ca_StrObj, g_de_RT, g_de_EX, g_de_TH, g_nc_IA_IO, g_nc_IS_IO, g_nc_IS_IA⟩, ⟨g_s3, g_s5, g_sa, g_x278, g_x280, g_x282, g_x284, g_x286, g_x180, g_x238, g_x250⟩, ⟨g_o5, g_c5, g_v5, g_t5, g_oa, g_ca, g_va, g_ta, g_zc, g_zd, g_td, g_zf, g_zU, g_zN, g_zh, g_zk, g_tk, g_oi, g_vi⟩⟩ := id hG
  have hA : ∀ q : Nat, s.heap.size ≤ q → A q := fun q h => by rw [← hAe]; exact Or.inr h
  have hS : va_S A s.heap s.heap [] := va_S.rf
  have hP : va_P (dC, dI) vwCl [(h0, .inr (7, [.ref z1, .ref z2, .ref z3, .ref z4, .ref z5, .ref z6, .int 0, .int 0, .int 0]))] s.heap := hP
  have hl := lv_entry ([.ref h0, .int i0, .int i1, .ref z0]) (n := 5) (Nat.le_of_ble_eq_true rfl)
  rw [lg_entry_eq]
  generalize (lg_sl ([.ref h0, .int i0, .int i1, .ref z0]) ++ List.replicate (5 - (lg_sl ([.ref h0, .int i0, .int i1, .ref z0])).length) Slot.unset).toArray = ls at hl ⊢
  have hl : lv_has ls 5 [(0, .ref h0), (1, .int i0), (2, .int i1), (3, .ref z0)] := hl
  refine lv_aload_n hx hb dL_step_0 rfl (lv_at hl 3 rfl) ?_
  refine lv_aload_n hx hb dL_step_1 rfl (lv_at hl 0 rfl) ?_
  refine lv_iload_n hx hb dL_step_2 rfl (lv_at hl 1 rfl) ?_
  refine lv_iload_n hx hb dL_step_3 rfl (lv_at hl 2 rfl) ?_
  have hPc := hP.sub (ws' := [(h0, .inr (7, [.ref z1, .ref z2, .ref z3, .ref z4, .ref z5, .ref z6, .int 0, .int 0, .int 0]))]) [0] rfl
  have hDc := hD.sub (ws' := [(h0, .inr (7, [.ref z1, .ref z2, .ref z3, .ref z4, .ref z5, .ref z6, .int 0, .int 0, .int 0]))]) [0] (by decide) rfl
  have hKc := hK.sub (tys' := []) [] rfl
  have hFc := va_free (wc := [(h0, .inr (7, [.ref z1, .ref z2, .ref z3, .ref z4, .ref z5, .ref z6, .int 0, .int 0, .int 0]))]) hD hS hA [0] rfl
  refine vx_calli (vx_runV (As := [.int i0, .int i1]) (rest := [.ref z0]) ⟨hx, hb, hml, hown, hts⟩ (kx_X3_step_8 l hst dC dI ge5 gea gv5 gva gde gic gi0 h0 z1 z2 z3 z4 z5 z6 s.heap.size i0 i0_l i0_u i1 i1_l i1_u) (cwV 2 hts gL_step_X3_step rfl rfl rfl (by decide +kernel) ⟨Nat.le_of_ble_eq_true rfl, Nat.le_of_ble_eq_true rfl⟩) ⟨fun a U g mk q => by obtain ⟨q0, q1, qP, qK, qD, qG⟩ := q; exact ⟨q0, q1, qP, va_K.moved (u := U) (U := U.calling g mk a) (Vm.Alike.refl U.vm) qK, qD, gv.fb qG⟩, va_recv hKc hPc (ci := 7) (q0 := 0) rfl rfl, fun U hU hW => ⟨rfl, by rw [hU], by rw [hU]; exact hPc, va_K.moved hW.alike hKc, hDc.weaken (fun _ _ _ _ => trivial), gv.pass hW hU hS hFc hG⟩⟩ rfl rfl hl.1 rfl (lv_room (Nat.le_of_ble_eq_true rfl)) dL_step_4 ⟨Nat.le_of_ble_eq_true rfl, Nat.le_of_ble_eq_true rfl⟩) hS (fun q _ h => hFc q h) hFc (fun q _ h => hFc q h) (fun E ce q9 u t H1 locs ht hvm hpx hB hz1 hk1 hS hce hcv hcl => ?_) (fun r9 u t H1 locs ht hvm hw hB hz1 hk1 hS => hw.elim)
  obtain ⟨rfl, hP1, hK1, hD1⟩ := hB
  rw [ht] at hP1
  have hK1 := va_K.moved hvm.symm hK1
  obtain ⟨hP, hD⟩ := va_join (wr := []) (w1 := [(h0, .inr (7, [.ref z1, .ref z2, .ref z3, .ref z4, .ref z5, .ref z6, .int 0, .int 0, .int 0]))]) hP hD [0] [] rfl rfl (by decide) (by decide) hk1 hFc hP1 hD1
  generalize H1 = H at hP hS hce ⊢
  have hP : va_P (dC, dI) vwCl [(h0, .inr (7, [.ref z1, .ref z2, .ref z3, .ref z4, .ref z5, .ref z6, .int 0, .int 0, .int 0]))] H := hP
  have hD : va_D A [(h0, .inr (7, [.ref z1, .ref z2, .ref z3, .ref z4, .ref z5, .ref z6, .int 0, .int 0, .int 0]))] := hD
  refine vx_catch (own := RL) (name := "java/lang/IndexOutOfBoundsException") hown (tableOf []) ⟨0, 11, 14, 19⟩ (tableOf [(0, 11, 18, 21)]) (by rw [htab]; rfl) (fun z hz => nomatch hz) (by decide +kernel) (by decide) (hts (.classLink RL 19 "java/lang/IndexOutOfBoundsException") (by decide +kernel)) (va_Nw.use rfl g_ca_IO) hce hcv hcl ?_
  refine W.eq (g2 := F0 m 14 ls [.ref q9]) rfl ?_
  refine lv_astore (lv' := [(4, .ref q9), (0, .ref h0), (1, .int i0), (2, .int i1), (3, .ref z0)]) hx hb dL_step_14 hl (by decide) rfl (fun ls hl => ?_)
  refine lv_iconst (v := 1) hx hb dL_step_16 (by decide) ?_
  exact W.iret (v := 1) hx hb hr (fun t ht hW => ⟨⟨1, (), rfl, rfl, by rw [ht]; exact hP, va_K.moved hW.alike hK, hD⟩, hS.F ht⟩) hS.2.2 dL_step_17
set_option maxHeartbeats 4000000 in
set_option maxRecDepth 100000 in
theorem kx_X5_step_5 (l : Launch) (dC : Nat → ClassId) (dI : Nat → Nat → Nat) (h0 : Nat) (z0 : Nat) (z1 : Nat) (z2 : Nat) (sz : Nat) (i0 : Int32) (i0_l : ((-2147483648) : Int) ≤ i0.toInt) (i0_u : i0.toInt ≤ ((-1) : Int)) (i1 : Int32) (i1_l : (3 : Int) ≤ i1.toInt) (i1_u : i1.toInt ≤ (2147483647 : Int)) : Met l yX5_step wsX5_step ({ frames := 2, cells := 0, slots := 0, locals := 42 }) (va_Pc [.ref h0, .int i0, .int i1] (fun U => U.heap.size = sz ∧ va_P (dC, dI) vwCl [(h0, .inr (9, [.int 0, .ref z0, .ref z1, .ref z2, .int 0, .int 0, .int 0]))] U.heap ∧ va_K (dC, dI) vwCl [] U ∧ va_D (fun _ => True) [(h0, .inr (9, [.int 0, .ref z0, .ref z1, .ref z2, .int 0, .int 0, .int 0]))])) (va_Qi (fun (r : Int32) (_ : Unit) => r = 0) (fun (_ : Unit) (t : State) => va_P (dC, dI) vwCl [(h0, .inr (9, [.int 1, .ref z0, .ref z1, .ref z2, .int 0, .int 0, .int 0]))] t.heap ∧ va_K (dC, dI) vwCl [] t ∧ va_D (va_A [(h0, .inr (9, [.int 0, .ref z0, .ref z1, .ref z2, .int 0, .int 0, .int 0]))] sz) [(h0, .inr (9, [.int 1, .ref z0, .ref z1, .ref z2, .int 0, .int 0, .int 0]))]) (va_A [(h0, .inr (9, [.int 0, .ref z0, .ref z1, .ref z2, .int 0, .int 0, .int 0]))] sz)) 0 0 (va_A [(h0, .inr (9, [.int 0, .ref z0, .ref z1, .ref z2, .int 0, .int 0, .int 0]))] sz) := by
  refine Met.ofW (cc := cX5_step) (maxL := 5) (ret := (some .int)) (by decide) rfl ?_
  intro p e s m args below meth c s₁ B hml hv
  obtain ⟨rfl, hsz, hP, hK, hD0⟩ := hv
  have hx := B.exec
  have hb := B.bytes
  have hr := B.returns
  have hts := atoms_spec (ws := wsX5_step) B.pre
  have hown : s.vm.findClass RX5 = some m.cls := findClass_of_methodNamed B.named
  have hlocks := B.notSynchronized
  subst hsz
  have hD := hD0.self (sz := s.heap.size)
  generalize hAe : va_A [(h0, .inr (9, [.int 0, .ref z0, .ref z1, .ref z2, .int 0, .int 0, .int 0]))] s.heap.size = A at hD ⊢
  have hA : ∀ q : Nat, s.heap.size ≤ q → A q := fun q h => by rw [← hAe]; exact Or.inr h
  have hS : va_S A s.heap s.heap [] := va_S.rf
  have hP : va_P (dC, dI) vwCl [(h0, .inr (9, [.int 0, .ref z0, .ref z1, .ref z2, .int 0, .int 0, .int 0]))] s.heap := hP
  have hl := lv_entry ([.ref h0, .int i0, .int i1]) (n := 5) (Nat.le_of_ble_eq_true rfl)
  rw [lg_entry_eq]
  generalize (lg_sl ([.ref h0, .int i0, .int i1]) ++ List.replicate (5 - (lg_sl ([.ref h0, .int i0, .int i1])).length) Slot.unset).toArray = ls at hl ⊢
  have hl : lv_has ls 5 [(0, .ref h0), (1, .int i0), (2, .int i1)] := hl
  refine lv_aload_n hx hb dX5_step_0 rfl (lv_at hl 0 rfl) ?_
  refine lv_iload_n hx hb dX5_step_1 rfl (lv_at hl 1 rfl) ?_
  have hPc := hP.sub (ws' := []) [] rfl
  have hDc := hD.sub (ws' := []) [] (by decide) rfl
  have hKc := hK.sub (tys' := []) [] rfl
  have hFc := va_free (wc := []) hD hS hA [] rfl
  refine va_calli (va_runS (As := [.int i0]) (rest := [.ref h0]) ⟨hx, hb, hml, hown, hts⟩ (kx_X5_isNo_0 l dC dI s.heap.size i0 i0_l i0_u) (cwS 1 hts gX5_step_X5_isNo rfl rfl rfl (by decide +kernel) ⟨Nat.le_of_ble_eq_true rfl, Nat.le_of_ble_eq_true rfl⟩) ⟨fun a U g mk q => by obtain ⟨q0, q1, qP, qK, qD⟩ := q; exact ⟨q0, q1, qP, va_K.moved (u := U) (U := U.calling g mk a) (Vm.Alike.refl U.vm) qK, qD⟩, fun U hU hW => ⟨rfl, by rw [hU], by rw [hU]; exact hPc, va_K.moved hW.alike hKc, hDc.weaken (fun _ _ _ _ => trivial)⟩⟩ rfl rfl hl.1 rfl (lv_room (Nat.le_of_ble_eq_true rfl)) dX5_step_2 ⟨Nat.le_of_ble_eq_true rfl, Nat.le_of_ble_eq_true rfl⟩) hS (fun q _ h => hFc q h) hFc (fun r9 u t H1 locs ht hvm hw hB hz1 hk1 hS => ?_)
  obtain rfl := hw
  obtain ⟨hP1, hK1, hD1⟩ := hB
  rw [ht] at hP1
  have hK1 := va_K.moved hvm.symm hK1
  obtain ⟨hP, hD⟩ := va_join (wr := [(h0, .inr (9, [.int 0, .ref z0, .ref z1, .ref z2, .int 0, .int 0, .int 0]))]) (w1 := []) hP hD [] [0] rfl rfl (by decide) (by decide) hk1 hFc hP1 hD1
  generalize H1 = H at hP hS ⊢
  have hP : va_P (dC, dI) vwCl [(h0, .inr (9, [.int 0, .ref z0, .ref z1, .ref z2, .int 0, .int 0, .int 0]))] H := hP
  have hD : va_D A [(h0, .inr (9, [.int 0, .ref z0, .ref z1, .ref z2, .int 0, .int 0, .int 0]))] := hD
  refine lv_iload_n hx hb dX5_step_5 rfl (lv_at hl 2 rfl) ?_
  refine lv_iconst (v := 0) hx hb dX5_step_6 (by decide) ?_
  refine lv_iconst (v := 2) hx hb dX5_step_7 (by decide) ?_
  have hPc := hP.sub (ws' := []) [] rfl
  have hDc := hD.sub (ws' := []) [] (by decide) rfl
  have hKc := hK.sub (tys' := []) [] rfl
  have hFc := va_free (wc := []) hD hS hA [] rfl
  refine va_calli (va_runS (As := [.int i1, .int 0, .int 2]) (rest := [.int 1, .ref h0]) ⟨hx, hb, hml, hown, hts⟩ (kx_X5_isIn_23 l dC dI H.size i1 i1_l i1_u) (cwS 3 hts gX5_step_X5_isIn rfl rfl rfl (by decide +kernel) ⟨Nat.le_of_ble_eq_true rfl, Nat.le_of_ble_eq_true rfl⟩) ⟨fun a U g mk q => by obtain ⟨q0, q1, qP, qK, qD⟩ := q; exact ⟨q0, q1, qP, va_K.moved (u := U) (U := U.calling g mk a) (Vm.Alike.refl U.vm) qK, qD⟩, fun U hU hW => ⟨rfl, by rw [hU], by rw [hU]; exact hPc, va_K.moved hW.alike hKc, hDc.weaken (fun _ _ _ _ => trivial)⟩⟩ rfl rfl hl.1 rfl (lv_room (Nat.le_of_ble_eq_true rfl)) dX5_step_8 ⟨Nat.le_of_ble_eq_true rfl, Nat.le_of_ble_eq_true rfl⟩) hS (fun q _ h => hFc q h) hFc (fun r9 u t H1 locs ht hvm hw hB hz1 hk1 hS => ?_)
  obtain rfl := hw
  obtain ⟨hP1, hK1, hD1⟩ := hB
  rw [ht] at hP1
  have hK1 := va_K.moved hvm.symm hK1
  obtain ⟨hP, hD⟩ := va_join (wr := [(h0, .inr (9, [.int 0, .ref z0, .ref z1, .ref z2, .int 0, .int 0, .int 0]))]) (w1 := []) hP hD [] [0] rfl rfl (by decide) (by decide) hk1 hFc hP1 hD1
  generalize H1 = H at hP hS ⊢
  have hP : va_P (dC, dI) vwCl [(h0, .inr (9, [.int 0, .ref z0, .ref z1, .ref z2, .int 0, .int 0, .int 0]))] H := hP
  have hD : va_D A [(h0, .inr (9, [.int 0, .ref z0, .ref z1, .ref z2, .int 0, .int 0, .int 0]))] := hD
  refine lv_if_ne (tgt := 18) hx hb dX5_step_11 (by decide) (fun c9 => absurd (by decide) c9) (fun _ => ?_)
  refine lv_iconst (v := 1) hx hb dX5_step_14 (by decide) ?_
  refine lv_goto (tgt := 19) hx hb dX5_step_15 (by decide) ?_
  refine lv_iconst (v := 0) hx hb dX5_step_19 (by decide) ?_
  have hPc := hP.sub (ws' := [(h0, .inr (9, [.int 0, .ref z0, .ref z1, .ref z2, .int 0, .int 0, .int 0]))]) [0] rfl
  have hDc := hD.sub (ws' := [(h0, .inr (9, [.int 0, .ref z0, .ref z1, .ref z2, .int 0, .int 0, .int 0]))]) [0] (by decide) rfl
  have hKc := hK.sub (tys' := []) [] rfl
  have hFc := va_free (wc := [(h0, .inr (9, [.int 0, .ref z0, .ref z1, .ref z2, .int 0, .int 0, .int 0]))]) hD hS hA [0] rfl
  refine va_calli (va_runV (As := [.int 1, .int 1, .int 0]) (rest := []) ⟨hx, hb, hml, hown, hts⟩ (kx_X5_fails_2 l dC dI h0 z0 z1 z2 H.size) (cwV 3 hts gX5_step_X5_fails rfl rfl rfl (by decide +kernel) ⟨Nat.le_of_ble_eq_true rfl, Nat.le_of_ble_eq_true rfl⟩) ⟨fun a U g mk q => by obtain ⟨q0, q1, qP, qK, qD⟩ := q; exact ⟨q0, q1, qP, va_K.moved (u := U) (U := U.calling g mk a) (Vm.Alike.refl U.vm) qK, qD⟩, va_recv hKc hPc (ci := 9) (q0 := 0) rfl rfl, fun U hU hW => ⟨rfl, by rw [hU], by rw [hU]; exact hPc, va_K.moved hW.alike hKc, hDc.weaken (fun _ _ _ _ => trivial)⟩⟩ rfl rfl hl.1 rfl (lv_room (Nat.le_of_ble_eq_true rfl)) dX5_step_20 ⟨Nat.le_of_ble_eq_true rfl, Nat.le_of_ble_eq_true rfl⟩) hS (fun q _ h => hFc q h) hFc (fun r9 u t H1 locs ht hvm hw hB hz1 hk1 hS => ?_)
  obtain rfl := hw
  obtain ⟨hP1, hK1, hD1⟩ := hB
  rw [ht] at hP1
  have hK1 := va_K.moved hvm.symm hK1
  obtain ⟨hP, hD⟩ := va_join (wr := []) (w1 := [(h0, .inr (9, [.int 1, .ref z0, .ref z1, .ref z2, .int 0, .int 0, .int 0]))]) hP hD [0] [] rfl rfl (by decide) (by decide) hk1 hFc hP1 hD1
  generalize H1 = H at hP hS ⊢
  have hP : va_P (dC, dI) vwCl [(h0, .inr (9, [.int 1, .ref z0, .ref z1, .ref z2, .int 0, .int 0, .int 0]))] H := hP
  have hD : va_D A [(h0, .inr (9, [.int 1, .ref z0, .ref z1, .ref z2, .int 0, .int 0, .int 0]))] := hD
  refine lv_if_eq (tgt := 28) hx hb dX5_step_23 (by decide) (fun c9 => absurd c9 (by decide)) (fun _ => ?_)
  refine lv_iconst (v := 0) hx hb dX5_step_26 (by decide) ?_
  exact W.iret (v := 0) hx hb hr (fun t ht hW => ⟨⟨0, (), rfl, rfl, by rw [ht]; exact hP, va_K.moved hW.alike hK, hD⟩, hS.F ht⟩) hS.2.2 dX5_step_27
set_option maxHeartbeats 4000000 in
set_option maxRecDepth 100000 in
theorem kx_X3_step_9 (l : Launch) (hst : l.stackTraces = false) (dC : Nat → ClassId) (dI : Nat → Nat → Nat) (ge5 gea gv5 gva gde gic gi0 : Nat) (h0 : Nat) (z0 : Nat) (z1 : Nat) (z2 : Nat) (z3 : Nat) (z4 : Nat) (z5 : Nat) (sz : Nat) (i0 : Int32) (i0_l : (4 : Int) ≤ i0.toInt) (i0_u : i0.toInt ≤ (2147483647 : Int)) (i1 : Int32) (i1_l : (0 : Int) ≤ i1.toInt) (i1_u : i1.toInt ≤ (2 : Int)) : vx_Met l yX3_step wsX3_step ({ frames := 7, cells := 1, slots := 6, locals := 140 }) (va_Pc [.ref h0, .int i0, .int i1] (fun U => U.heap.size = sz ∧ va_P (dC, dI) vwCl [(h0, .inr (7, [.ref z0, .ref z1, .ref z2, .ref z3, .ref z4, .ref z5, .int 0, .int 0, .int 0]))] U.heap ∧ va_K (dC, dI) vwCl [] U ∧ va_D (fun _ => True) [(h0, .inr (7, [.ref z0, .ref z1, .ref z2, .ref z3, .ref z4, .ref z5, .int 0, .int 0, .int 0]))] ∧ gv ge5 gea gv5 gva gde gic gi0 (va_A [(h0, .inr (7, [.ref z0, .ref z1, .ref z2, .ref z3, .ref z4, .ref z5, .int 0, .int 0, .int 0]))] sz) U U.heap)) (va_Qi (fun (_ : Int32) (_ : Unit) => False) (fun _ _ => True) (va_A [(h0, .inr (7, [.ref z0, .ref z1, .ref z2, .ref z3, .ref z4, .ref z5, .int 0, .int 0, .int 0]))] sz)) (vx_X (fun _ : Unit => True) (fun (E : String) (_ : Unit) (t : State) => E = "java/lang/IndexOutOfBoundsException" ∧ va_P (dC, dI) vwCl [(h0, .inr (7, [.ref z0, .ref z1, .ref z2, .ref z3, .ref z4, .ref z5, .int 0, .int 0, .int 0]))] t.heap ∧ va_K (dC, dI) vwCl [] t ∧ va_D (va_A [(h0, .inr (7, [.ref z0, .ref z1, .ref z2, .ref z3, .ref z4, .ref z5, .int 0, .int 0, .int 0]))] sz) [(h0, .inr (7, [.ref z0, .ref z1, .ref z2, .ref z3, .ref z4, .ref z5, .int 0, .int 0, .int 0]))]) (va_A [(h0, .inr (7, [.ref z0, .ref z1, .ref z2, .ref z3, .ref z4, .ref z5, .int 0, .int 0, .int 0]))] sz)) 1 6 (va_A [(h0, .inr (7, [.ref z0, .ref z1, .ref z2, .ref z3, .ref z4, .ref z5, .int 0, .int 0, .int 0]))] sz) := by
  refine vx_ofW (cc := cX3_step) (maxL := 4) (ret := (some .int)) (by decide) rfl ?_
  intro p e s m args below meth c s₁ B hml ht9 hv
  obtain ⟨rfl, hsz, hP, hK, hD0, hG⟩ := hv
  have hx := B.exec
  have hb := B.bytes
  have hr := B.returns
  have hts := atoms_spec (ws := wsX3_step) B.pre
  have hown : s.vm.findClass RX3 = some m.cls := findClass_of_methodNamed B.named
  have hlocks := B.notSynchronized
  subst hsz
  have hD := hD0.self (sz := s.heap.size)
  generalize hAe : va_A [(h0, .inr (7, [.ref z0, .ref z1, .ref z2, .ref z3, .ref z4, .ref z5, .int 0, .int 0, .int 0]))] s.heap.size = A at hD hG ⊢
  obtain ⟨⟨g_AO_Text, g_AO_String, g_AO_Object, g_nm_RX1_20, g_nm_RX0_17, g_nm_RX3_31, g_nm_RX2_44, g_nm_RL_121, g_nf_RL_13, g_nf_RL_47, g_ca_IO, g_ca_IA, g_ca_IS, g_ca_IntObj, g_ca_StrObj, g_de_RT, g_de_EX, g_de_TH, g_nc_IA_IO, g_nc_IS_IO, g_nc_IS_IA⟩, ⟨g_s3, g_s5, g_sa, g_x278, g_x280, g_x282, g_x284, g_x286, g_x180, g_x238, g_x250⟩, ⟨g_o5, g_c5, g_v5, g_t5, g_oa, g_ca, g_va, g_ta, g_zc, g_zd, g_td, g_zf, g_zU, g_zN, g_zh, g_zk, g_tk, g_oi, g_vi⟩⟩ := id hG
  have hA : ∀ q : Nat, s.heap.size ≤ q → A q := fun q h => by rw [← hAe]; exact Or.inr h
  have hS : va_S A s.heap s.heap [] := va_S.rf
  have hP : va_P (dC, dI) vwCl [(h0, .inr (7, [.ref z0, .ref z1, .ref z2, .ref z3, .ref z4, .ref z5, .int 0, .int 0, .int 0]))] s.heap := hP
  have hl := lv_entry ([.ref h0, .int i0, .int i1]) (n := 4) (Nat.le_of_ble_eq_true rfl)
  rw [lg_entry_eq]
  generalize (lg_sl ([.ref h0, .int i0, .int i1]) ++ List.replicate (4 - (lg_sl ([.ref h0, .int i0, .int i1])).length) Slot.unset).toArray = ls at hl ⊢
  have hl : lv_has ls 4 [(0, .ref h0), (1, .int i0), (2, .int i1)] := hl
  refine lv_iload_n hx hb dX3_step_0 rfl (lv_at hl 1 rfl) ?_
  have hPc := hP.sub (ws' := []) [] rfl
  have hDc := hD.sub (ws' := []) [] (by decide) rfl
  have hKc := hK.sub (tys' := []) [] rfl
  have hFc := va_free (wc := []) hD hS hA [] rfl
  refine vx_callv (vx_runS (As := [.int i0]) (rest := []) ⟨hx, hb, hml, hown, hts⟩ (kx_X3_needRope_6 l hst dC dI ge5 gea gv5 gva gde gic gi0 s.heap.size i0 i0_l i0_u) (cwS 1 hts gX3_step_X3_needRope rfl rfl rfl (by decide +kernel) ⟨Nat.le_of_ble_eq_true rfl, Nat.le_of_ble_eq_true rfl⟩) ⟨fun a U g mk q => by obtain ⟨q0, q1, qP, qK, qD, qG⟩ := q; exact ⟨q0, q1, qP, va_K.moved (u := U) (U := U.calling g mk a) (Vm.Alike.refl U.vm) qK, qD, gv.fb qG⟩, fun U hU hW => ⟨rfl, by rw [hU], by rw [hU]; exact hPc, va_K.moved hW.alike hKc, hDc.weaken (fun _ _ _ _ => trivial), gv.pass hW hU hS hFc hG⟩⟩ rfl rfl hl.1 rfl (lv_room (Nat.le_of_ble_eq_true rfl)) dX3_step_1 ⟨Nat.le_of_ble_eq_true rfl, Nat.le_of_ble_eq_true rfl⟩) hS (fun q _ h => hFc q h) hFc (fun q _ h => hFc q h) (fun E ce q9 u t H1 locs ht hvm hpx hB hz1 hk1 hS hce hcv hcl => ?_) (fun u t H1 locs ht hvm hw hB hz1 hk1 hS => hw.elim)
  obtain ⟨rfl, hP1, hK1, hD1⟩ := hB
  rw [ht] at hP1
  have hK1 := va_K.moved hvm.symm hK1
  obtain ⟨hP, hD⟩ := va_join (wr := [(h0, .inr (7, [.ref z0, .ref z1, .ref z2, .ref z3, .ref z4, .ref z5, .int 0, .int 0, .int 0]))]) (w1 := []) hP hD [] [0] rfl rfl (by decide) (by decide) hk1 hFc hP1 hD1
  generalize H1 = H at hP hS hce ⊢
  have hP : va_P (dC, dI) vwCl [(h0, .inr (7, [.ref z0, .ref z1, .ref z2, .ref z3, .ref z4, .ref z5, .int 0, .int 0, .int 0]))] H := hP
  have hD : va_D A [(h0, .inr (7, [.ref z0, .ref z1, .ref z2, .ref z3, .ref z4, .ref z5, .int 0, .int 0, .int 0]))] := hD
  exact vx_out (fun x hx9 => (ht9 x hx9).elim) hlocks hce hcv hcl (fun t ht hW => ⟨(), trivial, ⟨rfl, by rw [ht]; exact hP, va_K.moved hW hK, hD⟩, hS.F ht⟩) hS.2.2 (by omega) (by omega)
set_option maxHeartbeats 4000000 in
set_option maxRecDepth 100000 in
theorem kx_L_step_6 (l : Launch) (hst : l.stackTraces = false) (dC : Nat → ClassId) (dI : Nat → Nat → Nat) (ge5 gea gv5 gva gde gic gi0 : Nat) (h0 : Nat) (z0 : Nat) (z1 : Nat) (z2 : Nat) (z3 : Nat) (z4 : Nat) (z5 : Nat) (z6 : Nat) (sz : Nat) (i0 : Int32) (i0_l : (4 : Int) ≤ i0.toInt) (i0_u : i0.toInt ≤ (2147483647 : Int)) (i1 : Int32) (i1_l : (0 : Int) ≤ i1.toInt) (i1_u : i1.toInt ≤ (2 : Int)) : Met l yL_step wsL_step ({ frames := 8, cells := 1, slots := 6, locals := 163 }) (va_Pc [.ref h0, .int i0, .int i1, .ref z0] (fun U => U.heap.size = sz ∧ va_P (dC, dI) vwCl [(h0, .inr (7, [.ref z1, .ref z2, .ref z3, .ref z4, .ref z5, .ref z6, .int 0, .int 0, .int 0]))] U.heap ∧ va_K (dC, dI) vwCl [] U ∧ va_D (fun _ => True) [(h0, .inr (7, [.ref z1, .ref z2, .ref z3, .ref z4, .ref z5, .ref z6, .int 0, .int 0, .int 0]))] ∧ gv ge5 gea gv5 gva gde gic gi0 (va_A [(h0, .inr (7, [.ref z1, .ref z2, .ref z3, .ref z4, .ref z5, .ref z6, .int 0, .int 0, .int 0]))] sz) U U.heap)) (va_Qi (fun (r : Int32) (_ : Unit) => r = 1) (fun (_ : Unit) (t : State) => va_P (dC, dI) vwCl [(h0, .inr (7, [.ref z1, .ref z2, .ref z3, .ref z4, .ref z5, .ref z6, .int 0, .int 0, .int 0]))] t.heap ∧ va_K (dC, dI) vwCl [] t ∧ va_D (va_A [(h0, .inr (7, [.ref z1, .ref z2, .ref z3, .ref z4, .ref z5, .ref z6, .int 0, .int 0, .int 0]))] sz) [(h0, .inr (7, [.ref z1, .ref z2, .ref z3, .ref z4, .ref z5, .ref z6, .int 0, .int 0, .int 0]))]) (va_A [(h0, .inr (7, [.ref z1, .ref z2, .ref z3, .ref z4, .ref z5, .ref z6, .int 0, .int 0, .int 0]))] sz)) 1 6 (va_A [(h0, .inr (7, [.ref z1, .ref z2, .ref z3, .ref z4, .ref z5, .ref z6, .int 0, .int 0, .int 0]))] sz) := by
  refine kz_ofWH (cc := cL_step) (maxL := 5) (ret := (some .int)) (hh := [(0, 11, 14, 19), (0, 11, 18, 21)]) (by decide) rfl ?_
  intro p e s m args below meth c s₁ B hml hv
  obtain ⟨rfl, hsz, hP, hK, hD0, hG⟩ := hv
  have hx := B.exec
  have hb := B.bytes
  have hr := B.returns
  have hts := atoms_spec (ws := wsL_step) B.pre
  have hown : s.vm.findClass RL = some m.cls := findClass_of_methodNamed B.named
  have htab := vx_table (x := yL_step) B (hts (.codeWith yL_step cL_step 5 (some .int) [(0, 11, 14, 19), (0, 11, 18, 21)]) (by decide +kernel))
  have hlocks := B.notSynchronized
  subst hsz
  have hD := hD0.self (sz := s.heap.size)
  generalize hAe : va_A [(h0, .inr (7, [.ref z1, .ref z2, .ref z3, .ref z4, .ref z5, .ref z6, .int 0, .int 0, .int 0]))] s.heap.size = A at hD hG ⊢
  obtain ⟨⟨g_AO_Text, g_AO_String, g_AO_Object, g_nm_RX1_20, g_nm_RX0_17, g_nm_RX3_31, g_nm_RX2_44, g_nm_RL_121, g_nf_RL_13, g_nf_RL_47, g_ca_IO, g_ca_IA, g_ca_IS, g_ca_IntObj, g_ca_StrObj, g_de_RT, g_de_EX, g_de_TH, g_nc_IA_IO, g_nc_IS_IO, g_nc_IS_IA⟩, ⟨g_s3, g_s5, g_sa, g_x278, g_x280, g_x282, g_x284, g_x286, g_x180, g_x238, g_x250⟩, ⟨g_o5, g_c5, g_v5, g_t5, g_oa, g_ca, g_va, g_ta, g_zc, g_zd, g_td, g_zf, g_zU, g_zN, g_zh, g_zk, g_tk, g_oi, g_vi⟩⟩ := id hG
  have hA : ∀ q : Nat, s.heap.size ≤ q → A q := fun q h => by rw [← hAe]; exact Or.inr h
  have hS : va_S A s.heap s.heap [] := va_S.rf
  have hP : va_P (dC, dI) vwCl [(h0, .inr (7, [.ref z1, .ref z2, .ref z3, .ref z4, .ref z5, .ref z6, .int 0, .int 0, .int 0]))] s.heap := hP
  have hl := lv_entry ([.ref h0, .int i0, .int i1, .ref z0]) (n := 5) (Nat.le_of_ble_eq_true rfl)
  rw [lg_entry_eq]
  generalize (lg_sl ([.ref h0, .int i0, .int i1, .ref z0]) ++ List.replicate (5 - (lg_sl ([.ref h0, .int i0, .int i1, .ref z0])).length) Slot.unset).toArray = ls at hl ⊢
  have hl : lv_has ls 5 [(0, .ref h0), (1, .int i0), (2, .int i1), (3, .ref z0)] := hl
  refine lv_aload_n hx hb dL_step_0 rfl (lv_at hl 3 rfl) ?_
  refine lv_aload_n hx hb dL_step_1 rfl (lv_at hl 0 rfl) ?_
  refine lv_iload_n hx hb dL_step_2 rfl (lv_at hl 1 rfl) ?_
  refine lv_iload_n hx hb dL_step_3 rfl (lv_at hl 2 rfl) ?_
  have hPc := hP.sub (ws' := [(h0, .inr (7, [.ref z1, .ref z2, .ref z3, .ref z4, .ref z5, .ref z6, .int 0, .int 0, .int 0]))]) [0] rfl
  have hDc := hD.sub (ws' := [(h0, .inr (7, [.ref z1, .ref z2, .ref z3, .ref z4, .ref z5, .ref z6, .int 0, .int 0, .int 0]))]) [0] (by decide) rfl
  have hKc := hK.sub (tys' := []) [] rfl
  have hFc := va_free (wc := [(h0, .inr (7, [.ref z1, .ref z2, .ref z3, .ref z4, .ref z5, .ref z6, .int 0, .int 0, .int 0]))]) hD hS hA [0] rfl
  refine vx_calli (vx_runV (As := [.int i0, .int i1]) (rest := [.ref z0]) ⟨hx, hb, hml, hown, hts⟩ (kx_X3_step_9 l hst dC dI ge5 gea gv5 gva gde gic gi0 h0 z1 z2 z3 z4 z5 z6 s.heap.size i0 i0_l i0_u i1 i1_l i1_u) (cwV 2 hts gL_step_X3_step rfl rfl rfl (by decide +kernel) ⟨Nat.le_of_ble_eq_true rfl, Nat.le_of_ble_eq_true rfl⟩) ⟨fun a U g mk q => by obtain ⟨q0, q1, qP, qK, qD, qG⟩ := q; exact ⟨q0, q1, qP, va_K.moved (u := U) (U := U.calling g mk a) (Vm.Alike.refl U.vm) qK, qD, gv.fb qG⟩, va_recv hKc hPc (ci := 7) (q0 := 0) rfl rfl, fun U hU hW => ⟨rfl, by rw [hU], by rw [hU]; exact hPc, va_K.moved hW.alike hKc, hDc.weaken (fun _ _ _ _ => trivial), gv.pass hW hU hS hFc hG⟩⟩ rfl rfl hl.1 rfl (lv_room (Nat.le_of_ble_eq_true rfl)) dL_step_4 ⟨Nat.le_of_ble_eq_true rfl, Nat.le_of_ble_eq_true rfl⟩) hS (fun q _ h => hFc q h) hFc (fun q _ h => hFc q h) (fun E ce q9 u t H1 locs ht hvm hpx hB hz1 hk1 hS hce hcv hcl => ?_) (fun r9 u t H1 locs ht hvm hw hB hz1 hk1 hS => hw.elim)
  obtain ⟨rfl, hP1, hK1, hD1⟩ := hB
  rw [ht] at hP1
  have hK1 := va_K.moved hvm.symm hK1
  obtain ⟨hP, hD⟩ := va_join (wr := []) (w1 := [(h0, .inr (7, [.ref z1, .ref z2, .ref z3, .ref z4, .ref z5, .ref z6, .int 0, .int 0, .int 0]))]) hP hD [0] [] rfl rfl (by decide) (by decide) hk1 hFc hP1 hD1
  generalize H1 = H at hP hS hce ⊢
  have hP : va_P (dC, dI) vwCl [(h0, .inr (7, [.ref z1, .ref z2, .ref z3, .ref z4, .ref z5, .ref z6, .int 0, .int 0, .int 0]))] H := hP
  have hD : va_D A [(h0, .inr (7, [.ref z1, .ref z2, .ref z3, .ref z4, .ref z5, .ref z6, .int 0, .int 0, .int 0]))] := hD
  refine vx_catch (own := RL) (name := "java/lang/IndexOutOfBoundsException") hown (tableOf []) ⟨0, 11, 14, 19⟩ (tableOf [(0, 11, 18, 21)]) (by rw [htab]; rfl) (fun z hz => nomatch hz) (by decide +kernel) (by decide) (hts (.classLink RL 19 "java/lang/IndexOutOfBoundsException") (by decide +kernel)) (va_Nw.use rfl g_ca_IO) hce hcv hcl ?_
  refine W.eq (g2 := F0 m 14 ls [.ref q9]) rfl ?_
  refine lv_astore (lv' := [(4, .ref q9), (0, .ref h0), (1, .int i0), (2, .int i1), (3, .ref z0)]) hx hb dL_step_14 hl (by decide) rfl (fun ls hl => ?_)
  refine lv_iconst (v := 1) hx hb dL_step_16 (by decide) ?_
  exact W.iret (v := 1) hx hb hr (fun t ht hW => ⟨⟨1, (), rfl, rfl, by rw [ht]; exact hP, va_K.moved hW.alike hK, hD⟩, hS.F ht⟩) hS.2.2 dL_step_17
set_option maxHeartbeats 4000000 in
set_option maxRecDepth 100000 in
theorem kx_X5_step_6 (l : Launch) (dC : Nat → ClassId) (dI : Nat → Nat → Nat) (h0 : Nat) (z0 : Nat) (z1 : Nat) (z2 : Nat) (sz : Nat) (i0 : Int32) (i0_l : (4 : Int) ≤ i0.toInt) (i0_u : i0.toInt ≤ (2147483647 : Int)) (i1 : Int32) (i1_l : (0 : Int) ≤ i1.toInt) (i1_u : i1.toInt ≤ (2 : Int)) : Met l yX5_step wsX5_step ({ frames := 2, cells := 0, slots := 0, locals := 42 }) (va_Pc [.ref h0, .int i0, .int i1] (fun U => U.heap.size = sz ∧ va_P (dC, dI) vwCl [(h0, .inr (9, [.int 0, .ref z0, .ref z1, .ref z2, .int 0, .int 0, .int 0]))] U.heap ∧ va_K (dC, dI) vwCl [] U ∧ va_D (fun _ => True) [(h0, .inr (9, [.int 0, .ref z0, .ref z1, .ref z2, .int 0, .int 0, .int 0]))])) (va_Qi (fun (r : Int32) (_ : Unit) => r = 0) (fun (_ : Unit) (t : State) => va_P (dC, dI) vwCl [(h0, .inr (9, [.int 1, .ref z0, .ref z1, .ref z2, .int 0, .int 0, .int 0]))] t.heap ∧ va_K (dC, dI) vwCl [] t ∧ va_D (va_A [(h0, .inr (9, [.int 0, .ref z0, .ref z1, .ref z2, .int 0, .int 0, .int 0]))] sz) [(h0, .inr (9, [.int 1, .ref z0, .ref z1, .ref z2, .int 0, .int 0, .int 0]))]) (va_A [(h0, .inr (9, [.int 0, .ref z0, .ref z1, .ref z2, .int 0, .int 0, .int 0]))] sz)) 0 0 (va_A [(h0, .inr (9, [.int 0, .ref z0, .ref z1, .ref z2, .int 0, .int 0, .int 0]))] sz) := by
  refine Met.ofW (cc := cX5_step) (maxL := 5) (ret := (some .int)) (by decide) rfl ?_
  intro p e s m args below meth c s₁ B hml hv
  obtain ⟨rfl, hsz, hP, hK, hD0⟩ := hv
  have hx := B.exec
  have hb := B.bytes
  have hr := B.returns
  have hts := atoms_spec (ws := wsX5_step) B.pre
  have hown : s.vm.findClass RX5 = some m.cls := findClass_of_methodNamed B.named
  have hlocks := B.notSynchronized
  subst hsz
  have hD := hD0.self (sz := s.heap.size)
  generalize hAe : va_A [(h0, .inr (9, [.int 0, .ref z0, .ref z1, .ref z2, .int 0, .int 0, .int 0]))] s.heap.size = A at hD ⊢
  have hA : ∀ q : Nat, s.heap.size ≤ q → A q := fun q h => by rw [← hAe]; exact Or.inr h
  have hS : va_S A s.heap s.heap [] := va_S.rf
  have hP : va_P (dC, dI) vwCl [(h0, .inr (9, [.int 0, .ref z0, .ref z1, .ref z2, .int 0, .int 0, .int 0]))] s.heap := hP
  have hl := lv_entry ([.ref h0, .int i0, .int i1]) (n := 5) (Nat.le_of_ble_eq_true rfl)
  rw [lg_entry_eq]
  generalize (lg_sl ([.ref h0, .int i0, .int i1]) ++ List.replicate (5 - (lg_sl ([.ref h0, .int i0, .int i1])).length) Slot.unset).toArray = ls at hl ⊢
  have hl : lv_has ls 5 [(0, .ref h0), (1, .int i0), (2, .int i1)] := hl
  refine lv_aload_n hx hb dX5_step_0 rfl (lv_at hl 0 rfl) ?_
  refine lv_iload_n hx hb dX5_step_1 rfl (lv_at hl 1 rfl) ?_
  have hPc := hP.sub (ws' := []) [] rfl
  have hDc := hD.sub (ws' := []) [] (by decide) rfl
  have hKc := hK.sub (tys' := []) [] rfl
  have hFc := va_free (wc := []) hD hS hA [] rfl
  refine va_calli (va_runS (As := [.int i0]) (rest := [.ref h0]) ⟨hx, hb, hml, hown, hts⟩ (kx_X5_isNo_2 l dC dI s.heap.size i0 i0_l i0_u) (cwS 1 hts gX5_step_X5_isNo rfl rfl rfl (by decide +kernel) ⟨Nat.le_of_ble_eq_true rfl, Nat.le_of_ble_eq_true rfl⟩) ⟨fun a U g mk q => by obtain ⟨q0, q1, qP, qK, qD⟩ := q; exact ⟨q0, q1, qP, va_K.moved (u := U) (U := U.calling g mk a) (Vm.Alike.refl U.vm) qK, qD⟩, fun U hU hW => ⟨rfl, by rw [hU], by rw [hU]; exact hPc, va_K.moved hW.alike hKc, hDc.weaken (fun _ _ _ _ => trivial)⟩⟩ rfl rfl hl.1 rfl (lv_room (Nat.le_of_ble_eq_true rfl)) dX5_step_2 ⟨Nat.le_of_ble_eq_true rfl, Nat.le_of_ble_eq_true rfl⟩) hS (fun q _ h => hFc q h) hFc (fun r9 u t H1 locs ht hvm hw hB hz1 hk1 hS => ?_)
  obtain rfl := hw
  obtain ⟨hP1, hK1, hD1⟩ := hB
  rw [ht] at hP1
  have hK1 := va_K.moved hvm.symm hK1
  obtain ⟨hP, hD⟩ := va_join (wr := [(h0, .inr (9, [.int 0, .ref z0, .ref z1, .ref z2, .int 0, .int 0, .int 0]))]) (w1 := []) hP hD [] [0] rfl rfl (by decide) (by decide) hk1 hFc hP1 hD1
  generalize H1 = H at hP hS ⊢
  have hP : va_P (dC, dI) vwCl [(h0, .inr (9, [.int 0, .ref z0, .ref z1, .ref z2, .int 0, .int 0, .int 0]))] H := hP
  have hD : va_D A [(h0, .inr (9, [.int 0, .ref z0, .ref z1, .ref z2, .int 0, .int 0, .int 0]))] := hD
  refine lv_iload_n hx hb dX5_step_5 rfl (lv_at hl 2 rfl) ?_
  refine lv_iconst (v := 0) hx hb dX5_step_6 (by decide) ?_
  refine lv_iconst (v := 2) hx hb dX5_step_7 (by decide) ?_
  have hPc := hP.sub (ws' := []) [] rfl
  have hDc := hD.sub (ws' := []) [] (by decide) rfl
  have hKc := hK.sub (tys' := []) [] rfl
  have hFc := va_free (wc := []) hD hS hA [] rfl
  refine va_calli (va_runS (As := [.int i1, .int 0, .int 2]) (rest := [.int 1, .ref h0]) ⟨hx, hb, hml, hown, hts⟩ (kx_X5_isIn_21 l dC dI H.size i1 i1_l i1_u) (cwS 3 hts gX5_step_X5_isIn rfl rfl rfl (by decide +kernel) ⟨Nat.le_of_ble_eq_true rfl, Nat.le_of_ble_eq_true rfl⟩) ⟨fun a U g mk q => by obtain ⟨q0, q1, qP, qK, qD⟩ := q; exact ⟨q0, q1, qP, va_K.moved (u := U) (U := U.calling g mk a) (Vm.Alike.refl U.vm) qK, qD⟩, fun U hU hW => ⟨rfl, by rw [hU], by rw [hU]; exact hPc, va_K.moved hW.alike hKc, hDc.weaken (fun _ _ _ _ => trivial)⟩⟩ rfl rfl hl.1 rfl (lv_room (Nat.le_of_ble_eq_true rfl)) dX5_step_8 ⟨Nat.le_of_ble_eq_true rfl, Nat.le_of_ble_eq_true rfl⟩) hS (fun q _ h => hFc q h) hFc (fun r9 u t H1 locs ht hvm hw hB hz1 hk1 hS => ?_)
  obtain rfl := hw
  obtain ⟨hP1, hK1, hD1⟩ := hB
  rw [ht] at hP1
  have hK1 := va_K.moved hvm.symm hK1
  obtain ⟨hP, hD⟩ := va_join (wr := [(h0, .inr (9, [.int 0, .ref z0, .ref z1, .ref z2, .int 0, .int 0, .int 0]))]) (w1 := []) hP hD [] [0] rfl rfl (by decide) (by decide) hk1 hFc hP1 hD1
  generalize H1 = H at hP hS ⊢
  have hP : va_P (dC, dI) vwCl [(h0, .inr (9, [.int 0, .ref z0, .ref z1, .ref z2, .int 0, .int 0, .int 0]))] H := hP
  have hD : va_D A [(h0, .inr (9, [.int 0, .ref z0, .ref z1, .ref z2, .int 0, .int 0, .int 0]))] := hD
  refine lv_if_ne (tgt := 18) hx hb dX5_step_11 (by decide) (fun _ => ?_) (fun c9 => absurd c9 (by decide))
  refine lv_iconst (v := 0) hx hb dX5_step_18 (by decide) ?_
  refine lv_iconst (v := 0) hx hb dX5_step_19 (by decide) ?_
  have hPc := hP.sub (ws' := [(h0, .inr (9, [.int 0, .ref z0, .ref z1, .ref z2, .int 0, .int 0, .int 0]))]) [0] rfl
  have hDc := hD.sub (ws' := [(h0, .inr (9, [.int 0, .ref z0, .ref z1, .ref z2, .int 0, .int 0, .int 0]))]) [0] (by decide) rfl
  have hKc := hK.sub (tys' := []) [] rfl
  have hFc := va_free (wc := [(h0, .inr (9, [.int 0, .ref z0, .ref z1, .ref z2, .int 0, .int 0, .int 0]))]) hD hS hA [0] rfl
  refine va_calli (va_runV (As := [.int 1, .int 0, .int 0]) (rest := []) ⟨hx, hb, hml, hown, hts⟩ (kx_X5_fails_0 l dC dI h0 z0 z1 z2 H.size) (cwV 3 hts gX5_step_X5_fails rfl rfl rfl (by decide +kernel) ⟨Nat.le_of_ble_eq_true rfl, Nat.le_of_ble_eq_true rfl⟩) ⟨fun a U g mk q => by obtain ⟨q0, q1, qP, qK, qD⟩ := q; exact ⟨q0, q1, qP, va_K.moved (u := U) (U := U.calling g mk a) (Vm.Alike.refl U.vm) qK, qD⟩, va_recv hKc hPc (ci := 9) (q0 := 0) rfl rfl, fun U hU hW => ⟨rfl, by rw [hU], by rw [hU]; exact hPc, va_K.moved hW.alike hKc, hDc.weaken (fun _ _ _ _ => trivial)⟩⟩ rfl rfl hl.1 rfl (lv_room (Nat.le_of_ble_eq_true rfl)) dX5_step_20 ⟨Nat.le_of_ble_eq_true rfl, Nat.le_of_ble_eq_true rfl⟩) hS (fun q _ h => hFc q h) hFc (fun r9 u t H1 locs ht hvm hw hB hz1 hk1 hS => ?_)
  obtain rfl := hw
  obtain ⟨hP1, hK1, hD1⟩ := hB
  rw [ht] at hP1
  have hK1 := va_K.moved hvm.symm hK1
  obtain ⟨hP, hD⟩ := va_join (wr := []) (w1 := [(h0, .inr (9, [.int 1, .ref z0, .ref z1, .ref z2, .int 0, .int 0, .int 0]))]) hP hD [0] [] rfl rfl (by decide) (by decide) hk1 hFc hP1 hD1
  generalize H1 = H at hP hS ⊢
  have hP : va_P (dC, dI) vwCl [(h0, .inr (9, [.int 1, .ref z0, .ref z1, .ref z2, .int 0, .int 0, .int 0]))] H := hP
  have hD : va_D A [(h0, .inr (9, [.int 1, .ref z0, .ref z1, .ref z2, .int 0, .int 0, .int 0]))] := hD
  refine lv_if_eq (tgt := 28) hx hb dX5_step_23 (by decide) (fun c9 => absurd c9 (by decide)) (fun _ => ?_)
  refine lv_iconst (v := 0) hx hb dX5_step_26 (by decide) ?_
  exact W.iret (v := 0) hx hb hr (fun t ht hW => ⟨⟨0, (), rfl, rfl, by rw [ht]; exact hP, va_K.moved hW.alike hK, hD⟩, hS.F ht⟩) hS.2.2 dX5_step_27
set_option maxHeartbeats 4000000 in
set_option maxRecDepth 100000 in
theorem kx_X3_step_10 (l : Launch) (hst : l.stackTraces = false) (dC : Nat → ClassId) (dI : Nat → Nat → Nat) (ge5 gea gv5 gva gde gic gi0 : Nat) (h0 : Nat) (z0 : Nat) (z1 : Nat) (z2 : Nat) (z3 : Nat) (z4 : Nat) (z5 : Nat) (sz : Nat) (i0 : Int32) (i0_l : (4 : Int) ≤ i0.toInt) (i0_u : i0.toInt ≤ (2147483647 : Int)) (i1 : Int32) (i1_l : ((-2147483648) : Int) ≤ i1.toInt) (i1_u : i1.toInt ≤ ((-1) : Int)) : vx_Met l yX3_step wsX3_step ({ frames := 7, cells := 1, slots := 6, locals := 140 }) (va_Pc [.ref h0, .int i0, .int i1] (fun U => U.heap.size = sz ∧ va_P (dC, dI) vwCl [(h0, .inr (7, [.ref z0, .ref z1, .ref z2, .ref z3, .ref z4, .ref z5, .int 0, .int 0, .int 0]))] U.heap ∧ va_K (dC, dI) vwCl [] U ∧ va_D (fun _ => True) [(h0, .inr (7, [.ref z0, .ref z1, .ref z2, .ref z3, .ref z4, .ref z5, .int 0, .int 0, .int 0]))] ∧ gv ge5 gea gv5 gva gde gic gi0 (va_A [(h0, .inr (7, [.ref z0, .ref z1, .ref z2, .ref z3, .ref z4, .ref z5, .int 0, .int 0, .int 0]))] sz) U U.heap)) (va_Qi (fun (_ : Int32) (_ : Unit) => False) (fun _ _ => True) (va_A [(h0, .inr (7, [.ref z0, .ref z1, .ref z2, .ref z3, .ref z4, .ref z5, .int 0, .int 0, .int 0]))] sz)) (vx_X (fun _ : Unit => True) (fun (E : String) (_ : Unit) (t : State) => E = "java/lang/IndexOutOfBoundsException" ∧ va_P (dC, dI) vwCl [(h0, .inr (7, [.ref z0, .ref z1, .ref z2, .ref z3, .ref z4, .ref z5, .int 0, .int 0, .int 0]))] t.heap ∧ va_K (dC, dI) vwCl [] t ∧ va_D (va_A [(h0, .inr (7, [.ref z0, .ref z1, .ref z2, .ref z3, .ref z4, .ref z5, .int 0, .int 0, .int 0]))] sz) [(h0, .inr (7, [.ref z0, .ref z1, .ref z2, .ref z3, .ref z4, .ref z5, .int 0, .int 0, .int 0]))]) (va_A [(h0, .inr (7, [.ref z0, .ref z1, .ref z2, .ref z3, .ref z4, .ref z5, .int 0, .int 0, .int 0]))] sz)) 1 6 (va_A [(h0, .inr (7, [.ref z0, .ref z1, .ref z2, .ref z3, .ref z4, .ref z5, .int 0, .int 0, .int 0]))] sz) := by
  refine vx_ofW (cc := cX3_step) (maxL := 4) (ret := (some .int)) (by decide) rfl ?_
  intro p e s m args below meth c s₁ B hml ht9 hv
  obtain ⟨rfl, hsz, hP, hK, hD0, hG⟩ := hv
  have hx := B.exec
  have hb := B.bytes
  have hr := B.returns
  have hts := atoms_spec (ws := wsX3_step) B.pre
  have hown : s.vm.findClass RX3 = some m.cls := findClass_of_methodNamed B.named
  have hlocks := B.notSynchronized
  subst hsz
  have hD := hD0.self (sz := s.heap.size)
  generalize hAe : va_A [(h0, .inr (7, [.ref z0, .ref z1, .ref z2, .ref z3, .ref z4, .ref z5, .int 0, .int 0, .int 0]))] s.heap.size = A at hD hG ⊢
  obtain ⟨⟨g_AO_Text, g_AO_String, g_AO_Object, g_nm_RX1_20, g_nm_RX0_17, g_nm_RX3_31, g_nm_RX2_44, g_nm_RL_121, g_nf_RL_13, g_nf_RL_47, g_ca_IO, g_ca_IA, g_ca_IS, g_ca_IntObj, g_ca_StrObj, g_de_RT, g_de_EX, g_de_TH, g_nc_IA_IO, g_nc_IS_IO, g_nc_IS_IA⟩, ⟨g_s3, g_s5, g_sa, g_x278, g_x280, g_x282, g_x284, g_x286, g_x180, g_x238, g_x250⟩, ⟨g_o5, g_c5, g_v5, g_t5, g_oa, g_ca, g_va, g_ta, g_zc, g_zd, g_td, g_zf, g_zU, g_zN, g_zh, g_zk, g_tk, g_oi, g_vi⟩⟩ := id hG
  have hA : ∀ q : Nat, s.heap.size ≤ q → A q := fun q h => by rw [← hAe]; exact Or.inr h
  have hS : va_S A s.heap s.heap [] := va_S.rf
  have hP : va_P (dC, dI) vwCl [(h0, .inr (7, [.ref z0, .ref z1, .ref z2, .ref z3, .ref z4, .ref z5, .int 0, .int 0, .int 0]))] s.heap := hP
  have hl := lv_entry ([.ref h0, .int i0, .int i1]) (n := 4) (Nat.le_of_ble_eq_true rfl)
  rw [lg_entry_eq]
  generalize (lg_sl ([.ref h0, .int i0, .int i1]) ++ List.replicate (4 - (lg_sl ([.ref h0, .int i0, .int i1])).length) Slot.unset).toArray = ls at hl ⊢
  have hl : lv_has ls 4 [(0, .ref h0), (1, .int i0), (2, .int i1)] := hl
  refine lv_iload_n hx hb dX3_step_0 rfl (lv_at hl 1 rfl) ?_
  have hPc := hP.sub (ws' := []) [] rfl
  have hDc := hD.sub (ws' := []) [] (by decide) rfl
  have hKc := hK.sub (tys' := []) [] rfl
  have hFc := va_free (wc := []) hD hS hA [] rfl
  refine vx_callv (vx_runS (As := [.int i0]) (rest := []) ⟨hx, hb, hml, hown, hts⟩ (kx_X3_needRope_6 l hst dC dI ge5 gea gv5 gva gde gic gi0 s.heap.size i0 i0_l i0_u) (cwS 1 hts gX3_step_X3_needRope rfl rfl rfl (by decide +kernel) ⟨Nat.le_of_ble_eq_true rfl, Nat.le_of_ble_eq_true rfl⟩) ⟨fun a U g mk q => by obtain ⟨q0, q1, qP, qK, qD, qG⟩ := q; exact ⟨q0, q1, qP, va_K.moved (u := U) (U := U.calling g mk a) (Vm.Alike.refl U.vm) qK, qD, gv.fb qG⟩, fun U hU hW => ⟨rfl, by rw [hU], by rw [hU]; exact hPc, va_K.moved hW.alike hKc, hDc.weaken (fun _ _ _ _ => trivial), gv.pass hW hU hS hFc hG⟩⟩ rfl rfl hl.1 rfl (lv_room (Nat.le_of_ble_eq_true rfl)) dX3_step_1 ⟨Nat.le_of_ble_eq_true rfl, Nat.le_of_ble_eq_true rfl⟩) hS (fun q _ h => hFc q h) hFc (fun q _ h => hFc q h) (fun E ce q9 u t H1 locs ht hvm hpx hB hz1 hk1 hS hce hcv hcl => ?_) (fun u t H1 locs ht hvm hw hB hz1 hk1 hS => hw.elim)
  obtain ⟨rfl, hP1, hK1, hD1⟩ := hB
  rw [ht] at hP1
  have hK1 := va_K.moved hvm.symm hK1
  obtain ⟨hP, hD⟩ := va_join (wr := [(h0, .inr (7, [.ref z0, .ref z1, .ref z2, .ref z3, .ref z4, .ref z5, .int 0, .int 0, .int 0]))]) (w1 := []) hP hD [] [0] rfl rfl (by decide) (by decide) hk1 hFc hP1 hD1
  generalize H1 = H at hP hS hce ⊢
  have hP : va_P (dC, dI) vwCl [(h0, .inr (7, [.ref z0, .ref z1, .ref z2, .ref z3, .ref z4, .ref z5, .int 0, .int 0, .int 0]))] H := hP
  have hD : va_D A [(h0, .inr (7, [.ref z0, .ref z1, .ref z2, .ref z3, .ref z4, .ref z5, .int 0, .int 0, .int 0]))] := hD
  exact vx_out (fun x hx9 => (ht9 x hx9).elim) hlocks hce hcv hcl (fun t ht hW => ⟨(), trivial, ⟨rfl, by rw [ht]; exact hP, va_K.moved hW hK, hD⟩, hS.F ht⟩) hS.2.2 (by omega) (by omega)
set_option maxHeartbeats 4000000 in
set_option maxRecDepth 100000 in
theorem kx_L_step_7 (l : Launch) (hst : l.stackTraces = false) (dC : Nat → ClassId) (dI : Nat → Nat → Nat) (ge5 gea gv5 gva gde gic gi0 : Nat) (h0 : Nat) (z0 : Nat) (z1 : Nat) (z2 : Nat) (z3 : Nat) (z4 : Nat) (z5 : Nat) (z6 : Nat) (sz : Nat) (i0 : Int32) (i0_l : (4 : Int) ≤ i0.toInt) (i0_u : i0.toInt ≤ (2147483647 : Int)) (i1 : Int32) (i1_l : ((-2147483648) : Int) ≤ i1.toInt) (i1_u : i1.toInt ≤ ((-1) : Int)) : Met l yL_step wsL_step ({ frames := 8, cells := 1, slots := 6, locals := 163 }) (va_Pc [.ref h0, .int i0, .int i1, .ref z0] (fun U => U.heap.size = sz ∧ va_P (dC, dI) vwCl [(h0, .inr (7, [.ref z1, .ref z2, .ref z3, .ref z4, .ref z5, .ref z6, .int 0, .int 0, .int 0]))] U.heap ∧ va_K (dC, dI) vwCl [] U ∧ va_D (fun _ => True) [(h0, .inr (7, [.ref z1, .ref z2, .ref z3, .ref z4, .ref z5, .ref z6, .int 0, .int 0, .int 0]))] ∧ gv ge5 gea gv5 gva gde gic gi0 (va_A [(h0, .inr (7, [.ref z1, .ref z2, .ref z3, .ref z4, .ref z5, .ref z6, .int 0, .int 0, .int 0]))] sz) U U.heap)) (va_Qi (fun (r : Int32) (_ : Unit) => r = 1) (fun (_ : Unit) (t : State) => va_P (dC, dI) vwCl [(h0, .inr (7, [.ref z1, .ref z2, .ref z3, .ref z4, .ref z5, .ref z6, .int 0, .int 0, .int 0]))] t.heap ∧ va_K (dC, dI) vwCl [] t ∧ va_D (va_A [(h0, .inr (7, [.ref z1, .ref z2, .ref z3, .ref z4, .ref z5, .ref z6, .int 0, .int 0, .int 0]))] sz) [(h0, .inr (7, [.ref z1, .ref z2, .ref z3, .ref z4, .ref z5, .ref z6, .int 0, .int 0, .int 0]))]) (va_A [(h0, .inr (7, [.ref z1, .ref z2, .ref z3, .ref z4, .ref z5, .ref z6, .int 0, .int 0, .int 0]))] sz)) 1 6 (va_A [(h0, .inr (7, [.ref z1, .ref z2, .ref z3, .ref z4, .ref z5, .ref z6, .int 0, .int 0, .int 0]))] sz) := by
  refine kz_ofWH (cc := cL_step) (maxL := 5) (ret := (some .int)) (hh := [(0, 11, 14, 19), (0, 11, 18, 21)]) (by decide) rfl ?_
  intro p e s m args below meth c s₁ B hml hv
  obtain ⟨rfl, hsz, hP, hK, hD0, hG⟩ := hv
  have hx := B.exec
  have hb := B.bytes
  have hr := B.returns
  have hts := atoms_spec (ws := wsL_step) B.pre
  have hown : s.vm.findClass RL = some m.cls := findClass_of_methodNamed B.named
  have htab := vx_table (x := yL_step) B (hts (.codeWith yL_step cL_step 5 (some .int) [(0, 11, 14, 19), (0, 11, 18, 21)]) (by decide +kernel))
  have hlocks := B.notSynchronized
  subst hsz
  have hD := hD0.self (sz := s.heap.size)
  generalize hAe : va_A [(h0, .inr (7, [.ref z1, .ref z2, .ref z3, .ref z4, .ref z5, .ref z6, .int 0, .int 0, .int 0]))] s.heap.size = A at hD hG ⊢
  obtain ⟨⟨g_AO_Text, g_AO_String, g_AO_Object, g_nm_RX1_20, g_nm_RX0_17, g_nm_RX3_31, g_nm_RX2_44, g_nm_RL_121, g_nf_RL_13, g_nf_RL_47, g_ca_IO, g_ca_IA, g_ca_IS, g_ca_IntObj, g_ca_StrObj, g_de_RT, g_de_EX, g_de_TH, g_nc_IA_IO, g_nc_IS_IO, g_nc_IS_IA⟩, ⟨g_s3, g_s5, g_sa, g_x278, g_x280, g_x282, g_x284, g_x286, g_x180, g_x238, g_x250⟩, ⟨g_o5, g_c5, g_v5, g_t5, g_oa, g_ca, g_va, g_ta, g_zc, g_zd, g_td, g_zf, g_zU, g_zN, g_zh, g_zk, g_tk, g_oi, g_vi⟩⟩ := id hG
  have hA : ∀ q : Nat, s.heap.size ≤ q → A q := fun q h => by rw [← hAe]; exact Or.inr h
  have hS : va_S A s.heap s.heap [] := va_S.rf
  have hP : va_P (dC, dI) vwCl [(h0, .inr (7, [.ref z1, .ref z2, .ref z3, .ref z4, .ref z5, .ref z6, .int 0, .int 0, .int 0]))] s.heap := hP
  have hl := lv_entry ([.ref h0, .int i0, .int i1, .ref z0]) (n := 5) (Nat.le_of_ble_eq_true rfl)
  rw [lg_entry_eq]
  generalize (lg_sl ([.ref h0, .int i0, .int i1, .ref z0]) ++ List.replicate (5 - (lg_sl ([.ref h0, .int i0, .int i1, .ref z0])).length) Slot.unset).toArray = ls at hl ⊢
  have hl : lv_has ls 5 [(0, .ref h0), (1, .int i0), (2, .int i1), (3, .ref z0)] := hl
  refine lv_aload_n hx hb dL_step_0 rfl (lv_at hl 3 rfl) ?_
  refine lv_aload_n hx hb dL_step_1 rfl (lv_at hl 0 rfl) ?_
  refine lv_iload_n hx hb dL_step_2 rfl (lv_at hl 1 rfl) ?_
  refine lv_iload_n hx hb dL_step_3 rfl (lv_at hl 2 rfl) ?_
  have hPc := hP.sub (ws' := [(h0, .inr (7, [.ref z1, .ref z2, .ref z3, .ref z4, .ref z5, .ref z6, .int 0, .int 0, .int 0]))]) [0] rfl
  have hDc := hD.sub (ws' := [(h0, .inr (7, [.ref z1, .ref z2, .ref z3, .ref z4, .ref z5, .ref z6, .int 0, .int 0, .int 0]))]) [0] (by decide) rfl
  have hKc := hK.sub (tys' := []) [] rfl
  have hFc := va_free (wc := [(h0, .inr (7, [.ref z1, .ref z2, .ref z3, .ref z4, .ref z5, .ref z6, .int 0, .int 0, .int 0]))]) hD hS hA [0] rfl
  refine vx_calli (vx_runV (As := [.int i0, .int i1]) (rest := [.ref z0]) ⟨hx, hb, hml, hown, hts⟩ (kx_X3_step_10 l hst dC dI ge5 gea gv5 gva gde gic gi0 h0 z1 z2 z3 z4 z5 z6 s.heap.size i0 i0_l i0_u i1 i1_l i1_u) (cwV 2 hts gL_step_X3_step rfl rfl rfl (by decide +kernel) ⟨Nat.le_of_ble_eq_true rfl, Nat.le_of_ble_eq_true rfl⟩) ⟨fun a U g mk q => by obtain ⟨q0, q1, qP, qK, qD, qG⟩ := q; exact ⟨q0, q1, qP, va_K.moved (u := U) (U := U.calling g mk a) (Vm.Alike.refl U.vm) qK, qD, gv.fb qG⟩, va_recv hKc hPc (ci := 7) (q0 := 0) rfl rfl, fun U hU hW => ⟨rfl, by rw [hU], by rw [hU]; exact hPc, va_K.moved hW.alike hKc, hDc.weaken (fun _ _ _ _ => trivial), gv.pass hW hU hS hFc hG⟩⟩ rfl rfl hl.1 rfl (lv_room (Nat.le_of_ble_eq_true rfl)) dL_step_4 ⟨Nat.le_of_ble_eq_true rfl, Nat.le_of_ble_eq_true rfl⟩) hS (fun q _ h => hFc q h) hFc (fun q _ h => hFc q h) (fun E ce q9 u t H1 locs ht hvm hpx hB hz1 hk1 hS hce hcv hcl => ?_) (fun r9 u t H1 locs ht hvm hw hB hz1 hk1 hS => hw.elim)
  obtain ⟨rfl, hP1, hK1, hD1⟩ := hB
  rw [ht] at hP1
  have hK1 := va_K.moved hvm.symm hK1
  obtain ⟨hP, hD⟩ := va_join (wr := []) (w1 := [(h0, .inr (7, [.ref z1, .ref z2, .ref z3, .ref z4, .ref z5, .ref z6, .int 0, .int 0, .int 0]))]) hP hD [0] [] rfl rfl (by decide) (by decide) hk1 hFc hP1 hD1
  generalize H1 = H at hP hS hce ⊢
  have hP : va_P (dC, dI) vwCl [(h0, .inr (7, [.ref z1, .ref z2, .ref z3, .ref z4, .ref z5, .ref z6, .int 0, .int 0, .int 0]))] H := hP
  have hD : va_D A [(h0, .inr (7, [.ref z1, .ref z2, .ref z3, .ref z4, .ref z5, .ref z6, .int 0, .int 0, .int 0]))] := hD
  refine vx_catch (own := RL) (name := "java/lang/IndexOutOfBoundsException") hown (tableOf []) ⟨0, 11, 14, 19⟩ (tableOf [(0, 11, 18, 21)]) (by rw [htab]; rfl) (fun z hz => nomatch hz) (by decide +kernel) (by decide) (hts (.classLink RL 19 "java/lang/IndexOutOfBoundsException") (by decide +kernel)) (va_Nw.use rfl g_ca_IO) hce hcv hcl ?_
  refine W.eq (g2 := F0 m 14 ls [.ref q9]) rfl ?_
  refine lv_astore (lv' := [(4, .ref q9), (0, .ref h0), (1, .int i0), (2, .int i1), (3, .ref z0)]) hx hb dL_step_14 hl (by decide) rfl (fun ls hl => ?_)
  refine lv_iconst (v := 1) hx hb dL_step_16 (by decide) ?_
  exact W.iret (v := 1) hx hb hr (fun t ht hW => ⟨⟨1, (), rfl, rfl, by rw [ht]; exact hP, va_K.moved hW.alike hK, hD⟩, hS.F ht⟩) hS.2.2 dL_step_17
set_option maxHeartbeats 4000000 in
set_option maxRecDepth 100000 in
theorem kx_X5_step_7 (l : Launch) (dC : Nat → ClassId) (dI : Nat → Nat → Nat) (h0 : Nat) (z0 : Nat) (z1 : Nat) (z2 : Nat) (sz : Nat) (i0 : Int32) (i0_l : (4 : Int) ≤ i0.toInt) (i0_u : i0.toInt ≤ (2147483647 : Int)) (i1 : Int32) (i1_l : ((-2147483648) : Int) ≤ i1.toInt) (i1_u : i1.toInt ≤ ((-1) : Int)) : Met l yX5_step wsX5_step ({ frames := 2, cells := 0, slots := 0, locals := 42 }) (va_Pc [.ref h0, .int i0, .int i1] (fun U => U.heap.size = sz ∧ va_P (dC, dI) vwCl [(h0, .inr (9, [.int 0, .ref z0, .ref z1, .ref z2, .int 0, .int 0, .int 0]))] U.heap ∧ va_K (dC, dI) vwCl [] U ∧ va_D (fun _ => True) [(h0, .inr (9, [.int 0, .ref z0, .ref z1, .ref z2, .int 0, .int 0, .int 0]))])) (va_Qi (fun (r : Int32) (_ : Unit) => r = 0) (fun (_ : Unit) (t : State) => va_P (dC, dI) vwCl [(h0, .inr (9, [.int 1, .ref z0, .ref z1, .ref z2, .int 0, .int 0, .int 0]))] t.heap ∧ va_K (dC, dI) vwCl [] t ∧ va_D (va_A [(h0, .inr (9, [.int 0, .ref z0, .ref z1, .ref z2, .int 0, .int 0, .int 0]))] sz) [(h0, .inr (9, [.int 1, .ref z0, .ref z1, .ref z2, .int 0, .int 0, .int 0]))]) (va_A [(h0, .inr (9, [.int 0, .ref z0, .ref z1, .ref z2, .int 0, .int 0, .int 0]))] sz)) 0 0 (va_A [(h0, .inr (9, [.int 0, .ref z0, .ref z1, .ref z2, .int 0, .int 0, .int 0]))] sz) := by
  refine Met.ofW (cc := cX5_step) (maxL := 5) (ret := (some .int)) (by decide) rfl ?_
  intro p e s m args below meth c s₁ B hml hv
  obtain ⟨rfl, hsz, hP, hK, hD0⟩ := hv
  have hx := B.exec
  have hb := B.bytes
  have hr := B.returns
  have hts := atoms_spec (ws := wsX5_step) B.pre
  have hown : s.vm.findClass RX5 = some m.cls := findClass_of_methodNamed B.named
  have hlocks := B.notSynchronized
  subst hsz
  have hD := hD0.self (sz := s.heap.size)
  generalize hAe : va_A [(h0, .inr (9, [.int 0, .ref z0, .ref z1, .ref z2, .int 0, .int 0, .int 0]))] s.heap.size = A at hD ⊢
  have hA : ∀ q : Nat, s.heap.size ≤ q → A q := fun q h => by rw [← hAe]; exact Or.inr h
  have hS : va_S A s.heap s.heap [] := va_S.rf
  have hP : va_P (dC, dI) vwCl [(h0, .inr (9, [.int 0, .ref z0, .ref z1, .ref z2, .int 0, .int 0, .int 0]))] s.heap := hP
  have hl := lv_entry ([.ref h0, .int i0, .int i1]) (n := 5) (Nat.le_of_ble_eq_true rfl)
  rw [lg_entry_eq]
  generalize (lg_sl ([.ref h0, .int i0, .int i1]) ++ List.replicate (5 - (lg_sl ([.ref h0, .int i0, .int i1])).length) Slot.unset).toArray = ls at hl ⊢
  have hl : lv_has ls 5 [(0, .ref h0), (1, .int i0), (2, .int i1)] := hl
  refine lv_aload_n hx hb dX5_step_0 rfl (lv_at hl 0 rfl) ?_
  refine lv_iload_n hx hb dX5_step_1 rfl (lv_at hl 1 rfl) ?_
  have hPc := hP.sub (ws' := []) [] rfl
  have hDc := hD.sub (ws' := []) [] (by decide) rfl
  have hKc := hK.sub (tys' := []) [] rfl
  have hFc := va_free (wc := []) hD hS hA [] rfl
  refine va_calli (va_runS (As := [.int i0]) (rest := [.ref h0]) ⟨hx, hb, hml, hown, hts⟩ (kx_X5_isNo_2 l dC dI s.heap.size i0 i0_l i0_u) (cwS 1 hts gX5_step_X5_isNo rfl rfl rfl (by decide +kernel) ⟨Nat.le_of_ble_eq_true rfl, Nat.le_of_ble_eq_true rfl⟩) ⟨fun a U g mk q => by obtain ⟨q0, q1, qP, qK, qD⟩ := q; exact ⟨q0, q1, qP, va_K.moved (u := U) (U := U.calling g mk a) (Vm.Alike.refl U.vm) qK, qD⟩, fun U hU hW => ⟨rfl, by rw [hU], by rw [hU]; exact hPc, va_K.moved hW.alike hKc, hDc.weaken (fun _ _ _ _ => trivial)⟩⟩ rfl rfl hl.1 rfl (lv_room (Nat.le_of_ble_eq_true rfl)) dX5_step_2 ⟨Nat.le_of_ble_eq_true rfl, Nat.le_of_ble_eq_true rfl⟩) hS (fun q _ h => hFc q h) hFc (fun r9 u t H1 locs ht hvm hw hB hz1 hk1 hS => ?_)
  obtain rfl := hw
  obtain ⟨hP1, hK1, hD1⟩ := hB
  rw [ht] at hP1
  have hK1 := va_K.moved hvm.symm hK1
  obtain ⟨hP, hD⟩ := va_join (wr := [(h0, .inr (9, [.int 0, .ref z0, .ref z1, .ref z2, .int 0, .int 0, .int 0]))]) (w1 := []) hP hD [] [0] rfl rfl (by decide) (by decide) hk1 hFc hP1 hD1
  generalize H1 = H at hP hS ⊢
  have hP : va_P (dC, dI) vwCl [(h0, .inr (9, [.int 0, .ref z0, .ref z1, .ref z2, .int 0, .int 0, .int 0]))] H := hP
  have hD : va_D A [(h0, .inr (9, [.int 0, .ref z0, .ref z1, .ref z2, .int 0, .int 0, .int 0]))] := hD
  refine lv_iload_n hx hb dX5_step_5 rfl (lv_at hl 2 rfl) ?_
  refine lv_iconst (v := 0) hx hb dX5_step_6 (by decide) ?_
  refine lv_iconst (v := 2) hx hb dX5_step_7 (by decide) ?_
  have hPc := hP.sub (ws' := []) [] rfl
  have hDc := hD.sub (ws' := []) [] (by decide) rfl
  have hKc := hK.sub (tys' := []) [] rfl
  have hFc := va_free (wc := []) hD hS hA [] rfl
  refine va_calli (va_runS (As := [.int i1, .int 0, .int 2]) (rest := [.int 1, .ref h0]) ⟨hx, hb, hml, hown, hts⟩ (kx_X5_isIn_22 l dC dI H.size i1 i1_l i1_u) (cwS 3 hts gX5_step_X5_isIn rfl rfl rfl (by decide +kernel) ⟨Nat.le_of_ble_eq_true rfl, Nat.le_of_ble_eq_true rfl⟩) ⟨fun a U g mk q => by obtain ⟨q0, q1, qP, qK, qD⟩ := q; exact ⟨q0, q1, qP, va_K.moved (u := U) (U := U.calling g mk a) (Vm.Alike.refl U.vm) qK, qD⟩, fun U hU hW => ⟨rfl, by rw [hU], by rw [hU]; exact hPc, va_K.moved hW.alike hKc, hDc.weaken (fun _ _ _ _ => trivial)⟩⟩ rfl rfl hl.1 rfl (lv_room (Nat.le_of_ble_eq_true rfl)) dX5_step_8 ⟨Nat.le_of_ble_eq_true rfl, Nat.le_of_ble_eq_true rfl⟩) hS (fun q _ h => hFc q h) hFc (fun r9 u t H1 locs ht hvm hw hB hz1 hk1 hS => ?_)
  obtain rfl := hw
  obtain ⟨hP1, hK1, hD1⟩ := hB
  rw [ht] at hP1
  have hK1 := va_K.moved hvm.symm hK1
  obtain ⟨hP, hD⟩ := va_join (wr := [(h0, .inr (9, [.int 0, .ref z0, .ref z1, .ref z2, .int 0, .int 0, .int 0]))]) (w1 := []) hP hD [] [0] rfl rfl (by decide) (by decide) hk1 hFc hP1 hD1
  generalize H1 = H at hP hS ⊢
  have hP : va_P (dC, dI) vwCl [(h0, .inr (9, [.int 0, .ref z0, .ref z1, .ref z2, .int 0, .int 0, .int 0]))] H := hP
  have hD : va_D A [(h0, .inr (9, [.int 0, .ref z0, .ref z1, .ref z2, .int 0, .int 0, .int 0]))] := hD
  refine lv_if_ne (tgt := 18) hx hb dX5_step_11 (by decide) (fun c9 => absurd (by decide) c9) (fun _ => ?_)
  refine lv_iconst (v := 1) hx hb dX5_step_14 (by decide) ?_
  refine lv_goto (tgt := 19) hx hb dX5_step_15 (by decide) ?_
  refine lv_iconst (v := 0) hx hb dX5_step_19 (by decide) ?_
  have hPc := hP.sub (ws' := [(h0, .inr (9, [.int 0, .ref z0, .ref z1, .ref z2, .int 0, .int 0, .int 0]))]) [0] rfl
  have hDc := hD.sub (ws' := [(h0, .inr (9, [.int 0, .ref z0, .ref z1, .ref z2, .int 0, .int 0, .int 0]))]) [0] (by decide) rfl
  have hKc := hK.sub (tys' := []) [] rfl
  have hFc := va_free (wc := [(h0, .inr (9, [.int 0, .ref z0, .ref z1, .ref z2, .int 0, .int 0, .int 0]))]) hD hS hA [0] rfl
  refine va_calli (va_runV (As := [.int 1, .int 1, .int 0]) (rest := []) ⟨hx, hb, hml, hown, hts⟩ (kx_X5_fails_2 l dC dI h0 z0 z1 z2 H.size) (cwV 3 hts gX5_step_X5_fails rfl rfl rfl (by decide +kernel) ⟨Nat.le_of_ble_eq_true rfl, Nat.le_of_ble_eq_true rfl⟩) ⟨fun a U g mk q => by obtain ⟨q0, q1, qP, qK, qD⟩ := q; exact ⟨q0, q1, qP, va_K.moved (u := U) (U := U.calling g mk a) (Vm.Alike.refl U.vm) qK, qD⟩, va_recv hKc hPc (ci := 9) (q0 := 0) rfl rfl, fun U hU hW => ⟨rfl, by rw [hU], by rw [hU]; exact hPc, va_K.moved hW.alike hKc, hDc.weaken (fun _ _ _ _ => trivial)⟩⟩ rfl rfl hl.1 rfl (lv_room (Nat.le_of_ble_eq_true rfl)) dX5_step_20 ⟨Nat.le_of_ble_eq_true rfl, Nat.le_of_ble_eq_true rfl⟩) hS (fun q _ h => hFc q h) hFc (fun r9 u t H1 locs ht hvm hw hB hz1 hk1 hS => ?_)
  obtain rfl := hw
  obtain ⟨hP1, hK1, hD1⟩ := hB
  rw [ht] at hP1
  have hK1 := va_K.moved hvm.symm hK1
  obtain ⟨hP, hD⟩ := va_join (wr := []) (w1 := [(h0, .inr (9, [.int 1, .ref z0, .ref z1, .ref z2, .int 0, .int 0, .int 0]))]) hP hD [0] [] rfl rfl (by decide) (by decide) hk1 hFc hP1 hD1
  generalize H1 = H at hP hS ⊢
  have hP : va_P (dC, dI) vwCl [(h0, .inr (9, [.int 1, .ref z0, .ref z1, .ref z2, .int 0, .int 0, .int 0]))] H := hP
  have hD : va_D A [(h0, .inr (9, [.int 1, .ref z0, .ref z1, .ref z2, .int 0, .int 0, .int 0]))] := hD
  refine lv_if_eq (tgt := 28) hx hb dX5_step_23 (by decide) (fun c9 => absurd c9 (by decide)) (fun _ => ?_)
  refine lv_iconst (v := 0) hx hb dX5_step_26 (by decide) ?_
  exact W.iret (v := 0) hx hb hr (fun t ht hW => ⟨⟨0, (), rfl, rfl, by rw [ht]; exact hP, va_K.moved hW.alike hK, hD⟩, hS.F ht⟩) hS.2.2 dX5_step_27
set_option maxHeartbeats 4000000 in
set_option maxRecDepth 100000 in
theorem kx_X3_step_11 (l : Launch) (hst : l.stackTraces = false) (dC : Nat → ClassId) (dI : Nat → Nat → Nat) (ge5 gea gv5 gva gde gic gi0 : Nat) (h0 : Nat) (z0 : Nat) (z1 : Nat) (z2 : Nat) (z3 : Nat) (z4 : Nat) (z5 : Nat) (sz : Nat) (i0 : Int32) (i0_l : (4 : Int) ≤ i0.toInt) (i0_u : i0.toInt ≤ (2147483647 : Int)) (i1 : Int32) (i1_l : (3 : Int) ≤ i1.toInt) (i1_u : i1.toInt ≤ (2147483647 : Int)) : vx_Met l yX3_step wsX3_step ({ frames := 7, cells := 1, slots := 6, locals := 140 }) (va_Pc [.ref h0, .int i0, .int i1] (fun U => U.heap.size = sz ∧ va_P (dC, dI) vwCl [(h0, .inr (7, [.ref z0, .ref z1, .ref z2, .ref z3, .ref z4, .ref z5, .int 0, .int 0, .int 0]))] U.heap ∧ va_K (dC, dI) vwCl [] U ∧ va_D (fun _ => True) [(h0, .inr (7, [.ref z0, .ref z1, .ref z2, .ref z3, .ref z4, .ref z5, .int 0, .int 0, .int 0]))] ∧ gv ge5 gea gv5 gva gde gic gi0 (va_A [(h0, .inr (7, [.ref z0, .ref z1, .ref z2, .ref z3, .ref z4, .ref z5, .int 0, .int 0, .int 0]))] sz) U U.heap)) (va_Qi (fun (_ : Int32) (_ : Unit) => False) (fun _ _ => True) (va_A [(h0, .inr (7, [.ref z0, .ref z1, .ref z2, .ref z3, .ref z4, .ref z5, .int 0, .int 0, .int 0]))] sz)) (vx_X (fun _ : Unit => True) (fun (E : String) (_ : Unit) (t : State) => E = "java/lang/IndexOutOfBoundsException" ∧ va_P (dC, dI) vwCl [(h0, .inr (7, [.ref z0, .ref z1, .ref z2, .ref z3, .ref z4, .ref z5, .int 0, .int 0, .int 0]))] t.heap ∧ va_K (dC, dI) vwCl [] t ∧ va_D (va_A [(h0, .inr (7, [.ref z0, .ref z1, .ref z2, .ref z3, .ref z4, .ref z5, .int 0, .int 0, .int 0]))] sz) [(h0, .inr (7, [.ref z0, .ref z1, .ref z2, .ref z3, .ref z4, .ref z5, .int 0, .int 0, .int 0]))]) (va_A [(h0, .inr (7, [.ref z0, .ref z1, .ref z2, .ref z3, .ref z4, .ref z5, .int 0, .int 0, .int 0]))] sz)) 1 6 (va_A [(h0, .inr (7, [.ref z0, .ref z1, .ref z2, .ref z3, .ref z4, .ref z5, .int 0, .int 0, .int 0]))] sz) := by
  refine vx_ofW (cc := cX3_step) (maxL := 4) (ret := (some .int)) (by decide) rfl ?_
  intro p e s m args below meth c s₁ B hml ht9 hv
  obtain ⟨rfl, hsz, hP, hK, hD0, hG⟩ := hv
  have hx := B.exec
  have hb := B.bytes
  have hr := B.returns
  have hts := atoms_spec (ws := wsX3_step) B.pre
  have hown : s.vm.findClass RX3 = some m.cls := findClass_of_methodNamed B.named
  have hlocks := B.notSynchronized
  subst hsz
  have hD := hD0.self (sz := s.heap.size)
  generalize hAe : va_A [(h0, .inr (7, [.ref z0, .ref z1, .ref z2, .ref z3, .ref z4, .ref z5, .int 0, .int 0, .int 0]))] s.heap.size = A at hD hG ⊢
  obtain ⟨⟨g_AO_Text, g_AO_String, g_AO_Object, g_nm_RX1_20, g_nm_RX0_17, g_nm_RX3_31, g_nm_RX2_44, g_nm_RL_121, g_nf_RL_13, g_nf_RL_47, g_ca_IO, g_ca_IA, g_ca_IS, g_ca_IntObj, g_ca_StrObj, g_de_RT, g_de_EX, g_de_TH, g_nc_IA_IO, g_nc_IS_IO, g_nc_IS_IA⟩, ⟨g_s3, g_s5, g_sa, g_x278, g_x280, g_x282, g_x284, g_x286, g_x180, g_x238, g_x250⟩, ⟨g_o5, g_c5, g_v5, g_t5, g_oa, g_ca, g_va, g_ta, g_zc, g_zd, g_td, g_zf, g_zU, g_zN, g_zh, g_zk, g_tk, g_oi, g_vi⟩⟩ := id hG
  have hA : ∀ q : Nat, s.heap.size ≤ q → A q := fun q h => by rw [← hAe]; exact Or.inr h
  have hS : va_S A s.heap s.heap [] := va_S.rf
  have hP : va_P (dC, dI) vwCl [(h0, .inr (7, [.ref z0, .ref z1, .ref z2, .ref z3, .ref z4, .ref z5, .int 0, .int 0, .int 0]))] s.heap := hP
  have hl := lv_entry ([.ref h0, .int i0, .int i1]) (n := 4) (Nat.le_of_ble_eq_true rfl)
  rw [lg_entry_eq]
  generalize (lg_sl ([.ref h0, .int i0, .int i1]) ++ List.replicate (4 - (lg_sl ([.ref h0, .int i0, .int i1])).length) Slot.unset).toArray = ls at hl ⊢
  have hl : lv_has ls 4 [(0, .ref h0), (1, .int i0), (2, .int i1)] := hl
  refine lv_iload_n hx hb dX3_step_0 rfl (lv_at hl 1 rfl) ?_
  have hPc := hP.sub (ws' := []) [] rfl
  have hDc := hD.sub (ws' := []) [] (by decide) rfl
  have hKc := hK.sub (tys' := []) [] rfl
  have hFc := va_free (wc := []) hD hS hA [] rfl
  refine vx_callv (vx_runS (As := [.int i0]) (rest := []) ⟨hx, hb, hml, hown, hts⟩ (kx_X3_needRope_6 l hst dC dI ge5 gea gv5 gva gde gic gi0 s.heap.size i0 i0_l i0_u) (cwS 1 hts gX3_step_X3_needRope rfl rfl rfl (by decide +kernel) ⟨Nat.le_of_ble_eq_true rfl, Nat.le_of_ble_eq_true rfl⟩) ⟨fun a U g mk q => by obtain ⟨q0, q1, qP, qK, qD, qG⟩ := q; exact ⟨q0, q1, qP, va_K.moved (u := U) (U := U.calling g mk a) (Vm.Alike.refl U.vm) qK, qD, gv.fb qG⟩, fun U hU hW => ⟨rfl, by rw [hU], by rw [hU]; exact hPc, va_K.moved hW.alike hKc, hDc.weaken (fun _ _ _ _ => trivial), gv.pass hW hU hS hFc hG⟩⟩ rfl rfl hl.1 rfl (lv_room (Nat.le_of_ble_eq_true rfl)) dX3_step_1 ⟨Nat.le_of_ble_eq_true rfl, Nat.le_of_ble_eq_true rfl⟩) hS (fun q _ h => hFc q h) hFc (fun q _ h => hFc q h) (fun E ce q9 u t H1 locs ht hvm hpx hB hz1 hk1 hS hce hcv hcl => ?_) (fun u t H1 locs ht hvm hw hB hz1 hk1 hS => hw.elim)
  obtain ⟨rfl, hP1, hK1, hD1⟩ := hB
  rw [ht] at hP1
  have hK1 := va_K.moved hvm.symm hK1
  obtain ⟨hP, hD⟩ := va_join (wr := [(h0, .inr (7, [.ref z0, .ref z1, .ref z2, .ref z3, .ref z4, .ref z5, .int 0, .int 0, .int 0]))]) (w1 := []) hP hD [] [0] rfl rfl (by decide) (by decide) hk1 hFc hP1 hD1
  generalize H1 = H at hP hS hce ⊢
  have hP : va_P (dC, dI) vwCl [(h0, .inr (7, [.ref z0, .ref z1, .ref z2, .ref z3, .ref z4, .ref z5, .int 0, .int 0, .int 0]))] H := hP
  have hD : va_D A [(h0, .inr (7, [.ref z0, .ref z1, .ref z2, .ref z3, .ref z4, .ref z5, .int 0, .int 0, .int 0]))] := hD
  exact vx_out (fun x hx9 => (ht9 x hx9).elim) hlocks hce hcv hcl (fun t ht hW => ⟨(), trivial, ⟨rfl, by rw [ht]; exact hP, va_K.moved hW hK, hD⟩, hS.F ht⟩) hS.2.2 (by omega) (by omega)
set_option maxHeartbeats 4000000 in
set_option maxRecDepth 100000 in
theorem kx_L_step_8 (l : Launch) (hst : l.stackTraces = false) (dC : Nat → ClassId) (dI : Nat → Nat → Nat) (ge5 gea gv5 gva gde gic gi0 : Nat) (h0 : Nat) (z0 : Nat) (z1 : Nat) (z2 : Nat) (z3 : Nat) (z4 : Nat) (z5 : Nat) (z6 : Nat) (sz : Nat) (i0 : Int32) (i0_l : (4 : Int) ≤ i0.toInt) (i0_u : i0.toInt ≤ (2147483647 : Int)) (i1 : Int32) (i1_l : (3 : Int) ≤ i1.toInt) (i1_u : i1.toInt ≤ (2147483647 : Int)) : Met l yL_step wsL_step ({ frames := 8, cells := 1, slots := 6, locals := 163 }) (va_Pc [.ref h0, .int i0, .int i1, .ref z0] (fun U => U.heap.size = sz ∧ va_P (dC, dI) vwCl [(h0, .inr (7, [.ref z1, .ref z2, .ref z3, .ref z4, .ref z5, .ref z6, .int 0, .int 0, .int 0]))] U.heap ∧ va_K (dC, dI) vwCl [] U ∧ va_D (fun _ => True) [(h0, .inr (7, [.ref z1, .ref z2, .ref z3, .ref z4, .ref z5, .ref z6, .int 0, .int 0, .int 0]))] ∧ gv ge5 gea gv5 gva gde gic gi0 (va_A [(h0, .inr (7, [.ref z1, .ref z2, .ref z3, .ref z4, .ref z5, .ref z6, .int 0, .int 0, .int 0]))] sz) U U.heap)) (va_Qi (fun (r : Int32) (_ : Unit) => r = 1) (fun (_ : Unit) (t : State) => va_P (dC, dI) vwCl [(h0, .inr (7, [.ref z1, .ref z2, .ref z3, .ref z4, .ref z5, .ref z6, .int 0, .int 0, .int 0]))] t.heap ∧ va_K (dC, dI) vwCl [] t ∧ va_D (va_A [(h0, .inr (7, [.ref z1, .ref z2, .ref z3, .ref z4, .ref z5, .ref z6, .int 0, .int 0, .int 0]))] sz) [(h0, .inr (7, [.ref z1, .ref z2, .ref z3, .ref z4, .ref z5, .ref z6, .int 0, .int 0, .int 0]))]) (va_A [(h0, .inr (7, [.ref z1, .ref z2, .ref z3, .ref z4, .ref z5, .ref z6, .int 0, .int 0, .int 0]))] sz)) 1 6 (va_A [(h0, .inr (7, [.ref z1, .ref z2, .ref z3, .ref z4, .ref z5, .ref z6, .int 0, .int 0, .int 0]))] sz) := by
  refine kz_ofWH (cc := cL_step) (maxL := 5) (ret := (some .int)) (hh := [(0, 11, 14, 19), (0, 11, 18, 21)]) (by decide) rfl ?_
  intro p e s m args below meth c s₁ B hml hv
  obtain ⟨rfl, hsz, hP, hK, hD0, hG⟩ := hv
  have hx := B.exec
  have hb := B.bytes
  have hr := B.returns
  have hts := atoms_spec (ws := wsL_step) B.pre
  have hown : s.vm.findClass RL = some m.cls := findClass_of_methodNamed B.named
  have htab := vx_table (x := yL_step) B (hts (.codeWith yL_step cL_step 5 (some .int) [(0, 11, 14, 19), (0, 11, 18, 21)]) (by decide +kernel))
  have hlocks := B.notSynchronized
  subst hsz
  have hD := hD0.self (sz := s.heap.size)
  generalize hAe : va_A [(h0, .inr (7, [.ref z1, .ref z2, .ref z3, .ref z4, .ref z5, .ref z6, .int 0, .int 0, .int 0]))] s.heap.size = A at hD hG ⊢
  obtain ⟨⟨g_AO_Text, g_AO_String, g_AO_Object, g_nm_RX1_20, g_nm_RX0_17, g_nm_RX3_31, g_nm_RX2_44, g_nm_RL_121, g_nf_RL_13, g_nf_RL_47, g_ca_IO, g_ca_IA, g_ca_IS, g_ca_IntObj, g_ca_StrObj, g_de_RT, g_de_EX, g_de_TH, g_nc_IA_IO, g_nc_IS_IO, g_nc_IS_IA⟩, ⟨g_s3, g_s5, g_sa, g_x278, g_x280, g_x282, g_x284, g_x286, g_x180, g_x238, g_x250⟩, ⟨g_o5, g_c5, g_v5, g_t5, g_oa, g_ca, g_va, g_ta, g_zc, g_zd, g_td, g_zf, g_zU, g_zN, g_zh, g_zk, g_tk, g_oi, g_vi⟩⟩ := id hG
  have hA : ∀ q : Nat, s.heap.size ≤ q → A q := fun q h => by rw [← hAe]; exact Or.inr h
  have hS : va_S A s.heap s.heap [] := va_S.rf
  have hP : va_P (dC, dI) vwCl [(h0, .inr (7, [.ref z1, .ref z2, .ref z3, .ref z4, .ref z5, .ref z6, .int 0, .int 0, .int 0]))] s.heap := hP
  have hl := lv_entry ([.ref h0, .int i0, .int i1, .ref z0]) (n := 5) (Nat.le_of_ble_eq_true rfl)
  rw [lg_entry_eq]
  generalize (lg_sl ([.ref h0, .int i0, .int i1, .ref z0]) ++ List.replicate (5 - (lg_sl ([.ref h0, .int i0, .int i1, .ref z0])).length) Slot.unset).toArray = ls at hl ⊢
  have hl : lv_has ls 5 [(0, .ref h0), (1, .int i0), (2, .int i1), (3, .ref z0)] := hl
  refine lv_aload_n hx hb dL_step_0 rfl (lv_at hl 3 rfl) ?_
  refine lv_aload_n hx hb dL_step_1 rfl (lv_at hl 0 rfl) ?_
  refine lv_iload_n hx hb dL_step_2 rfl (lv_at hl 1 rfl) ?_
  refine lv_iload_n hx hb dL_step_3 rfl (lv_at hl 2 rfl) ?_
  have hPc := hP.sub (ws' := [(h0, .inr (7, [.ref z1, .ref z2, .ref z3, .ref z4, .ref z5, .ref z6, .int 0, .int 0, .int 0]))]) [0] rfl
  have hDc := hD.sub (ws' := [(h0, .inr (7, [.ref z1, .ref z2, .ref z3, .ref z4, .ref z5, .ref z6, .int 0, .int 0, .int 0]))]) [0] (by decide) rfl
  have hKc := hK.sub (tys' := []) [] rfl
  have hFc := va_free (wc := [(h0, .inr (7, [.ref z1, .ref z2, .ref z3, .ref z4, .ref z5, .ref z6, .int 0, .int 0, .int 0]))]) hD hS hA [0] rfl
  refine vx_calli (vx_runV (As := [.int i0, .int i1]) (rest := [.ref z0]) ⟨hx, hb, hml, hown, hts⟩ (kx_X3_step_11 l hst dC dI ge5 gea gv5 gva gde gic gi0 h0 z1 z2 z3 z4 z5 z6 s.heap.size i0 i0_l i0_u i1 i1_l i1_u) (cwV 2 hts gL_step_X3_step rfl rfl rfl (by decide +kernel) ⟨Nat.le_of_ble_eq_true rfl, Nat.le_of_ble_eq_true rfl⟩) ⟨fun a U g mk q => by obtain ⟨q0, q1, qP, qK, qD, qG⟩ := q; exact ⟨q0, q1, qP, va_K.moved (u := U) (U := U.calling g mk a) (Vm.Alike.refl U.vm) qK, qD, gv.fb qG⟩, va_recv hKc hPc (ci := 7) (q0 := 0) rfl rfl, fun U hU hW => ⟨rfl, by rw [hU], by rw [hU]; exact hPc, va_K.moved hW.alike hKc, hDc.weaken (fun _ _ _ _ => trivial), gv.pass hW hU hS hFc hG⟩⟩ rfl rfl hl.1 rfl (lv_room (Nat.le_of_ble_eq_true rfl)) dL_step_4 ⟨Nat.le_of_ble_eq_true rfl, Nat.le_of_ble_eq_true rfl⟩) hS (fun q _ h => hFc q h) hFc (fun q _ h => hFc q h) (fun E ce q9 u t H1 locs ht hvm hpx hB hz1 hk1 hS hce hcv hcl => ?_) (fun r9 u t H1 locs ht hvm hw hB hz1 hk1 hS => hw.elim)
  obtain ⟨rfl, hP1, hK1, hD1⟩ := hB
  rw [ht] at hP1
  have hK1 := va_K.moved hvm.symm hK1
  obtain ⟨hP, hD⟩ := va_join (wr := []) (w1 := [(h0, .inr (7, [.ref z1, .ref z2, .ref z3, .ref z4, .ref z5, .ref z6, .int 0, .int 0, .int 0]))]) hP hD [0] [] rfl rfl (by decide) (by decide) hk1 hFc hP1 hD1
  generalize H1 = H at hP hS hce ⊢
  have hP : va_P (dC, dI) vwCl [(h0, .inr (7, [.ref z1, .ref z2, .ref z3, .ref z4, .ref z5, .ref z6, .int 0, .int 0, .int 0]))] H := hP
  have hD : va_D A [(h0, .inr (7, [.ref z1, .ref z2, .ref z3, .ref z4, .ref z5, .ref z6, .int 0, .int 0, .int 0]))] := hD
  refine vx_catch (own := RL) (name := "java/lang/IndexOutOfBoundsException") hown (tableOf []) ⟨0, 11, 14, 19⟩ (tableOf [(0, 11, 18, 21)]) (by rw [htab]; rfl) (fun z hz => nomatch hz) (by decide +kernel) (by decide) (hts (.classLink RL 19 "java/lang/IndexOutOfBoundsException") (by decide +kernel)) (va_Nw.use rfl g_ca_IO) hce hcv hcl ?_
  refine W.eq (g2 := F0 m 14 ls [.ref q9]) rfl ?_
  refine lv_astore (lv' := [(4, .ref q9), (0, .ref h0), (1, .int i0), (2, .int i1), (3, .ref z0)]) hx hb dL_step_14 hl (by decide) rfl (fun ls hl => ?_)
  refine lv_iconst (v := 1) hx hb dL_step_16 (by decide) ?_
  exact W.iret (v := 1) hx hb hr (fun t ht hW => ⟨⟨1, (), rfl, rfl, by rw [ht]; exact hP, va_K.moved hW.alike hK, hD⟩, hS.F ht⟩) hS.2.2 dL_step_17
set_option maxHeartbeats 4000000 in
set_option maxRecDepth 100000 in
theorem kx_X5_step_8 (l : Launch) (dC : Nat → ClassId) (dI : Nat → Nat → Nat) (h0 : Nat) (z0 : Nat) (z1 : Nat) (z2 : Nat) (sz : Nat) (i0 : Int32) (i0_l : (4 : Int) ≤ i0.toInt) (i0_u : i0.toInt ≤ (2147483647 : Int)) (i1 : Int32) (i1_l : (3 : Int) ≤ i1.toInt) (i1_u : i1.toInt ≤ (2147483647 : Int)) : Met l yX5_step wsX5_step ({ frames := 2, cells := 0, slots := 0, locals := 42 }) (va_Pc [.ref h0, .int i0, .int i1] (fun U => U.heap.size = sz ∧ va_P (dC, dI) vwCl [(h0, .inr (9, [.int 0, .ref z0, .ref z1, .ref z2, .int 0, .int 0, .int 0]))] U.heap ∧ va_K (dC, dI) vwCl [] U ∧ va_D (fun _ => True) [(h0, .inr (9, [.int 0, .ref z0, .ref z1, .ref z2, .int 0, .int 0, .int 0]))])) (va_Qi (fun (r : Int32) (_ : Unit) => r = 0) (fun (_ : Unit) (t : State) => va_P (dC, dI) vwCl [(h0, .inr (9, [.int 1, .ref z0, .ref z1, .ref z2, .int 0, .int 0, .int 0]))] t.heap ∧ va_K (dC, dI) vwCl [] t ∧ va_D (va_A [(h0, .inr (9, [.int 0, .ref z0, .ref z1, .ref z2, .int 0, .int 0, .int 0]))] sz) [(h0, .inr (9, [.int 1, .ref z0, .ref z1, .ref z2, .int 0, .int 0, .int 0]))]) (va_A [(h0, .inr (9, [.int 0, .ref z0, .ref z1, .ref z2, .int 0, .int 0, .int 0]))] sz)) 0 0 (va_A [(h0, .inr (9, [.int 0, .ref z0, .ref z1, .ref z2, .int 0, .int 0, .int 0]))] sz) := by
  refine Met.ofW (cc := cX5_step) (maxL := 5) (ret := (some .int)) (by decide) rfl ?_
  intro p e s m args below meth c s₁ B hml hv
  obtain ⟨rfl, hsz, hP, hK, hD0⟩ := hv
  have hx := B.exec
  have hb := B.bytes
  have hr := B.returns
  have hts := atoms_spec (ws := wsX5_step) B.pre
  have hown : s.vm.findClass RX5 = some m.cls := findClass_of_methodNamed B.named
  have hlocks := B.notSynchronized
  subst hsz
  have hD := hD0.self (sz := s.heap.size)
  generalize hAe : va_A [(h0, .inr (9, [.int 0, .ref z0, .ref z1, .ref z2, .int 0, .int 0, .int 0]))] s.heap.size = A at hD ⊢
  have hA : ∀ q : Nat, s.heap.size ≤ q → A q := fun q h => by rw [← hAe]; exact Or.inr h
  have hS : va_S A s.heap s.heap [] := va_S.rf
  have hP : va_P (dC, dI) vwCl [(h0, .inr (9, [.int 0, .ref z0, .ref z1, .ref z2, .int 0, .int 0, .int 0]))] s.heap := hP
  have hl := lv_entry ([.ref h0, .int i0, .int i1]) (n := 5) (Nat.le_of_ble_eq_true rfl)
  rw [lg_entry_eq]
  generalize (lg_sl ([.ref h0, .int i0, .int i1]) ++ List.replicate (5 - (lg_sl ([.ref h0, .int i0, .int i1])).length) Slot.unset).toArray = ls at hl ⊢
  have hl : lv_has ls 5 [(0, .ref h0), (1, .int i0), (2, .int i1)] := hl
  refine lv_aload_n hx hb dX5_step_0 rfl (lv_at hl 0 rfl) ?_
  refine lv_iload_n hx hb dX5_step_1 rfl (lv_at hl 1 rfl) ?_
  have hPc := hP.sub (ws' := []) [] rfl
  have hDc := hD.sub (ws' := []) [] (by decide) rfl
  have hKc := hK.sub (tys' := []) [] rfl
  have hFc := va_free (wc := []) hD hS hA [] rfl
  refine va_calli (va_runS (As := [.int i0]) (rest := [.ref h0]) ⟨hx, hb, hml, hown, hts⟩ (kx_X5_isNo_2 l dC dI s.heap.size i0 i0_l i0_u) (cwS 1 hts gX5_step_X5_isNo rfl rfl rfl (by decide +kernel) ⟨Nat.le_of_ble_eq_true rfl, Nat.le_of_ble_eq_true rfl⟩) ⟨fun a U g mk q => by obtain ⟨q0, q1, qP, qK, qD⟩ := q; exact ⟨q0, q1, qP, va_K.moved (u := U) (U := U.calling g mk a) (Vm.Alike.refl U.vm) qK, qD⟩, fun U hU hW => ⟨rfl, by rw [hU], by rw [hU]; exact hPc, va_K.moved hW.alike hKc, hDc.weaken (fun _ _ _ _ => trivial)⟩⟩ rfl rfl hl.1 rfl (lv_room (Nat.le_of_ble_eq_true rfl)) dX5_step_2 ⟨Nat.le_of_ble_eq_true rfl, Nat.le_of_ble_eq_true rfl⟩) hS (fun q _ h => hFc q h) hFc (fun r9 u t H1 locs ht hvm hw hB hz1 hk1 hS => ?_)
  obtain rfl := hw
  obtain ⟨hP1, hK1, hD1⟩ := hB
  rw [ht] at hP1
  have hK1 := va_K.moved hvm.symm hK1
  obtain ⟨hP, hD⟩ := va_join (wr := [(h0, .inr (9, [.int 0, .ref z0, .ref z1, .ref z2, .int 0, .int 0, .int 0]))]) (w1 := []) hP hD [] [0] rfl rfl (by decide) (by decide) hk1 hFc hP1 hD1
  generalize H1 = H at hP hS ⊢
  have hP : va_P (dC, dI) vwCl [(h0, .inr (9, [.int 0, .ref z0, .ref z1, .ref z2, .int 0, .int 0, .int 0]))] H := hP
  have hD : va_D A [(h0, .inr (9, [.int 0, .ref z0, .ref z1, .ref z2, .int 0, .int 0, .int 0]))] := hD
  refine lv_iload_n hx hb dX5_step_5 rfl (lv_at hl 2 rfl) ?_
  refine lv_iconst (v := 0) hx hb dX5_step_6 (by decide) ?_
  refine lv_iconst (v := 2) hx hb dX5_step_7 (by decide) ?_
  have hPc := hP.sub (ws' := []) [] rfl
  have hDc := hD.sub (ws' := []) [] (by decide) rfl
  have hKc := hK.sub (tys' := []) [] rfl
  have hFc := va_free (wc := []) hD hS hA [] rfl
  refine va_calli (va_runS (As := [.int i1, .int 0, .int 2]) (rest := [.int 1, .ref h0]) ⟨hx, hb, hml, hown, hts⟩ (kx_X5_isIn_23 l dC dI H.size i1 i1_l i1_u) (cwS 3 hts gX5_step_X5_isIn rfl rfl rfl (by decide +kernel) ⟨Nat.le_of_ble_eq_true rfl, Nat.le_of_ble_eq_true rfl⟩) ⟨fun a U g mk q => by obtain ⟨q0, q1, qP, qK, qD⟩ := q; exact ⟨q0, q1, qP, va_K.moved (u := U) (U := U.calling g mk a) (Vm.Alike.refl U.vm) qK, qD⟩, fun U hU hW => ⟨rfl, by rw [hU], by rw [hU]; exact hPc, va_K.moved hW.alike hKc, hDc.weaken (fun _ _ _ _ => trivial)⟩⟩ rfl rfl hl.1 rfl (lv_room (Nat.le_of_ble_eq_true rfl)) dX5_step_8 ⟨Nat.le_of_ble_eq_true rfl, Nat.le_of_ble_eq_true rfl⟩) hS (fun q _ h => hFc q h) hFc (fun r9 u t H1 locs ht hvm hw hB hz1 hk1 hS => ?_)
  obtain rfl := hw
  obtain ⟨hP1, hK1, hD1⟩ := hB
  rw [ht] at hP1
  have hK1 := va_K.moved hvm.symm hK1
  obtain ⟨hP, hD⟩ := va_join (wr := [(h0, .inr (9, [.int 0, .ref z0, .ref z1, .ref z2, .int 0, .int 0, .int 0]))]) (w1 := []) hP hD [] [0] rfl rfl (by decide) (by decide) hk1 hFc hP1 hD1
  generalize H1 = H at hP hS ⊢
  have hP : va_P (dC, dI) vwCl [(h0, .inr (9, [.int 0, .ref z0, .ref z1, .ref z2, .int 0, .int 0, .int 0]))] H := hP
  have hD : va_D A [(h0, .inr (9, [.int 0, .ref z0, .ref z1, .ref z2, .int 0, .int 0, .int 0]))] := hD
  refine lv_if_ne (tgt := 18) hx hb dX5_step_11 (by decide) (fun c9 => absurd (by decide) c9) (fun _ => ?_)
  refine lv_iconst (v := 1) hx hb dX5_step_14 (by decide) ?_
  refine lv_goto (tgt := 19) hx hb dX5_step_15 (by decide) ?_
  refine lv_iconst (v := 0) hx hb dX5_step_19 (by decide) ?_
  have hPc := hP.sub (ws' := [(h0, .inr (9, [.int 0, .ref z0, .ref z1, .ref z2, .int 0, .int 0, .int 0]))]) [0] rfl
  have hDc := hD.sub (ws' := [(h0, .inr (9, [.int 0, .ref z0, .ref z1, .ref z2, .int 0, .int 0, .int 0]))]) [0] (by decide) rfl
  have hKc := hK.sub (tys' := []) [] rfl
  have hFc := va_free (wc := [(h0, .inr (9, [.int 0, .ref z0, .ref z1, .ref z2, .int 0, .int 0, .int 0]))]) hD hS hA [0] rfl
  refine va_calli (va_runV (As := [.int 1, .int 1, .int 0]) (rest := []) ⟨hx, hb, hml, hown, hts⟩ (kx_X5_fails_2 l dC dI h0 z0 z1 z2 H.size) (cwV 3 hts gX5_step_X5_fails rfl rfl rfl (by decide +kernel) ⟨Nat.le_of_ble_eq_true rfl, Nat.le_of_ble_eq_true rfl⟩) ⟨fun a U g mk q => by obtain ⟨q0, q1, qP, qK, qD⟩ := q; exact ⟨q0, q1, qP, va_K.moved (u := U) (U := U.calling g mk a) (Vm.Alike.refl U.vm) qK, qD⟩, va_recv hKc hPc (ci := 9) (q0 := 0) rfl rfl, fun U hU hW => ⟨rfl, by rw [hU], by rw [hU]; exact hPc, va_K.moved hW.alike hKc, hDc.weaken (fun _ _ _ _ => trivial)⟩⟩ rfl rfl hl.1 rfl (lv_room (Nat.le_of_ble_eq_true rfl)) dX5_step_20 ⟨Nat.le_of_ble_eq_true rfl, Nat.le_of_ble_eq_true rfl⟩) hS (fun q _ h => hFc q h) hFc (fun r9 u t H1 locs ht hvm hw hB hz1 hk1 hS => ?_)
  obtain rfl := hw
  obtain ⟨hP1, hK1, hD1⟩ := hB
  rw [ht] at hP1
  have hK1 := va_K.moved hvm.symm hK1
  obtain ⟨hP, hD⟩ := va_join (wr := []) (w1 := [(h0, .inr (9, [.int 1, .ref z0, .ref z1, .ref z2, .int 0, .int 0, .int 0]))]) hP hD [0] [] rfl rfl (by decide) (by decide) hk1 hFc hP1 hD1
  generalize H1 = H at hP hS ⊢
  have hP : va_P (dC, dI) vwCl [(h0, .inr (9, [.int 1, .ref z0, .ref z1, .ref z2, .int 0, .int 0, .int 0]))] H := hP
  have hD : va_D A [(h0, .inr (9, [.int 1, .ref z0, .ref z1, .ref z2, .int 0, .int 0, .int 0]))] := hD
  refine lv_if_eq (tgt := 28) hx hb dX5_step_23 (by decide) (fun c9 => absurd c9 (by decide)) (fun _ => ?_)
  refine lv_iconst (v := 0) hx hb dX5_step_26 (by decide) ?_
  exact W.iret (v := 0) hx hb hr (fun t ht hW => ⟨⟨0, (), rfl, rfl, by rw [ht]; exact hP, va_K.moved hW.alike hK, hD⟩, hS.F ht⟩) hS.2.2 dX5_step_27
set_option maxHeartbeats 4000000 in
set_option maxRecDepth 100000 in
theorem kx_X3_run_0 (l : Launch) (hst : l.stackTraces = false) (dC : Nat → ClassId) (dI : Nat → Nat → Nat) (ge5 gea gv5 gva gde gic gi0 : Nat) (h0 : Nat) (z0 : Nat) (z1 : Nat) (z2 : Nat) (z3 : Nat) (z4 : Nat) (z5 : Nat) (sz : Nat) (i0 : Int32) (i0_l : (0 : Int) ≤ i0.toInt) (i0_u : i0.toInt ≤ (3 : Int)) (i1 : Int32) (i1_l : ((-2147483648) : Int) ≤ i1.toInt) (i1_u : i1.toInt ≤ ((-1) : Int)) (i2 : Int32) (i2_l : ((-2147483648) : Int) ≤ i2.toInt) (i2_u : i2.toInt ≤ (2147483647 : Int)) : vx_Met l yX3_run wsX3_run ({ frames := 7, cells := 1, slots := 6, locals := 140 }) (va_Pc [.ref h0, .int i0, .int i1, .int i2] (fun U => U.heap.size = sz ∧ va_P (dC, dI) vwCl [(h0, .inr (7, [.ref z0, .ref z1, .ref z2, .ref z3, .ref z4, .ref z5, .int 0, .int 0, .int 0]))] U.heap ∧ va_K (dC, dI) vwCl [] U ∧ va_D (fun _ => True) [(h0, .inr (7, [.ref z0, .ref z1, .ref z2, .ref z3, .ref z4, .ref z5, .int 0, .int 0, .int 0]))] ∧ gv ge5 gea gv5 gva gde gic gi0 (va_A [(h0, .inr (7, [.ref z0, .ref z1, .ref z2, .ref z3, .ref z4, .ref z5, .int 0, .int 0, .int 0]))] sz) U U.heap)) (va_Qi (fun (_ : Int32) (_ : Unit) => False) (fun _ _ => True) (va_A [(h0, .inr (7, [.ref z0, .ref z1, .ref z2, .ref z3, .ref z4, .ref z5, .int 0, .int 0, .int 0]))] sz)) (vx_X (fun _ : Unit => True) (fun (E : String) (_ : Unit) (t : State) => E = "java/lang/IllegalArgumentException" ∧ va_P (dC, dI) vwCl [(h0, .inr (7, [.ref z0, .ref z1, .ref z2, .ref z3, .ref z4, .ref z5, .int 0, .int 0, .int 0]))] t.heap ∧ va_K (dC, dI) vwCl [] t ∧ va_D (va_A [(h0, .inr (7, [.ref z0, .ref z1, .ref z2, .ref z3, .ref z4, .ref z5, .int 0, .int 0, .int 0]))] sz) [(h0, .inr (7, [.ref z0, .ref z1, .ref z2, .ref z3, .ref z4, .ref z5, .int 0, .int 0, .int 0]))]) (va_A [(h0, .inr (7, [.ref z0, .ref z1, .ref z2, .ref z3, .ref z4, .ref z5, .int 0, .int 0, .int 0]))] sz)) 1 6 (va_A [(h0, .inr (7, [.ref z0, .ref z1, .ref z2, .ref z3, .ref z4, .ref z5, .int 0, .int 0, .int 0]))] sz) := by
  refine vx_ofW (cc := cX3_run) (maxL := 5) (ret := (some .int)) (by decide) rfl ?_
  intro p e s m args below meth c s₁ B hml ht9 hv
  obtain ⟨rfl, hsz, hP, hK, hD0, hG⟩ := hv
  have hx := B.exec
  have hb := B.bytes
  have hr := B.returns
  have hts := atoms_spec (ws := wsX3_run) B.pre
  have hown : s.vm.findClass RX3 = some m.cls := findClass_of_methodNamed B.named
  have hlocks := B.notSynchronized
  subst hsz
  have hD := hD0.self (sz := s.heap.size)
  generalize hAe : va_A [(h0, .inr (7, [.ref z0, .ref z1, .ref z2, .ref z3, .ref z4, .ref z5, .int 0, .int 0, .int 0]))] s.heap.size = A at hD hG ⊢
  obtain ⟨⟨g_AO_Text, g_AO_String, g_AO_Object, g_nm_RX1_20, g_nm_RX0_17, g_nm_RX3_31, g_nm_RX2_44, g_nm_RL_121, g_nf_RL_13, g_nf_RL_47, g_ca_IO, g_ca_IA, g_ca_IS, g_ca_IntObj, g_ca_StrObj, g_de_RT, g_de_EX, g_de_TH, g_nc_IA_IO, g_nc_IS_IO, g_nc_IS_IA⟩, ⟨g_s3, g_s5, g_sa, g_x278, g_x280, g_x282, g_x284, g_x286, g_x180, g_x238, g_x250⟩, ⟨g_o5, g_c5, g_v5, g_t5, g_oa, g_ca, g_va, g_ta, g_zc, g_zd, g_td, g_zf, g_zU, g_zN, g_zh, g_zk, g_tk, g_oi, g_vi⟩⟩ := id hG
  have hA : ∀ q : Nat, s.heap.size ≤ q → A q := fun q h => by rw [← hAe]; exact Or.inr h
  have hS : va_S A s.heap s.heap [] := va_S.rf
  have hP : va_P (dC, dI) vwCl [(h0, .inr (7, [.ref z0, .ref z1, .ref z2, .ref z3, .ref z4, .ref z5, .int 0, .int 0, .int 0]))] s.heap := hP
  have hl := lv_entry ([.ref h0, .int i0, .int i1, .int i2]) (n := 5) (Nat.le_of_ble_eq_true rfl)
  rw [lg_entry_eq]
  generalize (lg_sl ([.ref h0, .int i0, .int i1, .int i2]) ++ List.replicate (5 - (lg_sl ([.ref h0, .int i0, .int i1, .int i2])).length) Slot.unset).toArray = ls at hl ⊢
  have hl : lv_has ls 5 [(0, .ref h0), (1, .int i0), (2, .int i1), (3, .int i2)] := hl
  refine lv_iload_n hx hb dX3_run_0 rfl (lv_at hl 1 rfl) ?_
  have hPc := hP.sub (ws' := []) [] rfl
  have hDc := hD.sub (ws' := []) [] (by decide) rfl
  have hKc := hK.sub (tys' := []) [] rfl
  have hFc := va_free (wc := []) hD hS hA [] rfl
  refine va_callv (va_runS (As := [.int i0]) (rest := []) ⟨hx, hb, hml, hown, hts⟩ (kx_X3_needRope_4 l dC dI s.heap.size i0 i0_l i0_u) (cwS 1 hts gX3_run_X3_needRope rfl rfl rfl (by decide +kernel) ⟨Nat.le_of_ble_eq_true rfl, Nat.le_of_ble_eq_true rfl⟩) ⟨fun a U g mk q => by obtain ⟨q0, q1, qP, qK, qD⟩ := q; exact ⟨q0, q1, qP, va_K.moved (u := U) (U := U.calling g mk a) (Vm.Alike.refl U.vm) qK, qD⟩, fun U hU hW => ⟨rfl, by rw [hU], by rw [hU]; exact hPc, va_K.moved hW.alike hKc, hDc.weaken (fun _ _ _ _ => trivial)⟩⟩ rfl rfl hl.1 rfl (lv_room (Nat.le_of_ble_eq_true rfl)) dX3_run_1 ⟨Nat.le_of_ble_eq_true rfl, Nat.le_of_ble_eq_true rfl⟩) hS (fun q _ h => hFc q h) hFc (fun u t H1 locs ht hvm hw hB hz1 hk1 hS => ?_)
  obtain ⟨hP1, hK1, hD1⟩ := hB
  rw [ht] at hP1
  have hK1 := va_K.moved hvm.symm hK1
  obtain ⟨hP, hD⟩ := va_join (wr := [(h0, .inr (7, [.ref z0, .ref z1, .ref z2, .ref z3, .ref z4, .ref z5, .int 0, .int 0, .int 0]))]) (w1 := []) hP hD [] [0] rfl rfl (by decide) (by decide) hk1 hFc hP1 hD1
  generalize H1 = H at hP hS ⊢
  have hP : va_P (dC, dI) vwCl [(h0, .inr (7, [.ref z0, .ref z1, .ref z2, .ref z3, .ref z4, .ref z5, .int 0, .int 0, .int 0]))] H := hP
  have hD : va_D A [(h0, .inr (7, [.ref z0, .ref z1, .ref z2, .ref z3, .ref z4, .ref z5, .int 0, .int 0, .int 0]))] := hD
  refine lv_iload_n hx hb dX3_run_4 rfl (lv_at hl 2 rfl) ?_
  have hPc := hP.sub (ws' := []) [] rfl
  have hDc := hD.sub (ws' := []) [] (by decide) rfl
  have hKc := hK.sub (tys' := []) [] rfl
  have hFc := va_free (wc := []) hD hS hA [] rfl
  refine vx_callv (vx_runS (As := [.int i1]) (rest := []) ⟨hx, hb, hml, hown, hts⟩ (kx_X3_needWay_1 l hst dC dI ge5 gea gv5 gva gde gic gi0 H.size i1 i1_l i1_u) (cwS 1 hts gX3_run_X3_needWay rfl rfl rfl (by decide +kernel) ⟨Nat.le_of_ble_eq_true rfl, Nat.le_of_ble_eq_true rfl⟩) ⟨fun a U g mk q => by obtain ⟨q0, q1, qP, qK, qD, qG⟩ := q; exact ⟨q0, q1, qP, va_K.moved (u := U) (U := U.calling g mk a) (Vm.Alike.refl U.vm) qK, qD, gv.fb qG⟩, fun U hU hW => ⟨rfl, by rw [hU], by rw [hU]; exact hPc, va_K.moved hW.alike hKc, hDc.weaken (fun _ _ _ _ => trivial), gv.pass hW hU hS hFc hG⟩⟩ rfl rfl hl.1 rfl (lv_room (Nat.le_of_ble_eq_true rfl)) dX3_run_5 ⟨Nat.le_of_ble_eq_true rfl, Nat.le_of_ble_eq_true rfl⟩) hS (fun q _ h => hFc q h) hFc (fun q _ h => hFc q h) (fun E ce q9 u t H1 locs ht hvm hpx hB hz1 hk1 hS hce hcv hcl => ?_) (fun u t H1 locs ht hvm hw hB hz1 hk1 hS => hw.elim)
  obtain ⟨rfl, hP1, hK1, hD1⟩ := hB
  rw [ht] at hP1
  have hK1 := va_K.moved hvm.symm hK1
  obtain ⟨hP, hD⟩ := va_join (wr := [(h0, .inr (7, [.ref z0, .ref z1, .ref z2, .ref z3, .ref z4, .ref z5, .int 0, .int 0, .int 0]))]) (w1 := []) hP hD [] [0] rfl rfl (by decide) (by decide) hk1 hFc hP1 hD1
  generalize H1 = H at hP hS hce ⊢
  have hP : va_P (dC, dI) vwCl [(h0, .inr (7, [.ref z0, .ref z1, .ref z2, .ref z3, .ref z4, .ref z5, .int 0, .int 0, .int 0]))] H := hP
  have hD : va_D A [(h0, .inr (7, [.ref z0, .ref z1, .ref z2, .ref z3, .ref z4, .ref z5, .int 0, .int 0, .int 0]))] := hD
  exact vx_out (fun x hx9 => (ht9 x hx9).elim) hlocks hce hcv hcl (fun t ht hW => ⟨(), trivial, ⟨rfl, by rw [ht]; exact hP, va_K.moved hW hK, hD⟩, hS.F ht⟩) hS.2.2 (by omega) (by omega)
set_option maxHeartbeats 4000000 in
set_option maxRecDepth 100000 in
theorem kx_L_run_0 (l : Launch) (hst : l.stackTraces = false) (dC : Nat → ClassId) (dI : Nat → Nat → Nat) (ge5 gea gv5 gva gde gic gi0 : Nat) (h0 : Nat) (z0 : Nat) (z1 : Nat) (z2 : Nat) (z3 : Nat) (z4 : Nat) (z5 : Nat) (z6 : Nat) (sz : Nat) (i0 : Int32) (i0_l : (0 : Int) ≤ i0.toInt) (i0_u : i0.toInt ≤ (3 : Int)) (i1 : Int32) (i1_l : ((-2147483648) : Int) ≤ i1.toInt) (i1_u : i1.toInt ≤ ((-1) : Int)) (i2 : Int32) (i2_l : ((-2147483648) : Int) ≤ i2.toInt) (i2_u : i2.toInt ≤ (2147483647 : Int)) : Met l yL_run wsL_run ({ frames := 8, cells := 1, slots := 6, locals := 164 }) (va_Pc [.ref h0, .int i0, .int i1, .int i2, .ref z0] (fun U => U.heap.size = sz ∧ va_P (dC, dI) vwCl [(h0, .inr (7, [.ref z1, .ref z2, .ref z3, .ref z4, .ref z5, .ref z6, .int 0, .int 0, .int 0]))] U.heap ∧ va_K (dC, dI) vwCl [] U ∧ va_D (fun _ => True) [(h0, .inr (7, [.ref z1, .ref z2, .ref z3, .ref z4, .ref z5, .ref z6, .int 0, .int 0, .int 0]))] ∧ gv ge5 gea gv5 gva gde gic gi0 (va_A [(h0, .inr (7, [.ref z1, .ref z2, .ref z3, .ref z4, .ref z5, .ref z6, .int 0, .int 0, .int 0]))] sz) U U.heap)) (va_Qi (fun (r : Int32) (_ : Unit) => r = 2) (fun (_ : Unit) (t : State) => va_P (dC, dI) vwCl [(h0, .inr (7, [.ref z1, .ref z2, .ref z3, .ref z4, .ref z5, .ref z6, .int 0, .int 0, .int 0]))] t.heap ∧ va_K (dC, dI) vwCl [] t ∧ va_D (va_A [(h0, .inr (7, [.ref z1, .ref z2, .ref z3, .ref z4, .ref z5, .ref z6, .int 0, .int 0, .int 0]))] sz) [(h0, .inr (7, [.ref z1, .ref z2, .ref z3, .ref z4, .ref z5, .ref z6, .int 0, .int 0, .int 0]))]) (va_A [(h0, .inr (7, [.ref z1, .ref z2, .ref z3, .ref z4, .ref z5, .ref z6, .int 0, .int 0, .int 0]))] sz)) 1 6 (va_A [(h0, .inr (7, [.ref z1, .ref z2, .ref z3, .ref z4, .ref z5, .ref z6, .int 0, .int 0, .int 0]))] sz) := by
  refine kz_ofWH (cc := cL_run) (maxL := 6) (ret := (some .int)) (hh := [(0, 13, 16, 19), (0, 13, 20, 21)]) (by decide) rfl ?_
  intro p e s m args below meth c s₁ B hml hv
  obtain ⟨rfl, hsz, hP, hK, hD0, hG⟩ := hv
  have hx := B.exec
  have hb := B.bytes
  have hr := B.returns
  have hts := atoms_spec (ws := wsL_run) B.pre
  have hown : s.vm.findClass RL = some m.cls := findClass_of_methodNamed B.named
  have htab := vx_table (x := yL_run) B (hts (.codeWith yL_run cL_run 6 (some .int) [(0, 13, 16, 19), (0, 13, 20, 21)]) (by decide +kernel))
  have hlocks := B.notSynchronized
  subst hsz
  have hD := hD0.self (sz := s.heap.size)
  generalize hAe : va_A [(h0, .inr (7, [.ref z1, .ref z2, .ref z3, .ref z4, .ref z5, .ref z6, .int 0, .int 0, .int 0]))] s.heap.size = A at hD hG ⊢
  obtain ⟨⟨g_AO_Text, g_AO_String, g_AO_Object, g_nm_RX1_20, g_nm_RX0_17, g_nm_RX3_31, g_nm_RX2_44, g_nm_RL_121, g_nf_RL_13, g_nf_RL_47, g_ca_IO, g_ca_IA, g_ca_IS, g_ca_IntObj, g_ca_StrObj, g_de_RT, g_de_EX, g_de_TH, g_nc_IA_IO, g_nc_IS_IO, g_nc_IS_IA⟩, ⟨g_s3, g_s5, g_sa, g_x278, g_x280, g_x282, g_x284, g_x286, g_x180, g_x238, g_x250⟩, ⟨g_o5, g_c5, g_v5, g_t5, g_oa, g_ca, g_va, g_ta, g_zc, g_zd, g_td, g_zf, g_zU, g_zN, g_zh, g_zk, g_tk, g_oi, g_vi⟩⟩ := id hG
  have hA : ∀ q : Nat, s.heap.size ≤ q → A q := fun q h => by rw [← hAe]; exact Or.inr h
  have hS : va_S A s.heap s.heap [] := va_S.rf
  have hP : va_P (dC, dI) vwCl [(h0, .inr (7, [.ref z1, .ref z2, .ref z3, .ref z4, .ref z5, .ref z6, .int 0, .int 0, .int 0]))] s.heap := hP
  have hl := lv_entry ([.ref h0, .int i0, .int i1, .int i2, .ref z0]) (n := 6) (Nat.le_of_ble_eq_true rfl)
  rw [lg_entry_eq]
  generalize (lg_sl ([.ref h0, .int i0, .int i1, .int i2, .ref z0]) ++ List.replicate (6 - (lg_sl ([.ref h0, .int i0, .int i1, .int i2, .ref z0])).length) Slot.unset).toArray = ls at hl ⊢
  have hl : lv_has ls 6 [(0, .ref h0), (1, .int i0), (2, .int i1), (3, .int i2), (4, .ref z0)] := hl
  refine lv_aload hx hb dL_run_0 (lv_at hl 4 rfl) ?_
  refine lv_aload_n hx hb dL_run_2 rfl (lv_at hl 0 rfl) ?_
  refine lv_iload_n hx hb dL_run_3 rfl (lv_at hl 1 rfl) ?_
  refine lv_iload_n hx hb dL_run_4 rfl (lv_at hl 2 rfl) ?_
  refine lv_iload_n hx hb dL_run_5 rfl (lv_at hl 3 rfl) ?_
  have hPc := hP.sub (ws' := [(h0, .inr (7, [.ref z1, .ref z2, .ref z3, .ref z4, .ref z5, .ref z6, .int 0, .int 0, .int 0]))]) [0] rfl
  have hDc := hD.sub (ws' := [(h0, .inr (7, [.ref z1, .ref z2, .ref z3, .ref z4, .ref z5, .ref z6, .int 0, .int 0, .int 0]))]) [0] (by decide) rfl
  have hKc := hK.sub (tys' := []) [] rfl
  have hFc := va_free (wc := [(h0, .inr (7, [.ref z1, .ref z2, .ref z3, .ref z4, .ref z5, .ref z6, .int 0, .int 0, .int 0]))]) hD hS hA [0] rfl
  refine vx_calli (vx_runV (As := [.int i0, .int i1, .int i2]) (rest := [.ref z0]) ⟨hx, hb, hml, hown, hts⟩ (kx_X3_run_0 l hst dC dI ge5 gea gv5 gva gde gic gi0 h0 z1 z2 z3 z4 z5 z6 s.heap.size i0 i0_l i0_u i1 i1_l i1_u i2 i2_l i2_u) (cwV 3 hts gL_run_X3_run rfl rfl rfl (by decide +kernel) ⟨Nat.le_of_ble_eq_true rfl, Nat.le_of_ble_eq_true rfl⟩) ⟨fun a U g mk q => by obtain ⟨q0, q1, qP, qK, qD, qG⟩ := q; exact ⟨q0, q1, qP, va_K.moved (u := U) (U := U.calling g mk a) (Vm.Alike.refl U.vm) qK, qD, gv.fb qG⟩, va_recv hKc hPc (ci := 7) (q0 := 0) rfl rfl, fun U hU hW => ⟨rfl, by rw [hU], by rw [hU]; exact hPc, va_K.moved hW.alike hKc, hDc.weaken (fun _ _ _ _ => trivial), gv.pass hW hU hS hFc hG⟩⟩ rfl rfl hl.1 rfl (lv_room (Nat.le_of_ble_eq_true rfl)) dL_run_6 ⟨Nat.le_of_ble_eq_true rfl, Nat.le_of_ble_eq_true rfl⟩) hS (fun q _ h => hFc q h) hFc (fun q _ h => hFc q h) (fun E ce q9 u t H1 locs ht hvm hpx hB hz1 hk1 hS hce hcv hcl => ?_) (fun r9 u t H1 locs ht hvm hw hB hz1 hk1 hS => hw.elim)
  obtain ⟨rfl, hP1, hK1, hD1⟩ := hB
  rw [ht] at hP1
  have hK1 := va_K.moved hvm.symm hK1
  obtain ⟨hP, hD⟩ := va_join (wr := []) (w1 := [(h0, .inr (7, [.ref z1, .ref z2, .ref z3, .ref z4, .ref z5, .ref z6, .int 0, .int 0, .int 0]))]) hP hD [0] [] rfl rfl (by decide) (by decide) hk1 hFc hP1 hD1
  generalize H1 = H at hP hS hce ⊢
  have hP : va_P (dC, dI) vwCl [(h0, .inr (7, [.ref z1, .ref z2, .ref z3, .ref z4, .ref z5, .ref z6, .int 0, .int 0, .int 0]))] H := hP
  have hD : va_D A [(h0, .inr (7, [.ref z1, .ref z2, .ref z3, .ref z4, .ref z5, .ref z6, .int 0, .int 0, .int 0]))] := hD
  refine vx_catch (own := RL) (name := "java/lang/IllegalArgumentException") hown (tableOf [(0, 13, 16, 19)]) ⟨0, 13, 20, 21⟩ (tableOf []) (by rw [htab]; rfl) (fun z hz => by
      simp only [tableOf, List.map_cons, List.map_nil, List.mem_cons, List.not_mem_nil, or_false] at hz
      rcases hz with rfl
      · exact Or.inr ⟨by decide, "java/lang/IndexOutOfBoundsException", hts (.classLink RL 19 "java/lang/IndexOutOfBoundsException") (by decide +kernel), g_nc_IA_IO⟩) (by decide +kernel) (by decide) (hts (.classLink RL 21 "java/lang/IllegalArgumentException") (by decide +kernel)) (va_Nw.use rfl g_ca_IA) hce hcv hcl ?_
  refine W.eq (g2 := F0 m 20 ls [.ref q9]) rfl ?_
  refine lv_astore (lv' := [(5, .ref q9), (0, .ref h0), (1, .int i0), (2, .int i1), (3, .int i2), (4, .ref z0)]) hx hb dL_run_20 hl (by decide) rfl (fun ls hl => ?_)
  refine lv_iconst (v := 2) hx hb dL_run_22 (by decide) ?_
  exact W.iret (v := 2) hx hb hr (fun t ht hW => ⟨⟨2, (), rfl, rfl, by rw [ht]; exact hP, va_K.moved hW.alike hK, hD⟩, hS.F ht⟩) hS.2.2 dL_run_23
set_option maxHeartbeats 4000000 in
set_option maxRecDepth 100000 in
theorem kx_X5_run_0 (l : Launch) (dC : Nat → ClassId) (dI : Nat → Nat → Nat) (h0 : Nat) (z0 : Nat) (z1 : Nat) (z2 : Nat) (sz : Nat) (i0 : Int32) (i0_l : (0 : Int) ≤ i0.toInt) (i0_u : i0.toInt ≤ (3 : Int)) (i1 : Int32) (i1_l : ((-2147483648) : Int) ≤ i1.toInt) (i1_u : i1.toInt ≤ ((-1) : Int)) (i2 : Int32) (i2_l : ((-2147483648) : Int) ≤ i2.toInt) (i2_u : i2.toInt ≤ (2147483647 : Int)) : Met l yX5_run wsX5_run ({ frames := 2, cells := 0, slots := 0, locals := 42 }) (va_Pc [.ref h0, .int i0, .int i1, .int i2] (fun U => U.heap.size = sz ∧ va_P (dC, dI) vwCl [(h0, .inr (9, [.int 0, .ref z0, .ref z1, .ref z2, .int 0, .int 0, .int 0]))] U.heap ∧ va_K (dC, dI) vwCl [] U ∧ va_D (fun _ => True) [(h0, .inr (9, [.int 0, .ref z0, .ref z1, .ref z2, .int 0, .int 0, .int 0]))])) (va_Qi (fun (r : Int32) (_ : Unit) => r = 0) (fun (_ : Unit) (t : State) => va_P (dC, dI) vwCl [(h0, .inr (9, [.int 2, .ref z0, .ref z1, .ref z2, .int 0, .int 0, .int 0]))] t.heap ∧ va_K (dC, dI) vwCl [] t ∧ va_D (va_A [(h0, .inr (9, [.int 0, .ref z0, .ref z1, .ref z2, .int 0, .int 0, .int 0]))] sz) [(h0, .inr (9, [.int 2, .ref z0, .ref z1, .ref z2, .int 0, .int 0, .int 0]))]) (va_A [(h0, .inr (9, [.int 0, .ref z0, .ref z1, .ref z2, .int 0, .int 0, .int 0]))] sz)) 0 0 (va_A [(h0, .inr (9, [.int 0, .ref z0, .ref z1, .ref z2, .int 0, .int 0, .int 0]))] sz) := by
  refine Met.ofW (cc := cX5_run) (maxL := 5) (ret := (some .int)) (by decide) rfl ?_
  intro p e s m args below meth c s₁ B hml hv
  obtain ⟨rfl, hsz, hP, hK, hD0⟩ := hv
  have hx := B.exec
  have hb := B.bytes
  have hr := B.returns
  have hts := atoms_spec (ws := wsX5_run) B.pre
  have hown : s.vm.findClass RX5 = some m.cls := findClass_of_methodNamed B.named
  have hlocks := B.notSynchronized
  subst hsz
  have hD := hD0.self (sz := s.heap.size)
  generalize hAe : va_A [(h0, .inr (9, [.int 0, .ref z0, .ref z1, .ref z2, .int 0, .int 0, .int 0]))] s.heap.size = A at hD ⊢
  have hA : ∀ q : Nat, s.heap.size ≤ q → A q := fun q h => by rw [← hAe]; exact Or.inr h
  have hS : va_S A s.heap s.heap [] := va_S.rf
  have hP : va_P (dC, dI) vwCl [(h0, .inr (9, [.int 0, .ref z0, .ref z1, .ref z2, .int 0, .int 0, .int 0]))] s.heap := hP
  have hl := lv_entry ([.ref h0, .int i0, .int i1, .int i2]) (n := 5) (Nat.le_of_ble_eq_true rfl)
  rw [lg_entry_eq]
  generalize (lg_sl ([.ref h0, .int i0, .int i1, .int i2]) ++ List.replicate (5 - (lg_sl ([.ref h0, .int i0, .int i1, .int i2])).length) Slot.unset).toArray = ls at hl ⊢
  have hl : lv_has ls 5 [(0, .ref h0), (1, .int i0), (2, .int i1), (3, .int i2)] := hl
  refine lv_aload_n hx hb dX5_run_0 rfl (lv_at hl 0 rfl) ?_
  refine lv_iload_n hx hb dX5_run_1 rfl (lv_at hl 1 rfl) ?_
  have hPc := hP.sub (ws' := []) [] rfl
  have hDc := hD.sub (ws' := []) [] (by decide) rfl
  have hKc := hK.sub (tys' := []) [] rfl
  have hFc := va_free (wc := []) hD hS hA [] rfl
  refine va_calli (va_runS (As := [.int i0]) (rest := [.ref h0]) ⟨hx, hb, hml, hown, hts⟩ (kx_X5_isNo_1 l dC dI s.heap.size i0 i0_l i0_u) (cwS 1 hts gX5_run_X5_isNo rfl rfl rfl (by decide +kernel) ⟨Nat.le_of_ble_eq_true rfl, Nat.le_of_ble_eq_true rfl⟩) ⟨fun a U g mk q => by obtain ⟨q0, q1, qP, qK, qD⟩ := q; exact ⟨q0, q1, qP, va_K.moved (u := U) (U := U.calling g mk a) (Vm.Alike.refl U.vm) qK, qD⟩, fun U hU hW => ⟨rfl, by rw [hU], by rw [hU]; exact hPc, va_K.moved hW.alike hKc, hDc.weaken (fun _ _ _ _ => trivial)⟩⟩ rfl rfl hl.1 rfl (lv_room (Nat.le_of_ble_eq_true rfl)) dX5_run_2 ⟨Nat.le_of_ble_eq_true rfl, Nat.le_of_ble_eq_true rfl⟩) hS (fun q _ h => hFc q h) hFc (fun r9 u t H1 locs ht hvm hw hB hz1 hk1 hS => ?_)
  obtain rfl := hw
  obtain ⟨hP1, hK1, hD1⟩ := hB
  rw [ht] at hP1
  have hK1 := va_K.moved hvm.symm hK1
  obtain ⟨hP, hD⟩ := va_join (wr := [(h0, .inr (9, [.int 0, .ref z0, .ref z1, .ref z2, .int 0, .int 0, .int 0]))]) (w1 := []) hP hD [] [0] rfl rfl (by decide) (by decide) hk1 hFc hP1 hD1
  generalize H1 = H at hP hS ⊢
  have hP : va_P (dC, dI) vwCl [(h0, .inr (9, [.int 0, .ref z0, .ref z1, .ref z2, .int 0, .int 0, .int 0]))] H := hP
  have hD : va_D A [(h0, .inr (9, [.int 0, .ref z0, .ref z1, .ref z2, .int 0, .int 0, .int 0]))] := hD
  refine lv_iload_n hx hb dX5_run_5 rfl (lv_at hl 2 rfl) ?_
  refine lv_iconst (v := 0) hx hb dX5_run_6 (by decide) ?_
  refine lv_iconst (v := 2) hx hb dX5_run_7 (by decide) ?_
  have hPc := hP.sub (ws' := []) [] rfl
  have hDc := hD.sub (ws' := []) [] (by decide) rfl
  have hKc := hK.sub (tys' := []) [] rfl
  have hFc := va_free (wc := []) hD hS hA [] rfl
  refine va_calli (va_runS (As := [.int i1, .int 0, .int 2]) (rest := [.int 0, .ref h0]) ⟨hx, hb, hml, hown, hts⟩ (kx_X5_isIn_22 l dC dI H.size i1 i1_l i1_u) (cwS 3 hts gX5_run_X5_isIn rfl rfl rfl (by decide +kernel) ⟨Nat.le_of_ble_eq_true rfl, Nat.le_of_ble_eq_true rfl⟩) ⟨fun a U g mk q => by obtain ⟨q0, q1, qP, qK, qD⟩ := q; exact ⟨q0, q1, qP, va_K.moved (u := U) (U := U.calling g mk a) (Vm.Alike.refl U.vm) qK, qD⟩, fun U hU hW => ⟨rfl, by rw [hU], by rw [hU]; exact hPc, va_K.moved hW.alike hKc, hDc.weaken (fun _ _ _ _ => trivial)⟩⟩ rfl rfl hl.1 rfl (lv_room (Nat.le_of_ble_eq_true rfl)) dX5_run_8 ⟨Nat.le_of_ble_eq_true rfl, Nat.le_of_ble_eq_true rfl⟩) hS (fun q _ h => hFc q h) hFc (fun r9 u t H1 locs ht hvm hw hB hz1 hk1 hS => ?_)
  obtain rfl := hw
  obtain ⟨hP1, hK1, hD1⟩ := hB
  rw [ht] at hP1
  have hK1 := va_K.moved hvm.symm hK1
  obtain ⟨hP, hD⟩ := va_join (wr := [(h0, .inr (9, [.int 0, .ref z0, .ref z1, .ref z2, .int 0, .int 0, .int 0]))]) (w1 := []) hP hD [] [0] rfl rfl (by decide) (by decide) hk1 hFc hP1 hD1
  generalize H1 = H at hP hS ⊢
  have hP : va_P (dC, dI) vwCl [(h0, .inr (9, [.int 0, .ref z0, .ref z1, .ref z2, .int 0, .int 0, .int 0]))] H := hP
  have hD : va_D A [(h0, .inr (9, [.int 0, .ref z0, .ref z1, .ref z2, .int 0, .int 0, .int 0]))] := hD
  refine lv_if_eq (tgt := 24) hx hb dX5_run_11 (by decide) (fun _ => ?_) (fun c9 => absurd (by decide) c9)
  refine lv_iconst (v := 1) hx hb dX5_run_24 (by decide) ?_
  refine lv_goto (tgt := 29) hx hb dX5_run_25 (by decide) ?_
  refine lv_iconst (v := 0) hx hb dX5_run_29 (by decide) ?_
  have hPc := hP.sub (ws' := [(h0, .inr (9, [.int 0, .ref z0, .ref z1, .ref z2, .int 0, .int 0, .int 0]))]) [0] rfl
  have hDc := hD.sub (ws' := [(h0, .inr (9, [.int 0, .ref z0, .ref z1, .ref z2, .int 0, .int 0, .int 0]))]) [0] (by decide) rfl
  have hKc := hK.sub (tys' := []) [] rfl
  have hFc := va_free (wc := [(h0, .inr (9, [.int 0, .ref z0, .ref z1, .ref z2, .int 0, .int 0, .int 0]))]) hD hS hA [0] rfl
  refine va_calli (va_runV (As := [.int 0, .int 1, .int 0]) (rest := []) ⟨hx, hb, hml, hown, hts⟩ (kx_X5_fails_3 l dC dI h0 z0 z1 z2 H.size) (cwV 3 hts gX5_run_X5_fails rfl rfl rfl (by decide +kernel) ⟨Nat.le_of_ble_eq_true rfl, Nat.le_of_ble_eq_true rfl⟩) ⟨fun a U g mk q => by obtain ⟨q0, q1, qP, qK, qD⟩ := q; exact ⟨q0, q1, qP, va_K.moved (u := U) (U := U.calling g mk a) (Vm.Alike.refl U.vm) qK, qD⟩, va_recv hKc hPc (ci := 9) (q0 := 0) rfl rfl, fun U hU hW => ⟨rfl, by rw [hU], by rw [hU]; exact hPc, va_K.moved hW.alike hKc, hDc.weaken (fun _ _ _ _ => trivial)⟩⟩ rfl rfl hl.1 rfl (lv_room (Nat.le_of_ble_eq_true rfl)) dX5_run_30 ⟨Nat.le_of_ble_eq_true rfl, Nat.le_of_ble_eq_true rfl⟩) hS (fun q _ h => hFc q h) hFc (fun r9 u t H1 locs ht hvm hw hB hz1 hk1 hS => ?_)
  obtain rfl := hw
  obtain ⟨hP1, hK1, hD1⟩ := hB
  rw [ht] at hP1
  have hK1 := va_K.moved hvm.symm hK1
  obtain ⟨hP, hD⟩ := va_join (wr := []) (w1 := [(h0, .inr (9, [.int 2, .ref z0, .ref z1, .ref z2, .int 0, .int 0, .int 0]))]) hP hD [0] [] rfl rfl (by decide) (by decide) hk1 hFc hP1 hD1
  generalize H1 = H at hP hS ⊢
  have hP : va_P (dC, dI) vwCl [(h0, .inr (9, [.int 2, .ref z0, .ref z1, .ref z2, .int 0, .int 0, .int 0]))] H := hP
  have hD : va_D A [(h0, .inr (9, [.int 2, .ref z0, .ref z1, .ref z2, .int 0, .int 0, .int 0]))] := hD
  refine lv_if_eq (tgt := 38) hx hb dX5_run_33 (by decide) (fun c9 => absurd c9 (by decide)) (fun _ => ?_)
  refine lv_iconst (v := 0) hx hb dX5_run_36 (by decide) ?_
  exact W.iret (v := 0) hx hb hr (fun t ht hW => ⟨⟨0, (), rfl, rfl, by rw [ht]; exact hP, va_K.moved hW.alike hK, hD⟩, hS.F ht⟩) hS.2.2 dX5_run_37
set_option maxHeartbeats 4000000 in
set_option maxRecDepth 100000 in
theorem kx_X3_run_1 (l : Launch) (hst : l.stackTraces = false) (dC : Nat → ClassId) (dI : Nat → Nat → Nat) (ge5 gea gv5 gva gde gic gi0 : Nat) (h0 : Nat) (z0 : Nat) (z1 : Nat) (z2 : Nat) (z3 : Nat) (z4 : Nat) (z5 : Nat) (sz : Nat) (i0 : Int32) (i0_l : (0 : Int) ≤ i0.toInt) (i0_u : i0.toInt ≤ (3 : Int)) (i1 : Int32) (i1_l : (3 : Int) ≤ i1.toInt) (i1_u : i1.toInt ≤ (2147483647 : Int)) (i2 : Int32) (i2_l : ((-2147483648) : Int) ≤ i2.toInt) (i2_u : i2.toInt ≤ (2147483647 : Int)) : vx_Met l yX3_run wsX3_run ({ frames := 7, cells := 1, slots := 6, locals := 140 }) (va_Pc [.ref h0, .int i0, .int i1, .int i2] (fun U => U.heap.size = sz ∧ va_P (dC, dI) vwCl [(h0, .inr (7, [.ref z0, .ref z1, .ref z2, .ref z3, .ref z4, .ref z5, .int 0, .int 0, .int 0]))] U.heap ∧ va_K (dC, dI) vwCl [] U ∧ va_D (fun _ => True) [(h0, .inr (7, [.ref z0, .ref z1, .ref z2, .ref z3, .ref z4, .ref z5, .int 0, .int 0, .int 0]))] ∧ gv ge5 gea gv5 gva gde gic gi0 (va_A [(h0, .inr (7, [.ref z0, .ref z1, .ref z2, .ref z3, .ref z4, .ref z5, .int 0, .int 0, .int 0]))] sz) U U.heap)) (va_Qi (fun (_ : Int32) (_ : Unit) => False) (fun _ _ => True) (va_A [(h0, .inr (7, [.ref z0, .ref z1, .ref z2, .ref z3, .ref z4, .ref z5, .int 0, .int 0, .int 0]))] sz)) (vx_X (fun _ : Unit => True) (fun (E : String) (_ : Unit) (t : State) => E = "java/lang/IllegalArgumentException" ∧ va_P (dC, dI) vwCl [(h0, .inr (7, [.ref z0, .ref z1, .ref z2, .ref z3, .ref z4, .ref z5, .int 0, .int 0, .int 0]))] t.heap ∧ va_K (dC, dI) vwCl [] t ∧ va_D (va_A [(h0, .inr (7, [.ref z0, .ref z1, .ref z2, .ref z3, .ref z4, .ref z5, .int 0, .int 0, .int 0]))] sz) [(h0, .inr (7, [.ref z0, .ref z1, .ref z2, .ref z3, .ref z4, .ref z5, .int 0, .int 0, .int 0]))]) (va_A [(h0, .inr (7, [.ref z0, .ref z1, .ref z2, .ref z3, .ref z4, .ref z5, .int 0, .int 0, .int 0]))] sz)) 1 6 (va_A [(h0, .inr (7, [.ref z0, .ref z1, .ref z2, .ref z3, .ref z4, .ref z5, .int 0, .int 0, .int 0]))] sz) := by
  refine vx_ofW (cc := cX3_run) (maxL := 5) (ret := (some .int)) (by decide) rfl ?_
  intro p e s m args below meth c s₁ B hml ht9 hv
  obtain ⟨rfl, hsz, hP, hK, hD0, hG⟩ := hv
  have hx := B.exec
  have hb := B.bytes
  have hr := B.returns
  have hts := atoms_spec (ws := wsX3_run) B.pre
  have hown : s.vm.findClass RX3 = some m.cls := findClass_of_methodNamed B.named
  have hlocks := B.notSynchronized
  subst hsz
  have hD := hD0.self (sz := s.heap.size)
  generalize hAe : va_A [(h0, .inr (7, [.ref z0, .ref z1, .ref z2, .ref z3, .ref z4, .ref z5, .int 0, .int 0, .int 0]))] s.heap.size = A at hD hG ⊢
  obtain ⟨⟨g_AO_Text, g_AO_String, g_AO_Object, g_nm_RX1_20, g_nm_RX0_17, g_nm_RX3_31, g_nm_RX2_44, g_nm_RL_121, g_nf_RL_13, g_nf_RL_47, g_ca_IO, g_ca_IA, g_ca_IS, g_ca_IntObj, g_ca_StrObj, g_de_RT, g_de_EX, g_de_TH, g_nc_IA_IO, g_nc_IS_IO, g_nc_IS_IA⟩, ⟨g_s3, g_s5, g_sa, g_x278, g_x280, g_x282, g_x284, g_x286, g_x180, g_x238, g_x250⟩, ⟨g_o5, g_c5, g_v5, g_t5, g_oa, g_ca, g_va, g_ta, g_zc, g_zd, g_td, g_zf, g_zU, g_zN, g_zh, g_zk, g_tk, g_oi, g_vi⟩⟩ := id hG
  have hA : ∀ q : Nat, s.heap.size ≤ q → A q := fun q h => by rw [← hAe]; exact Or.inr h
  have hS : va_S A s.heap s.heap [] := va_S.rf
  have hP : va_P (dC, dI) vwCl [(h0, .inr (7, [.ref z0, .ref z1, .ref z2, .ref z3, .ref z4, .ref z5, .int 0, .int 0, .int 0]))] s.heap := hP
  have hl := lv_entry ([.ref h0, .int i0, .int i1, .int i2]) (n := 5) (Nat.le_of_ble_eq_true rfl)
  rw [lg_entry_eq]
  generalize (lg_sl ([.ref h0, .int i0, .int i1, .int i2]) ++ List.replicate (5 - (lg_sl ([.ref h0, .int i0, .int i1, .int i2])).length) Slot.unset).toArray = ls at hl ⊢
  have hl : lv_has ls 5 [(0, .ref h0), (1, .int i0), (2, .int i1), (3, .int i2)] := hl
  refine lv_iload_n hx hb dX3_run_0 rfl (lv_at hl 1 rfl) ?_
  have hPc := hP.sub (ws' := []) [] rfl
  have hDc := hD.sub (ws' := []) [] (by decide) rfl
  have hKc := hK.sub (tys' := []) [] rfl
  have hFc := va_free (wc := []) hD hS hA [] rfl
  refine va_callv (va_runS (As := [.int i0]) (rest := []) ⟨hx, hb, hml, hown, hts⟩ (kx_X3_needRope_4 l dC dI s.heap.size i0 i0_l i0_u) (cwS 1 hts gX3_run_X3_needRope rfl rfl rfl (by decide +kernel) ⟨Nat.le_of_ble_eq_true rfl, Nat.le_of_ble_eq_true rfl⟩) ⟨fun a U g mk q => by obtain ⟨q0, q1, qP, qK, qD⟩ := q; exact ⟨q0, q1, qP, va_K.moved (u := U) (U := U.calling g mk a) (Vm.Alike.refl U.vm) qK, qD⟩, fun U hU hW => ⟨rfl, by rw [hU], by rw [hU]; exact hPc, va_K.moved hW.alike hKc, hDc.weaken (fun _ _ _ _ => trivial)⟩⟩ rfl rfl hl.1 rfl (lv_room (Nat.le_of_ble_eq_true rfl)) dX3_run_1 ⟨Nat.le_of_ble_eq_true rfl, Nat.le_of_ble_eq_true rfl⟩) hS (fun q _ h => hFc q h) hFc (fun u t H1 locs ht hvm hw hB hz1 hk1 hS => ?_)
  obtain ⟨hP1, hK1, hD1⟩ := hB
  rw [ht] at hP1
  have hK1 := va_K.moved hvm.symm hK1
  obtain ⟨hP, hD⟩ := va_join (wr := [(h0, .inr (7, [.ref z0, .ref z1, .ref z2, .ref z3, .ref z4, .ref z5, .int 0, .int 0, .int 0]))]) (w1 := []) hP hD [] [0] rfl rfl (by decide) (by decide) hk1 hFc hP1 hD1
  generalize H1 = H at hP hS ⊢
  have hP : va_P (dC, dI) vwCl [(h0, .inr (7, [.ref z0, .ref z1, .ref z2, .ref z3, .ref z4, .ref z5, .int 0, .int 0, .int 0]))] H := hP
  have hD : va_D A [(h0, .inr (7, [.ref z0, .ref z1, .ref z2, .ref z3, .ref z4, .ref z5, .int 0, .int 0, .int 0]))] := hD
  refine lv_iload_n hx hb dX3_run_4 rfl (lv_at hl 2 rfl) ?_
  have hPc := hP.sub (ws' := []) [] rfl
  have hDc := hD.sub (ws' := []) [] (by decide) rfl
  have hKc := hK.sub (tys' := []) [] rfl
  have hFc := va_free (wc := []) hD hS hA [] rfl
  refine vx_callv (vx_runS (As := [.int i1]) (rest := []) ⟨hx, hb, hml, hown, hts⟩ (kx_X3_needWay_2 l hst dC dI ge5 gea gv5 gva gde gic gi0 H.size i1 i1_l i1_u) (cwS 1 hts gX3_run_X3_needWay rfl rfl rfl (by decide +kernel) ⟨Nat.le_of_ble_eq_true rfl, Nat.le_of_ble_eq_true rfl⟩) ⟨fun a U g mk q => by obtain ⟨q0, q1, qP, qK, qD, qG⟩ := q; exact ⟨q0, q1, qP, va_K.moved (u := U) (U := U.calling g mk a) (Vm.Alike.refl U.vm) qK, qD, gv.fb qG⟩, fun U hU hW => ⟨rfl, by rw [hU], by rw [hU]; exact hPc, va_K.moved hW.alike hKc, hDc.weaken (fun _ _ _ _ => trivial), gv.pass hW hU hS hFc hG⟩⟩ rfl rfl hl.1 rfl (lv_room (Nat.le_of_ble_eq_true rfl)) dX3_run_5 ⟨Nat.le_of_ble_eq_true rfl, Nat.le_of_ble_eq_true rfl⟩) hS (fun q _ h => hFc q h) hFc (fun q _ h => hFc q h) (fun E ce q9 u t H1 locs ht hvm hpx hB hz1 hk1 hS hce hcv hcl => ?_) (fun u t H1 locs ht hvm hw hB hz1 hk1 hS => hw.elim)
  obtain ⟨rfl, hP1, hK1, hD1⟩ := hB
  rw [ht] at hP1
  have hK1 := va_K.moved hvm.symm hK1
  obtain ⟨hP, hD⟩ := va_join (wr := [(h0, .inr (7, [.ref z0, .ref z1, .ref z2, .ref z3, .ref z4, .ref z5, .int 0, .int 0, .int 0]))]) (w1 := []) hP hD [] [0] rfl rfl (by decide) (by decide) hk1 hFc hP1 hD1
  generalize H1 = H at hP hS hce ⊢
  have hP : va_P (dC, dI) vwCl [(h0, .inr (7, [.ref z0, .ref z1, .ref z2, .ref z3, .ref z4, .ref z5, .int 0, .int 0, .int 0]))] H := hP
  have hD : va_D A [(h0, .inr (7, [.ref z0, .ref z1, .ref z2, .ref z3, .ref z4, .ref z5, .int 0, .int 0, .int 0]))] := hD
  exact vx_out (fun x hx9 => (ht9 x hx9).elim) hlocks hce hcv hcl (fun t ht hW => ⟨(), trivial, ⟨rfl, by rw [ht]; exact hP, va_K.moved hW hK, hD⟩, hS.F ht⟩) hS.2.2 (by omega) (by omega)
set_option maxHeartbeats 4000000 in
set_option maxRecDepth 100000 in
theorem kx_L_run_1 (l : Launch) (hst : l.stackTraces = false) (dC : Nat → ClassId) (dI : Nat → Nat → Nat) (ge5 gea gv5 gva gde gic gi0 : Nat) (h0 : Nat) (z0 : Nat) (z1 : Nat) (z2 : Nat) (z3 : Nat) (z4 : Nat) (z5 : Nat) (z6 : Nat) (sz : Nat) (i0 : Int32) (i0_l : (0 : Int) ≤ i0.toInt) (i0_u : i0.toInt ≤ (3 : Int)) (i1 : Int32) (i1_l : (3 : Int) ≤ i1.toInt) (i1_u : i1.toInt ≤ (2147483647 : Int)) (i2 : Int32) (i2_l : ((-2147483648) : Int) ≤ i2.toInt) (i2_u : i2.toInt ≤ (2147483647 : Int)) : Met l yL_run wsL_run ({ frames := 8, cells := 1, slots := 6, locals := 164 }) (va_Pc [.ref h0, .int i0, .int i1, .int i2, .ref z0] (fun U => U.heap.size = sz ∧ va_P (dC, dI) vwCl [(h0, .inr (7, [.ref z1, .ref z2, .ref z3, .ref z4, .ref z5, .ref z6, .int 0, .int 0, .int 0]))] U.heap ∧ va_K (dC, dI) vwCl [] U ∧ va_D (fun _ => True) [(h0, .inr (7, [.ref z1, .ref z2, .ref z3, .ref z4, .ref z5, .ref z6, .int 0, .int 0, .int 0]))] ∧ gv ge5 gea gv5 gva gde gic gi0 (va_A [(h0, .inr (7, [.ref z1, .ref z2, .ref z3, .ref z4, .ref z5, .ref z6, .int 0, .int 0, .int 0]))] sz) U U.heap)) (va_Qi (fun (r : Int32) (_ : Unit) => r = 2) (fun (_ : Unit) (t : State) => va_P (dC, dI) vwCl [(h0, .inr (7, [.ref z1, .ref z2, .ref z3, .ref z4, .ref z5, .ref z6, .int 0, .int 0, .int 0]))] t.heap ∧ va_K (dC, dI) vwCl [] t ∧ va_D (va_A [(h0, .inr (7, [.ref z1, .ref z2, .ref z3, .ref z4, .ref z5, .ref z6, .int 0, .int 0, .int 0]))] sz) [(h0, .inr (7, [.ref z1, .ref z2, .ref z3, .ref z4, .ref z5, .ref z6, .int 0, .int 0, .int 0]))]) (va_A [(h0, .inr (7, [.ref z1, .ref z2, .ref z3, .ref z4, .ref z5, .ref z6, .int 0, .int 0, .int 0]))] sz)) 1 6 (va_A [(h0, .inr (7, [.ref z1, .ref z2, .ref z3, .ref z4, .ref z5, .ref z6, .int 0, .int 0, .int 0]))] sz) := by
  refine kz_ofWH (cc := cL_run) (maxL := 6) (ret := (some .int)) (hh := [(0, 13, 16, 19), (0, 13, 20, 21)]) (by decide) rfl ?_
  intro p e s m args below meth c s₁ B hml hv
  obtain ⟨rfl, hsz, hP, hK, hD0, hG⟩ := hv
  have hx := B.exec
  have hb := B.bytes
  have hr := B.returns
  have hts := atoms_spec (ws := wsL_run) B.pre
  have hown : s.vm.findClass RL = some m.cls := findClass_of_methodNamed B.named
  have htab := vx_table (x := yL_run) B (hts (.codeWith yL_run cL_run 6 (some .int) [(0, 13, 16, 19), (0, 13, 20, 21)]) (by decide +kernel))
  have hlocks := B.notSynchronized
  subst hsz
  have hD := hD0.self (sz := s.heap.size)
  generalize hAe : va_A [(h0, .inr (7, [.ref z1, .ref z2, .ref z3, .ref z4, .ref z5, .ref z6, .int 0, .int 0, .int 0]))] s.heap.size = A at hD hG ⊢
  obtain ⟨⟨g_AO_Text, g_AO_String, g_AO_Object, g_nm_RX1_20, g_nm_RX0_17, g_nm_RX3_31, g_nm_RX2_44, g_nm_RL_121, g_nf_RL_13, g_nf_RL_47, g_ca_IO, g_ca_IA, g_ca_IS, g_ca_IntObj, g_ca_StrObj, g_de_RT, g_de_EX, g_de_TH, g_nc_IA_IO, g_nc_IS_IO, g_nc_IS_IA⟩, ⟨g_s3, g_s5, g_sa, g_x278, g_x280, g_x282, g_x284, g_x286, g_x180, g_x238, g_x250⟩, ⟨g_o5, g_c5, g_v5, g_t5, g_oa, g_ca, g_va, g_ta, g_zc, g_zd, g_td, g_zf, g_zU, g_zN, g_zh, g_zk, g_tk, g_oi, g_vi⟩⟩ := id hG
  have hA : ∀ q : Nat, s.heap.size ≤ q → A q := fun q h => by rw [← hAe]; exact Or.inr h
  have hS : va_S A s.heap s.heap [] := va_S.rf
  have hP : va_P (dC, dI) vwCl [(h0, .inr (7, [.ref z1, .ref z2, .ref z3, .ref z4, .ref z5, .ref z6, .int 0, .int 0, .int 0]))] s.heap := hP
  have hl := lv_entry ([.ref h0, .int i0, .int i1, .int i2, .ref z0]) (n := 6) (Nat.le_of_ble_eq_true rfl)
  rw [lg_entry_eq]
  generalize (lg_sl ([.ref h0, .int i0, .int i1, .int i2, .ref z0]) ++ List.replicate (6 - (lg_sl ([.ref h0, .int i0, .int i1, .int i2, .ref z0])).length) Slot.unset).toArray = ls at hl ⊢
  have hl : lv_has ls 6 [(0, .ref h0), (1, .int i0), (2, .int i1), (3, .int i2), (4, .ref z0)] := hl
  refine lv_aload hx hb dL_run_0 (lv_at hl 4 rfl) ?_
  refine lv_aload_n hx hb dL_run_2 rfl (lv_at hl 0 rfl) ?_
  refine lv_iload_n hx hb dL_run_3 rfl (lv_at hl 1 rfl) ?_
  refine lv_iload_n hx hb dL_run_4 rfl (lv_at hl 2 rfl) ?_
  refine lv_iload_n hx hb dL_run_5 rfl (lv_at hl 3 rfl) ?_
  have hPc := hP.sub (ws' := [(h0, .inr (7, [.ref z1, .ref z2, .ref z3, .ref z4, .ref z5, .ref z6, .int 0, .int 0, .int 0]))]) [0] rfl
  have hDc := hD.sub (ws' := [(h0, .inr (7, [.ref z1, .ref z2, .ref z3, .ref z4, .ref z5, .ref z6, .int 0, .int 0, .int 0]))]) [0] (by decide) rfl
  have hKc := hK.sub (tys' := []) [] rfl
  have hFc := va_free (wc := [(h0, .inr (7, [.ref z1, .ref z2, .ref z3, .ref z4, .ref z5, .ref z6, .int 0, .int 0, .int 0]))]) hD hS hA [0] rfl
  refine vx_calli (vx_runV (As := [.int i0, .int i1, .int i2]) (rest := [.ref z0]) ⟨hx, hb, hml, hown, hts⟩ (kx_X3_run_1 l hst dC dI ge5 gea gv5 gva gde gic gi0 h0 z1 z2 z3 z4 z5 z6 s.heap.size i0 i0_l i0_u i1 i1_l i1_u i2 i2_l i2_u) (cwV 3 hts gL_run_X3_run rfl rfl rfl (by decide +kernel) ⟨Nat.le_of_ble_eq_true rfl, Nat.le_of_ble_eq_true rfl⟩) ⟨fun a U g mk q => by obtain ⟨q0, q1, qP, qK, qD, qG⟩ := q; exact ⟨q0, q1, qP, va_K.moved (u := U) (U := U.calling g mk a) (Vm.Alike.refl U.vm) qK, qD, gv.fb qG⟩, va_recv hKc hPc (ci := 7) (q0 := 0) rfl rfl, fun U hU hW => ⟨rfl, by rw [hU], by rw [hU]; exact hPc, va_K.moved hW.alike hKc, hDc.weaken (fun _ _ _ _ => trivial), gv.pass hW hU hS hFc hG⟩⟩ rfl rfl hl.1 rfl (lv_room (Nat.le_of_ble_eq_true rfl)) dL_run_6 ⟨Nat.le_of_ble_eq_true rfl, Nat.le_of_ble_eq_true rfl⟩) hS (fun q _ h => hFc q h) hFc (fun q _ h => hFc q h) (fun E ce q9 u t H1 locs ht hvm hpx hB hz1 hk1 hS hce hcv hcl => ?_) (fun r9 u t H1 locs ht hvm hw hB hz1 hk1 hS => hw.elim)
  obtain ⟨rfl, hP1, hK1, hD1⟩ := hB
  rw [ht] at hP1
  have hK1 := va_K.moved hvm.symm hK1
  obtain ⟨hP, hD⟩ := va_join (wr := []) (w1 := [(h0, .inr (7, [.ref z1, .ref z2, .ref z3, .ref z4, .ref z5, .ref z6, .int 0, .int 0, .int 0]))]) hP hD [0] [] rfl rfl (by decide) (by decide) hk1 hFc hP1 hD1
  generalize H1 = H at hP hS hce ⊢
  have hP : va_P (dC, dI) vwCl [(h0, .inr (7, [.ref z1, .ref z2, .ref z3, .ref z4, .ref z5, .ref z6, .int 0, .int 0, .int 0]))] H := hP
  have hD : va_D A [(h0, .inr (7, [.ref z1, .ref z2, .ref z3, .ref z4, .ref z5, .ref z6, .int 0, .int 0, .int 0]))] := hD
  refine vx_catch (own := RL) (name := "java/lang/IllegalArgumentException") hown (tableOf [(0, 13, 16, 19)]) ⟨0, 13, 20, 21⟩ (tableOf []) (by rw [htab]; rfl) (fun z hz => by
      simp only [tableOf, List.map_cons, List.map_nil, List.mem_cons, List.not_mem_nil, or_false] at hz
      rcases hz with rfl
      · exact Or.inr ⟨by decide, "java/lang/IndexOutOfBoundsException", hts (.classLink RL 19 "java/lang/IndexOutOfBoundsException") (by decide +kernel), g_nc_IA_IO⟩) (by decide +kernel) (by decide) (hts (.classLink RL 21 "java/lang/IllegalArgumentException") (by decide +kernel)) (va_Nw.use rfl g_ca_IA) hce hcv hcl ?_
  refine W.eq (g2 := F0 m 20 ls [.ref q9]) rfl ?_
  refine lv_astore (lv' := [(5, .ref q9), (0, .ref h0), (1, .int i0), (2, .int i1), (3, .int i2), (4, .ref z0)]) hx hb dL_run_20 hl (by decide) rfl (fun ls hl => ?_)
  refine lv_iconst (v := 2) hx hb dL_run_22 (by decide) ?_
  exact W.iret (v := 2) hx hb hr (fun t ht hW => ⟨⟨2, (), rfl, rfl, by rw [ht]; exact hP, va_K.moved hW.alike hK, hD⟩, hS.F ht⟩) hS.2.2 dL_run_23
set_option maxHeartbeats 4000000 in
set_option maxRecDepth 100000 in
theorem kx_X5_run_1 (l : Launch) (dC : Nat → ClassId) (dI : Nat → Nat → Nat) (h0 : Nat) (z0 : Nat) (z1 : Nat) (z2 : Nat) (sz : Nat) (i0 : Int32) (i0_l : (0 : Int) ≤ i0.toInt) (i0_u : i0.toInt ≤ (3 : Int)) (i1 : Int32) (i1_l : (3 : Int) ≤ i1.toInt) (i1_u : i1.toInt ≤ (2147483647 : Int)) (i2 : Int32) (i2_l : ((-2147483648) : Int) ≤ i2.toInt) (i2_u : i2.toInt ≤ (2147483647 : Int)) : Met l yX5_run wsX5_run ({ frames := 2, cells := 0, slots := 0, locals := 42 }) (va_Pc [.ref h0, .int i0, .int i1, .int i2] (fun U => U.heap.size = sz ∧ va_P (dC, dI) vwCl [(h0, .inr (9, [.int 0, .ref z0, .ref z1, .ref z2, .int 0, .int 0, .int 0]))] U.heap ∧ va_K (dC, dI) vwCl [] U ∧ va_D (fun _ => True) [(h0, .inr (9, [.int 0, .ref z0, .ref z1, .ref z2, .int 0, .int 0, .int 0]))])) (va_Qi (fun (r : Int32) (_ : Unit) => r = 0) (fun (_ : Unit) (t : State) => va_P (dC, dI) vwCl [(h0, .inr (9, [.int 2, .ref z0, .ref z1, .ref z2, .int 0, .int 0, .int 0]))] t.heap ∧ va_K (dC, dI) vwCl [] t ∧ va_D (va_A [(h0, .inr (9, [.int 0, .ref z0, .ref z1, .ref z2, .int 0, .int 0, .int 0]))] sz) [(h0, .inr (9, [.int 2, .ref z0, .ref z1, .ref z2, .int 0, .int 0, .int 0]))]) (va_A [(h0, .inr (9, [.int 0, .ref z0, .ref z1, .ref z2, .int 0, .int 0, .int 0]))] sz)) 0 0 (va_A [(h0, .inr (9, [.int 0, .ref z0, .ref z1, .ref z2, .int 0, .int 0, .int 0]))] sz) := by
  refine Met.ofW (cc := cX5_run) (maxL := 5) (ret := (some .int)) (by decide) rfl ?_
  intro p e s m args below meth c s₁ B hml hv
  obtain ⟨rfl, hsz, hP, hK, hD0⟩ := hv
  have hx := B.exec
  have hb := B.bytes
  have hr := B.returns
  have hts := atoms_spec (ws := wsX5_run) B.pre
  have hown : s.vm.findClass RX5 = some m.cls := findClass_of_methodNamed B.named
  have hlocks := B.notSynchronized
  subst hsz
  have hD := hD0.self (sz := s.heap.size)
  generalize hAe : va_A [(h0, .inr (9, [.int 0, .ref z0, .ref z1, .ref z2, .int 0, .int 0, .int 0]))] s.heap.size = A at hD ⊢
  have hA : ∀ q : Nat, s.heap.size ≤ q → A q := fun q h => by rw [← hAe]; exact Or.inr h
  have hS : va_S A s.heap s.heap [] := va_S.rf
  have hP : va_P (dC, dI) vwCl [(h0, .inr (9, [.int 0, .ref z0, .ref z1, .ref z2, .int 0, .int 0, .int 0]))] s.heap := hP
  have hl := lv_entry ([.ref h0, .int i0, .int i1, .int i2]) (n := 5) (Nat.le_of_ble_eq_true rfl)
  rw [lg_entry_eq]
  generalize (lg_sl ([.ref h0, .int i0, .int i1, .int i2]) ++ List.replicate (5 - (lg_sl ([.ref h0, .int i0, .int i1, .int i2])).length) Slot.unset).toArray = ls at hl ⊢
  have hl : lv_has ls 5 [(0, .ref h0), (1, .int i0), (2, .int i1), (3, .int i2)] := hl
  refine lv_aload_n hx hb dX5_run_0 rfl (lv_at hl 0 rfl) ?_
  refine lv_iload_n hx hb dX5_run_1 rfl (lv_at hl 1 rfl) ?_
  have hPc := hP.sub (ws' := []) [] rfl
  have hDc := hD.sub (ws' := []) [] (by decide) rfl
  have hKc := hK.sub (tys' := []) [] rfl
  have hFc := va_free (wc := []) hD hS hA [] rfl
  refine va_calli (va_runS (As := [.int i0]) (rest := [.ref h0]) ⟨hx, hb, hml, hown, hts⟩ (kx_X5_isNo_1 l dC dI s.heap.size i0 i0_l i0_u) (cwS 1 hts gX5_run_X5_isNo rfl rfl rfl (by decide +kernel) ⟨Nat.le_of_ble_eq_true rfl, Nat.le_of_ble_eq_true rfl⟩) ⟨fun a U g mk q => by obtain ⟨q0, q1, qP, qK, qD⟩ := q; exact ⟨q0, q1, qP, va_K.moved (u := U) (U := U.calling g mk a) (Vm.Alike.refl U.vm) qK, qD⟩, fun U hU hW => ⟨rfl, by rw [hU], by rw [hU]; exact hPc, va_K.moved hW.alike hKc, hDc.weaken (fun _ _ _ _ => trivial)⟩⟩ rfl rfl hl.1 rfl (lv_room (Nat.le_of_ble_eq_true rfl)) dX5_run_2 ⟨Nat.le_of_ble_eq_true rfl, Nat.le_of_ble_eq_true rfl⟩) hS (fun q _ h => hFc q h) hFc (fun r9 u t H1 locs ht hvm hw hB hz1 hk1 hS => ?_)
  obtain rfl := hw
  obtain ⟨hP1, hK1, hD1⟩ := hB
  rw [ht] at hP1
  have hK1 := va_K.moved hvm.symm hK1
  obtain ⟨hP, hD⟩ := va_join (wr := [(h0, .inr (9, [.int 0, .ref z0, .ref z1, .ref z2, .int 0, .int 0, .int 0]))]) (w1 := []) hP hD [] [0] rfl rfl (by decide) (by decide) hk1 hFc hP1 hD1
  generalize H1 = H at hP hS ⊢
  have hP : va_P (dC, dI) vwCl [(h0, .inr (9, [.int 0, .ref z0, .ref z1, .ref z2, .int 0, .int 0, .int 0]))] H := hP
  have hD : va_D A [(h0, .inr (9, [.int 0, .ref z0, .ref z1, .ref z2, .int 0, .int 0, .int 0]))] := hD
  refine lv_iload_n hx hb dX5_run_5 rfl (lv_at hl 2 rfl) ?_
  refine lv_iconst (v := 0) hx hb dX5_run_6 (by decide) ?_
  refine lv_iconst (v := 2) hx hb dX5_run_7 (by decide) ?_
  have hPc := hP.sub (ws' := []) [] rfl
  have hDc := hD.sub (ws' := []) [] (by decide) rfl
  have hKc := hK.sub (tys' := []) [] rfl
  have hFc := va_free (wc := []) hD hS hA [] rfl
  refine va_calli (va_runS (As := [.int i1, .int 0, .int 2]) (rest := [.int 0, .ref h0]) ⟨hx, hb, hml, hown, hts⟩ (kx_X5_isIn_23 l dC dI H.size i1 i1_l i1_u) (cwS 3 hts gX5_run_X5_isIn rfl rfl rfl (by decide +kernel) ⟨Nat.le_of_ble_eq_true rfl, Nat.le_of_ble_eq_true rfl⟩) ⟨fun a U g mk q => by obtain ⟨q0, q1, qP, qK, qD⟩ := q; exact ⟨q0, q1, qP, va_K.moved (u := U) (U := U.calling g mk a) (Vm.Alike.refl U.vm) qK, qD⟩, fun U hU hW => ⟨rfl, by rw [hU], by rw [hU]; exact hPc, va_K.moved hW.alike hKc, hDc.weaken (fun _ _ _ _ => trivial)⟩⟩ rfl rfl hl.1 rfl (lv_room (Nat.le_of_ble_eq_true rfl)) dX5_run_8 ⟨Nat.le_of_ble_eq_true rfl, Nat.le_of_ble_eq_true rfl⟩) hS (fun q _ h => hFc q h) hFc (fun r9 u t H1 locs ht hvm hw hB hz1 hk1 hS => ?_)
  obtain rfl := hw
  obtain ⟨hP1, hK1, hD1⟩ := hB
  rw [ht] at hP1
  have hK1 := va_K.moved hvm.symm hK1
  obtain ⟨hP, hD⟩ := va_join (wr := [(h0, .inr (9, [.int 0, .ref z0, .ref z1, .ref z2, .int 0, .int 0, .int 0]))]) (w1 := []) hP hD [] [0] rfl rfl (by decide) (by decide) hk1 hFc hP1 hD1
  generalize H1 = H at hP hS ⊢
  have hP : va_P (dC, dI) vwCl [(h0, .inr (9, [.int 0, .ref z0, .ref z1, .ref z2, .int 0, .int 0, .int 0]))] H := hP
  have hD : va_D A [(h0, .inr (9, [.int 0, .ref z0, .ref z1, .ref z2, .int 0, .int 0, .int 0]))] := hD
  refine lv_if_eq (tgt := 24) hx hb dX5_run_11 (by decide) (fun _ => ?_) (fun c9 => absurd (by decide) c9)
  refine lv_iconst (v := 1) hx hb dX5_run_24 (by decide) ?_
  refine lv_goto (tgt := 29) hx hb dX5_run_25 (by decide) ?_
  refine lv_iconst (v := 0) hx hb dX5_run_29 (by decide) ?_
  have hPc := hP.sub (ws' := [(h0, .inr (9, [.int 0, .ref z0, .ref z1, .ref z2, .int 0, .int 0, .int 0]))]) [0] rfl
  have hDc := hD.sub (ws' := [(h0, .inr (9, [.int 0, .ref z0, .ref z1, .ref z2, .int 0, .int 0, .int 0]))]) [0] (by decide) rfl
  have hKc := hK.sub (tys' := []) [] rfl
  have hFc := va_free (wc := [(h0, .inr (9, [.int 0, .ref z0, .ref z1, .ref z2, .int 0, .int 0, .int 0]))]) hD hS hA [0] rfl
  refine va_calli (va_runV (As := [.int 0, .int 1, .int 0]) (rest := []) ⟨hx, hb, hml, hown, hts⟩ (kx_X5_fails_3 l dC dI h0 z0 z1 z2 H.size) (cwV 3 hts gX5_run_X5_fails rfl rfl rfl (by decide +kernel) ⟨Nat.le_of_ble_eq_true rfl, Nat.le_of_ble_eq_true rfl⟩) ⟨fun a U g mk q => by obtain ⟨q0, q1, qP, qK, qD⟩ := q; exact ⟨q0, q1, qP, va_K.moved (u := U) (U := U.calling g mk a) (Vm.Alike.refl U.vm) qK, qD⟩, va_recv hKc hPc (ci := 9) (q0 := 0) rfl rfl, fun U hU hW => ⟨rfl, by rw [hU], by rw [hU]; exact hPc, va_K.moved hW.alike hKc, hDc.weaken (fun _ _ _ _ => trivial)⟩⟩ rfl rfl hl.1 rfl (lv_room (Nat.le_of_ble_eq_true rfl)) dX5_run_30 ⟨Nat.le_of_ble_eq_true rfl, Nat.le_of_ble_eq_true rfl⟩) hS (fun q _ h => hFc q h) hFc (fun r9 u t H1 locs ht hvm hw hB hz1 hk1 hS => ?_)
  obtain rfl := hw
  obtain ⟨hP1, hK1, hD1⟩ := hB
  rw [ht] at hP1
  have hK1 := va_K.moved hvm.symm hK1
  obtain ⟨hP, hD⟩ := va_join (wr := []) (w1 := [(h0, .inr (9, [.int 2, .ref z0, .ref z1, .ref z2, .int 0, .int 0, .int 0]))]) hP hD [0] [] rfl rfl (by decide) (by decide) hk1 hFc hP1 hD1
  generalize H1 = H at hP hS ⊢
  have hP : va_P (dC, dI) vwCl [(h0, .inr (9, [.int 2, .ref z0, .ref z1, .ref z2, .int 0, .int 0, .int 0]))] H := hP
  have hD : va_D A [(h0, .inr (9, [.int 2, .ref z0, .ref z1, .ref z2, .int 0, .int 0, .int 0]))] := hD
  refine lv_if_eq (tgt := 38) hx hb dX5_run_33 (by decide) (fun c9 => absurd c9 (by decide)) (fun _ => ?_)
  refine lv_iconst (v := 0) hx hb dX5_run_36 (by decide) ?_
  exact W.iret (v := 0) hx hb hr (fun t ht hW => ⟨⟨0, (), rfl, rfl, by rw [ht]; exact hP, va_K.moved hW.alike hK, hD⟩, hS.F ht⟩) hS.2.2 dX5_run_37
