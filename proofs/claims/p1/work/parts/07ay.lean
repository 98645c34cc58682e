set_option maxHeartbeats 4000000 in
set_option maxRecDepth 100000 in
theorem kx_X3_run_2 (l : Launch) (hst : l.stackTraces = false) (dC : Nat → ClassId) (dI : Nat → Nat → Nat) (ge5 gea gv5 gva gde gic gi0 : Nat) (h0 : Nat) (z0 : Nat) (z1 : Nat) (z2 : Nat) (z3 : Nat) (z4 : Nat) (z5 : Nat) (sz : Nat) (i0 : Int32) (i0_l : ((-2147483648) : Int) ≤ i0.toInt) (i0_u : i0.toInt ≤ ((-1) : Int)) (i1 : Int32) (i1_l : ((-2147483648) : Int) ≤ i1.toInt) (i1_u : i1.toInt ≤ ((-1) : Int)) (i2 : Int32) (i2_l : ((-2147483648) : Int) ≤ i2.toInt) (i2_u : i2.toInt ≤ (2147483647 : Int)) : vx_Met l yX3_run wsX3_run ({ frames := 7, cells := 1, slots := 6, locals := 140 }) (va_Pc [.ref h0, .int i0, .int i1, .int i2] (fun U => U.heap.size = sz ∧ va_P (dC, dI) vwCl [(h0, .inr (7, [.ref z0, .ref z1, .ref z2, .ref z3, .ref z4, .ref z5, .int 0, .int 0, .int 0]))] U.heap ∧ va_K (dC, dI) vwCl [] U ∧ va_D (fun _ => True) [(h0, .inr (7, [.ref z0, .ref z1, .ref z2, .ref z3, .ref z4, .ref z5, .int 0, .int 0, .int 0]))] ∧ gv ge5 gea gv5 gva gde gic gi0 (va_A [(h0, .inr (7, [.ref z0, .ref z1, .ref z2, .ref z3, .ref z4, .ref z5, .int 0, .int 0, .int 0]))] sz) U U.heap)) (va_Qi (fun (_ : Int32) (_ : Unit) => False) (fun _ _ => True) (va_A [(h0, .inr (7, [.ref z0, .ref z1, .ref z2, .ref z3, .ref z4, .ref z5, .int 0, .int 0, .int 0]))] sz)) (vx_X (fun _ : Unit => True) (fun (E : String) (_ : Unit) (t : State) => E = "java/lang/IndexOutOfBoundsException" ∧ va_P (dC, dI) vwCl [(h0, .inr (7, [.ref z0, .ref z1, .ref z2, .ref z3, .ref z4, .ref z5, .int 0, .int 0, .int 0]))] t.heap ∧ va_K (dC, dI) vwCl [] t ∧ va_D (va_A [(h0, .inr (7, [.ref z0, .ref z1, .ref z2, .ref z3, .ref z4, .ref z5, .int 0, .int 0, .int 0]))] sz) [(h0, .inr (7, [.ref z0, .ref z1, .ref z2, .ref z3, .ref z4, .ref z5, .int 0, .int 0, .int 0]))]) (va_A [(h0, .inr (7, [.ref z0, .ref z1, .ref z2, .ref z3, .ref z4, .ref z5, .int 0, .int 0, .int 0]))] sz)) 1 6 (va_A [(h0, .inr (7, [.ref z0, .ref z1, .ref z2, .ref z3, .ref z4, .ref z5, .int 0, .int 0, .int 0]))] sz) := by
  refine vx_ofW (cc := cX3_run) (maxL := 5) (ret := (some .int)) (by decide) rfl ?_
  intro p e s m args below meth c s₁ B hml ht9 hv
  obtain ⟨rfl, hsz, hP, hK, hD0, hG⟩ := hv
  have hx := B.exec
  have hb := B.bytes
  have hr := B.returns
  have hts := atoms_spec (ws := wsX3_run) B.pre
  have hown : s.vm.findClass RX3 = some m.cls := findClass_of_methodNamed B.named
  have hlocks := B.notSynchronized
  subst hsz
  have hD := hD0.self (sz := s.heap.size)
  generalize hAe : va_A [(h0, .inr (7, [.ref z0, .ref z1, .ref z2, .ref z3, .ref z4, .ref z5, .int 0, .int 0, .int 0]))] s.heap.size = A at hD hG ⊢
  obtain ⟨⟨g_AO_Text, g_AO_String, g_AO_Object, g_nm_RX1_20, g_nm_RX0_17, g_nm_RX3_31, g_nm_RX2_44, g_nm_RL_121, g_nf_RL_13, g_nf_RL_47, g_ca_IO, g_ca_IA, g_ca_IS, g_ca_IntObj, g_ca_StrObj, g_de_RT, g_de_EX, g_de_TH, g_nc_IA_IO, g_nc_IS_IO, g_nc_IS_IA⟩, ⟨g_s3, g_s5, g_sa, g_x278, g_x280, g_x282, g_x284, g_x286, g_x180, g_x238, g_x250⟩, ⟨g_o5, g_c5, g_v5, g_t5, g_oa, g_ca, g_va, g_ta, g_zc, g_zd, g_td, g_zf, g_zU, g_zN, g_zh, g_zk, g_tk, g_oi, g_vi⟩⟩ := id hG
  have hA : ∀ q : Nat, s.heap.size ≤ q → A q := fun q h => by rw [← hAe]; exact Or.inr h
  have hS : va_S A s.heap s.heap [] := va_S.rf
  have hP : va_P (dC, dI) vwCl [(h0, .inr (7, [.ref z0, .ref z1, .ref z2, .ref z3, .ref z4, .ref z5, .int 0, .int 0, .int 0]))] s.heap := hP
  have hl := lv_entry ([.ref h0, .int i0, .int i1, .int i2]) (n := 5) (Nat.le_of_ble_eq_true rfl)
  rw [lg_entry_eq]
  generalize (lg_sl ([.ref h0, .int i0, .int i1, .int i2]) ++ List.replicate (5 - (lg_sl ([.ref h0, .int i0, .int i1, .int i2])).length) Slot.unset).toArray = ls at hl ⊢
  have hl : lv_has ls 5 [(0, .ref h0), (1, .int i0), (2, .int i1), (3, .int i2)] := hl
  refine lv_iload_n hx hb dX3_run_0 rfl (lv_at hl 1 rfl) ?_
  have hPc := hP.sub (ws' := []) [] rfl
  have hDc := hD.sub (ws' := []) [] (by decide) rfl
  have hKc := hK.sub (tys' := []) [] rfl
  have hFc := va_free (wc := []) hD hS hA [] rfl
  refine vx_callv (vx_runS (As := [.int i0]) (rest := []) ⟨hx, hb, hml, hown, hts⟩ (kx_X3_needRope_5 l hst dC dI ge5 gea gv5 gva gde gic gi0 s.heap.size i0 i0_l i0_u) (cwS 1 hts gX3_run_X3_needRope rfl rfl rfl (by decide +kernel) ⟨Nat.le_of_ble_eq_true rfl, Nat.le_of_ble_eq_true rfl⟩) ⟨fun a U g mk q => by obtain ⟨q0, q1, qP, qK, qD, qG⟩ := q; exact ⟨q0, q1, qP, va_K.moved (u := U) (U := U.calling g mk a) (Vm.Alike.refl U.vm) qK, qD, gv.fb qG⟩, fun U hU hW => ⟨rfl, by rw [hU], by rw [hU]; exact hPc, va_K.moved hW.alike hKc, hDc.weaken (fun _ _ _ _ => trivial), gv.pass hW hU hS hFc hG⟩⟩ rfl rfl hl.1 rfl (lv_room (Nat.le_of_ble_eq_true rfl)) dX3_run_1 ⟨Nat.le_of_ble_eq_true rfl, Nat.le_of_ble_eq_true rfl⟩) hS (fun q _ h => hFc q h) hFc (fun q _ h => hFc q h) (fun E ce q9 u t H1 locs ht hvm hpx hB hz1 hk1 hS hce hcv hcl => ?_) (fun u t H1 locs ht hvm hw hB hz1 hk1 hS => hw.elim)
  obtain ⟨rfl, hP1, hK1, hD1⟩ := hB
  rw [ht] at hP1
  have hK1 := va_K.moved hvm.symm hK1
  obtain ⟨hP, hD⟩ := va_join (wr := [(h0, .inr (7, [.ref z0, .ref z1, .ref z2, .ref z3, .ref z4, .ref z5, .int 0, .int 0, .int 0]))]) (w1 := []) hP hD [] [0] rfl rfl (by decide) (by decide) hk1 hFc hP1 hD1
  generalize H1 = H at hP hS hce ⊢
  have hP : va_P (dC, dI) vwCl [(h0, .inr (7, [.ref z0, .ref z1, .ref z2, .ref z3, .ref z4, .ref z5, .int 0, .int 0, .int 0]))] H := hP
  have hD : va_D A [(h0, .inr (7, [.ref z0, .ref z1, .ref z2, .ref z3, .ref z4, .ref z5, .int 0, .int 0, .int 0]))] := hD
  exact vx_out (fun x hx9 => (ht9 x hx9).elim) hlocks hce hcv hcl (fun t ht hW => ⟨(), trivial, ⟨rfl, by rw [ht]; exact hP, va_K.moved hW hK, hD⟩, hS.F ht⟩) hS.2.2 (by omega) (by omega)
set_option maxHeartbeats 4000000 in
set_option maxRecDepth 100000 in
theorem kx_L_run_2 (l : Launch) (hst : l.stackTraces = false) (dC : Nat → ClassId) (dI : Nat → Nat → Nat) (ge5 gea gv5 gva gde gic gi0 : Nat) (h0 : Nat) (z0 : Nat) (z1 : Nat) (z2 : Nat) (z3 : Nat) (z4 : Nat) (z5 : Nat) (z6 : Nat) (sz : Nat) (i0 : Int32) (i0_l : ((-2147483648) : Int) ≤ i0.toInt) (i0_u : i0.toInt ≤ ((-1) : Int)) (i1 : Int32) (i1_l : ((-2147483648) : Int) ≤ i1.toInt) (i1_u : i1.toInt ≤ ((-1) : Int)) (i2 : Int32) (i2_l : ((-2147483648) : Int) ≤ i2.toInt) (i2_u : i2.toInt ≤ (2147483647 : Int)) : Met l yL_run wsL_run ({ frames := 8, cells := 1, slots := 6, locals := 164 }) (va_Pc [.ref h0, .int i0, .int i1, .int i2, .ref z0] (fun U => U.heap.size = sz ∧ va_P (dC, dI) vwCl [(h0, .inr (7, [.ref z1, .ref z2, .ref z3, .ref z4, .ref z5, .ref z6, .int 0, .int 0, .int 0]))] U.heap ∧ va_K (dC, dI) vwCl [] U ∧ va_D (fun _ => True) [(h0, .inr (7, [.ref z1, .ref z2, .ref z3, .ref z4, .ref z5, .ref z6, .int 0, .int 0, .int 0]))] ∧ gv ge5 gea gv5 gva gde gic gi0 (va_A [(h0, .inr (7, [.ref z1, .ref z2, .ref z3, .ref z4, .ref z5, .ref z6, .int 0, .int 0, .int 0]))] sz) U U.heap)) (va_Qi (fun (r : Int32) (_ : Unit) => r = 1) (fun (_ : Unit) (t : State) => va_P (dC, dI) vwCl [(h0, .inr (7, [.ref z1, .ref z2, .ref z3, .ref z4, .ref z5, .ref z6, .int 0, .int 0, .int 0]))] t.heap ∧ va_K (dC, dI) vwCl [] t ∧ va_D (va_A [(h0, .inr (7, [.ref z1, .ref z2, .ref z3, .ref z4, .ref z5, .ref z6, .int 0, .int 0, .int 0]))] sz) [(h0, .inr (7, [.ref z1, .ref z2, .ref z3, .ref z4, .ref z5, .ref z6, .int 0, .int 0, .int 0]))]) (va_A [(h0, .inr (7, [.ref z1, .ref z2, .ref z3, .ref z4, .ref z5, .ref z6, .int 0, .int 0, .int 0]))] sz)) 1 6 (va_A [(h0, .inr (7, [.ref z1, .ref z2, .ref z3, .ref z4, .ref z5, .ref z6, .int 0, .int 0, .int 0]))] sz) := by
  refine kz_ofWH (cc := cL_run) (maxL := 6) (ret := (some .int)) (hh := [(0, 13, 16, 19), (0, 13, 20, 21)]) (by decide) rfl ?_
  intro p e s m args below meth c s₁ B hml hv
  obtain ⟨rfl, hsz, hP, hK, hD0, hG⟩ := hv
  have hx := B.exec
  have hb := B.bytes
  have hr := B.returns
  have hts := atoms_spec (ws := wsL_run) B.pre
  have hown : s.vm.findClass RL = some m.cls := findClass_of_methodNamed B.named
  have htab := vx_table (x := yL_run) B (hts (.codeWith yL_run cL_run 6 (some .int) [(0, 13, 16, 19), (0, 13, 20, 21)]) (by decide +kernel))
  have hlocks := B.notSynchronized
  subst hsz
  have hD := hD0.self (sz := s.heap.size)
  generalize hAe : va_A [(h0, .inr (7, [.ref z1, .ref z2, .ref z3, .ref z4, .ref z5, .ref z6, .int 0, .int 0, .int 0]))] s.heap.size = A at hD hG ⊢
  obtain ⟨⟨g_AO_Text, g_AO_String, g_AO_Object, g_nm_RX1_20, g_nm_RX0_17, g_nm_RX3_31, g_nm_RX2_44, g_nm_RL_121, g_nf_RL_13, g_nf_RL_47, g_ca_IO, g_ca_IA, g_ca_IS, g_ca_IntObj, g_ca_StrObj, g_de_RT, g_de_EX, g_de_TH, g_nc_IA_IO, g_nc_IS_IO, g_nc_IS_IA⟩, ⟨g_s3, g_s5, g_sa, g_x278, g_x280, g_x282, g_x284, g_x286, g_x180, g_x238, g_x250⟩, ⟨g_o5, g_c5, g_v5, g_t5, g_oa, g_ca, g_va, g_ta, g_zc, g_zd, g_td, g_zf, g_zU, g_zN, g_zh, g_zk, g_tk, g_oi, g_vi⟩⟩ := id hG
  have hA : ∀ q : Nat, s.heap.size ≤ q → A q := fun q h => by rw [← hAe]; exact Or.inr h
  have hS : va_S A s.heap s.heap [] := va_S.rf
  have hP : va_P (dC, dI) vwCl [(h0, .inr (7, [.ref z1, .ref z2, .ref z3, .ref z4, .ref z5, .ref z6, .int 0, .int 0, .int 0]))] s.heap := hP
  have hl := lv_entry ([.ref h0, .int i0, .int i1, .int i2, .ref z0]) (n := 6) (Nat.le_of_ble_eq_true rfl)
  rw [lg_entry_eq]
  generalize (lg_sl ([.ref h0, .int i0, .int i1, .int i2, .ref z0]) ++ List.replicate (6 - (lg_sl ([.ref h0, .int i0, .int i1, .int i2, .ref z0])).length) Slot.unset).toArray = ls at hl ⊢
  have hl : lv_has ls 6 [(0, .ref h0), (1, .int i0), (2, .int i1), (3, .int i2), (4, .ref z0)] := hl
  refine lv_aload hx hb dL_run_0 (lv_at hl 4 rfl) ?_
  refine lv_aload_n hx hb dL_run_2 rfl (lv_at hl 0 rfl) ?_
  refine lv_iload_n hx hb dL_run_3 rfl (lv_at hl 1 rfl) ?_
  refine lv_iload_n hx hb dL_run_4 rfl (lv_at hl 2 rfl) ?_
  refine lv_iload_n hx hb dL_run_5 rfl (lv_at hl 3 rfl) ?_
  have hPc := hP.sub (ws' := [(h0, .inr (7, [.ref z1, .ref z2, .ref z3, .ref z4, .ref z5, .ref z6, .int 0, .int 0, .int 0]))]) [0] rfl
  have hDc := hD.sub (ws' := [(h0, .inr (7, [.ref z1, .ref z2, .ref z3, .ref z4, .ref z5, .ref z6, .int 0, .int 0, .int 0]))]) [0] (by decide) rfl
  have hKc := hK.sub (tys' := []) [] rfl
  have hFc := va_free (wc := [(h0, .inr (7, [.ref z1, .ref z2, .ref z3, .ref z4, .ref z5, .ref z6, .int 0, .int 0, .int 0]))]) hD hS hA [0] rfl
  refine vx_calli (vx_runV (As := [.int i0, .int i1, .int i2]) (rest := [.ref z0]) ⟨hx, hb, hml, hown, hts⟩ (kx_X3_run_2 l hst dC dI ge5 gea gv5 gva gde gic gi0 h0 z1 z2 z3 z4 z5 z6 s.heap.size i0 i0_l i0_u i1 i1_l i1_u i2 i2_l i2_u) (cwV 3 hts gL_run_X3_run rfl rfl rfl (by decide +kernel) ⟨Nat.le_of_ble_eq_true rfl, Nat.le_of_ble_eq_true rfl⟩) ⟨fun a U g mk q => by obtain ⟨q0, q1, qP, qK, qD, qG⟩ := q; exact ⟨q0, q1, qP, va_K.moved (u := U) (U := U.calling g mk a) (Vm.Alike.refl U.vm) qK, qD, gv.fb qG⟩, va_recv hKc hPc (ci := 7) (q0 := 0) rfl rfl, fun U hU hW => ⟨rfl, by rw [hU], by rw [hU]; exact hPc, va_K.moved hW.alike hKc, hDc.weaken (fun _ _ _ _ => trivial), gv.pass hW hU hS hFc hG⟩⟩ rfl rfl hl.1 rfl (lv_room (Nat.le_of_ble_eq_true rfl)) dL_run_6 ⟨Nat.le_of_ble_eq_true rfl, Nat.le_of_ble_eq_true rfl⟩) hS (fun q _ h => hFc q h) hFc (fun q _ h => hFc q h) (fun E ce q9 u t H1 locs ht hvm hpx hB hz1 hk1 hS hce hcv hcl => ?_) (fun r9 u t H1 locs ht hvm hw hB hz1 hk1 hS => hw.elim)
  obtain ⟨rfl, hP1, hK1, hD1⟩ := hB
  rw [ht] at hP1
  have hK1 := va_K.moved hvm.symm hK1
  obtain ⟨hP, hD⟩ := va_join (wr := []) (w1 := [(h0, .inr (7, [.ref z1, .ref z2, .ref z3, .ref z4, .ref z5, .ref z6, .int 0, .int 0, .int 0]))]) hP hD [0] [] rfl rfl (by decide) (by decide) hk1 hFc hP1 hD1
  generalize H1 = H at hP hS hce ⊢
  have hP : va_P (dC, dI) vwCl [(h0, .inr (7, [.ref z1, .ref z2, .ref z3, .ref z4, .ref z5, .ref z6, .int 0, .int 0, .int 0]))] H := hP
  have hD : va_D A [(h0, .inr (7, [.ref z1, .ref z2, .ref z3, .ref z4, .ref z5, .ref z6, .int 0, .int 0, .int 0]))] := hD
  refine vx_catch (own := RL) (name := "java/lang/IndexOutOfBoundsException") hown (tableOf []) ⟨0, 13, 16, 19⟩ (tableOf [(0, 13, 20, 21)]) (by rw [htab]; rfl) (fun z hz => nomatch hz) (by decide +kernel) (by decide) (hts (.classLink RL 19 "java/lang/IndexOutOfBoundsException") (by decide +kernel)) (va_Nw.use rfl g_ca_IO) hce hcv hcl ?_
  refine W.eq (g2 := F0 m 16 ls [.ref q9]) rfl ?_
  refine lv_astore (lv' := [(5, .ref q9), (0, .ref h0), (1, .int i0), (2, .int i1), (3, .int i2), (4, .ref z0)]) hx hb dL_run_16 hl (by decide) rfl (fun ls hl => ?_)
  refine lv_iconst (v := 1) hx hb dL_run_18 (by decide) ?_
  exact W.iret (v := 1) hx hb hr (fun t ht hW => ⟨⟨1, (), rfl, rfl, by rw [ht]; exact hP, va_K.moved hW.alike hK, hD⟩, hS.F ht⟩) hS.2.2 dL_run_19
set_option maxHeartbeats 4000000 in
set_option maxRecDepth 100000 in
theorem kx_X5_run_2 (l : Launch) (dC : Nat → ClassId) (dI : Nat → Nat → Nat) (h0 : Nat) (z0 : Nat) (z1 : Nat) (z2 : Nat) (sz : Nat) (i0 : Int32) (i0_l : ((-2147483648) : Int) ≤ i0.toInt) (i0_u : i0.toInt ≤ ((-1) : Int)) (i1 : Int32) (i1_l : ((-2147483648) : Int) ≤ i1.toInt) (i1_u : i1.toInt ≤ ((-1) : Int)) (i2 : Int32) (i2_l : ((-2147483648) : Int) ≤ i2.toInt) (i2_u : i2.toInt ≤ (2147483647 : Int)) : Met l yX5_run wsX5_run ({ frames := 2, cells := 0, slots := 0, locals := 42 }) (va_Pc [.ref h0, .int i0, .int i1, .int i2] (fun U => U.heap.size = sz ∧ va_P (dC, dI) vwCl [(h0, .inr (9, [.int 0, .ref z0, .ref z1, .ref z2, .int 0, .int 0, .int 0]))] U.heap ∧ va_K (dC, dI) vwCl [] U ∧ va_D (fun _ => True) [(h0, .inr (9, [.int 0, .ref z0, .ref z1, .ref z2, .int 0, .int 0, .int 0]))])) (va_Qi (fun (r : Int32) (_ : Unit) => r = 0) (fun (_ : Unit) (t : State) => va_P (dC, dI) vwCl [(h0, .inr (9, [.int 1, .ref z0, .ref z1, .ref z2, .int 0, .int 0, .int 0]))] t.heap ∧ va_K (dC, dI) vwCl [] t ∧ va_D (va_A [(h0, .inr (9, [.int 0, .ref z0, .ref z1, .ref z2, .int 0, .int 0, .int 0]))] sz) [(h0, .inr (9, [.int 1, .ref z0, .ref z1, .ref z2, .int 0, .int 0, .int 0]))]) (va_A [(h0, .inr (9, [.int 0, .ref z0, .ref z1, .ref z2, .int 0, .int 0, .int 0]))] sz)) 0 0 (va_A [(h0, .inr (9, [.int 0, .ref z0, .ref z1, .ref z2, .int 0, .int 0, .int 0]))] sz) := by
  refine Met.ofW (cc := cX5_run) (maxL := 5) (ret := (some .int)) (by decide) rfl ?_
  intro p e s m args below meth c s₁ B hml hv
  obtain ⟨rfl, hsz, hP, hK, hD0⟩ := hv
  have hx := B.exec
  have hb := B.bytes
  have hr := B.returns
  have hts := atoms_spec (ws := wsX5_run) B.pre
  have hown : s.vm.findClass RX5 = some m.cls := findClass_of_methodNamed B.named
  have hlocks := B.notSynchronized
  subst hsz
  have hD := hD0.self (sz := s.heap.size)
  generalize hAe : va_A [(h0, .inr (9, [.int 0, .ref z0, .ref z1, .ref z2, .int 0, .int 0, .int 0]))] s.heap.size = A at hD ⊢
  have hA : ∀ q : Nat, s.heap.size ≤ q → A q := fun q h => by rw [← hAe]; exact Or.inr h
  have hS : va_S A s.heap s.heap [] := va_S.rf
  have hP : va_P (dC, dI) vwCl [(h0, .inr (9, [.int 0, .ref z0, .ref z1, .ref z2, .int 0, .int 0, .int 0]))] s.heap := hP
  have hl := lv_entry ([.ref h0, .int i0, .int i1, .int i2]) (n := 5) (Nat.le_of_ble_eq_true rfl)
  rw [lg_entry_eq]
  generalize (lg_sl ([.ref h0, .int i0, .int i1, .int i2]) ++ List.replicate (5 - (lg_sl ([.ref h0, .int i0, .int i1, .int i2])).length) Slot.unset).toArray = ls at hl ⊢
  have hl : lv_has ls 5 [(0, .ref h0), (1, .int i0), (2, .int i1), (3, .int i2)] := hl
  refine lv_aload_n hx hb dX5_run_0 rfl (lv_at hl 0 rfl) ?_
  refine lv_iload_n hx hb dX5_run_1 rfl (lv_at hl 1 rfl) ?_
  have hPc := hP.sub (ws' := []) [] rfl
  have hDc := hD.sub (ws' := []) [] (by decide) rfl
  have hKc := hK.sub (tys' := []) [] rfl
  have hFc := va_free (wc := []) hD hS hA [] rfl
  refine va_calli (va_runS (As := [.int i0]) (rest := [.ref h0]) ⟨hx, hb, hml, hown, hts⟩ (kx_X5_isNo_0 l dC dI s.heap.size i0 i0_l i0_u) (cwS 1 hts gX5_run_X5_isNo rfl rfl rfl (by decide +kernel) ⟨Nat.le_of_ble_eq_true rfl, Nat.le_of_ble_eq_true rfl⟩) ⟨fun a U g mk q => by obtain ⟨q0, q1, qP, qK, qD⟩ := q; exact ⟨q0, q1, qP, va_K.moved (u := U) (U := U.calling g mk a) (Vm.Alike.refl U.vm) qK, qD⟩, fun U hU hW => ⟨rfl, by rw [hU], by rw [hU]; exact hPc, va_K.moved hW.alike hKc, hDc.weaken (fun _ _ _ _ => trivial)⟩⟩ rfl rfl hl.1 rfl (lv_room (Nat.le_of_ble_eq_true rfl)) dX5_run_2 ⟨Nat.le_of_ble_eq_true rfl, Nat.le_of_ble_eq_true rfl⟩) hS (fun q _ h => hFc q h) hFc (fun r9 u t H1 locs ht hvm hw hB hz1 hk1 hS => ?_)
  obtain rfl := hw
  obtain ⟨hP1, hK1, hD1⟩ := hB
  rw [ht] at hP1
  have hK1 := va_K.moved hvm.symm hK1
  obtain ⟨hP, hD⟩ := va_join (wr := [(h0, .inr (9, [.int 0, .ref z0, .ref z1, .ref z2, .int 0, .int 0, .int 0]))]) (w1 := []) hP hD [] [0] rfl rfl (by decide) (by decide) hk1 hFc hP1 hD1
  generalize H1 = H at hP hS ⊢
  have hP : va_P (dC, dI) vwCl [(h0, .inr (9, [.int 0, .ref z0, .ref z1, .ref z2, .int 0, .int 0, .int 0]))] H := hP
  have hD : va_D A [(h0, .inr (9, [.int 0, .ref z0, .ref z1, .ref z2, .int 0, .int 0, .int 0]))] := hD
  refine lv_iload_n hx hb dX5_run_5 rfl (lv_at hl 2 rfl) ?_
  refine lv_iconst (v := 0) hx hb dX5_run_6 (by decide) ?_
  refine lv_iconst (v := 2) hx hb dX5_run_7 (by decide) ?_
  have hPc := hP.sub (ws' := []) [] rfl
  have hDc := hD.sub (ws' := []) [] (by decide) rfl
  have hKc := hK.sub (tys' := []) [] rfl
  have hFc := va_free (wc := []) hD hS hA [] rfl
  refine va_calli (va_runS (As := [.int i1, .int 0, .int 2]) (rest := [.int 1, .ref h0]) ⟨hx, hb, hml, hown, hts⟩ (kx_X5_isIn_22 l dC dI H.size i1 i1_l i1_u) (cwS 3 hts gX5_run_X5_isIn rfl rfl rfl (by decide +kernel) ⟨Nat.le_of_ble_eq_true rfl, Nat.le_of_ble_eq_true rfl⟩) ⟨fun a U g mk q => by obtain ⟨q0, q1, qP, qK, qD⟩ := q; exact ⟨q0, q1, qP, va_K.moved (u := U) (U := U.calling g mk a) (Vm.Alike.refl U.vm) qK, qD⟩, fun U hU hW => ⟨rfl, by rw [hU], by rw [hU]; exact hPc, va_K.moved hW.alike hKc, hDc.weaken (fun _ _ _ _ => trivial)⟩⟩ rfl rfl hl.1 rfl (lv_room (Nat.le_of_ble_eq_true rfl)) dX5_run_8 ⟨Nat.le_of_ble_eq_true rfl, Nat.le_of_ble_eq_true rfl⟩) hS (fun q _ h => hFc q h) hFc (fun r9 u t H1 locs ht hvm hw hB hz1 hk1 hS => ?_)
  obtain rfl := hw
  obtain ⟨hP1, hK1, hD1⟩ := hB
  rw [ht] at hP1
  have hK1 := va_K.moved hvm.symm hK1
  obtain ⟨hP, hD⟩ := va_join (wr := [(h0, .inr (9, [.int 0, .ref z0, .ref z1, .ref z2, .int 0, .int 0, .int 0]))]) (w1 := []) hP hD [] [0] rfl rfl (by decide) (by decide) hk1 hFc hP1 hD1
  generalize H1 = H at hP hS ⊢
  have hP : va_P (dC, dI) vwCl [(h0, .inr (9, [.int 0, .ref z0, .ref z1, .ref z2, .int 0, .int 0, .int 0]))] H := hP
  have hD : va_D A [(h0, .inr (9, [.int 0, .ref z0, .ref z1, .ref z2, .int 0, .int 0, .int 0]))] := hD
  refine lv_if_eq (tgt := 24) hx hb dX5_run_11 (by decide) (fun _ => ?_) (fun c9 => absurd (by decide) c9)
  refine lv_iconst (v := 1) hx hb dX5_run_24 (by decide) ?_
  refine lv_goto (tgt := 29) hx hb dX5_run_25 (by decide) ?_
  refine lv_iconst (v := 0) hx hb dX5_run_29 (by decide) ?_
  have hPc := hP.sub (ws' := [(h0, .inr (9, [.int 0, .ref z0, .ref z1, .ref z2, .int 0, .int 0, .int 0]))]) [0] rfl
  have hDc := hD.sub (ws' := [(h0, .inr (9, [.int 0, .ref z0, .ref z1, .ref z2, .int 0, .int 0, .int 0]))]) [0] (by decide) rfl
  have hKc := hK.sub (tys' := []) [] rfl
  have hFc := va_free (wc := [(h0, .inr (9, [.int 0, .ref z0, .ref z1, .ref z2, .int 0, .int 0, .int 0]))]) hD hS hA [0] rfl
  refine va_calli (va_runV (As := [.int 1, .int 1, .int 0]) (rest := []) ⟨hx, hb, hml, hown, hts⟩ (kx_X5_fails_2 l dC dI h0 z0 z1 z2 H.size) (cwV 3 hts gX5_run_X5_fails rfl rfl rfl (by decide +kernel) ⟨Nat.le_of_ble_eq_true rfl, Nat.le_of_ble_eq_true rfl⟩) ⟨fun a U g mk q => by obtain ⟨q0, q1, qP, qK, qD⟩ := q; exact ⟨q0, q1, qP, va_K.moved (u := U) (U := U.calling g mk a) (Vm.Alike.refl U.vm) qK, qD⟩, va_recv hKc hPc (ci := 9) (q0 := 0) rfl rfl, fun U hU hW => ⟨rfl, by rw [hU], by rw [hU]; exact hPc, va_K.moved hW.alike hKc, hDc.weaken (fun _ _ _ _ => trivial)⟩⟩ rfl rfl hl.1 rfl (lv_room (Nat.le_of_ble_eq_true rfl)) dX5_run_30 ⟨Nat.le_of_ble_eq_true rfl, Nat.le_of_ble_eq_true rfl⟩) hS (fun q _ h => hFc q h) hFc (fun r9 u t H1 locs ht hvm hw hB hz1 hk1 hS => ?_)
  obtain rfl := hw
  obtain ⟨hP1, hK1, hD1⟩ := hB
  rw [ht] at hP1
  have hK1 := va_K.moved hvm.symm hK1
  obtain ⟨hP, hD⟩ := va_join (wr := []) (w1 := [(h0, .inr (9, [.int 1, .ref z0, .ref z1, .ref z2, .int 0, .int 0, .int 0]))]) hP hD [0] [] rfl rfl (by decide) (by decide) hk1 hFc hP1 hD1
  generalize H1 = H at hP hS ⊢
  have hP : va_P (dC, dI) vwCl [(h0, .inr (9, [.int 1, .ref z0, .ref z1, .ref z2, .int 0, .int 0, .int 0]))] H := hP
  have hD : va_D A [(h0, .inr (9, [.int 1, .ref z0, .ref z1, .ref z2, .int 0, .int 0, .int 0]))] := hD
  refine lv_if_eq (tgt := 38) hx hb dX5_run_33 (by decide) (fun c9 => absurd c9 (by decide)) (fun _ => ?_)
  refine lv_iconst (v := 0) hx hb dX5_run_36 (by decide) ?_
  exact W.iret (v := 0) hx hb hr (fun t ht hW => ⟨⟨0, (), rfl, rfl, by rw [ht]; exact hP, va_K.moved hW.alike hK, hD⟩, hS.F ht⟩) hS.2.2 dX5_run_37
set_option maxHeartbeats 4000000 in
set_option maxRecDepth 100000 in
theorem kx_X3_run_3 (l : Launch) (hst : l.stackTraces = false) (dC : Nat → ClassId) (dI : Nat → Nat → Nat) (ge5 gea gv5 gva gde gic gi0 : Nat) (h0 : Nat) (z0 : Nat) (z1 : Nat) (z2 : Nat) (z3 : Nat) (z4 : Nat) (z5 : Nat) (sz : Nat) (i0 : Int32) (i0_l : ((-2147483648) : Int) ≤ i0.toInt) (i0_u : i0.toInt ≤ ((-1) : Int)) (i1 : Int32) (i1_l : (3 : Int) ≤ i1.toInt) (i1_u : i1.toInt ≤ (2147483647 : Int)) (i2 : Int32) (i2_l : ((-2147483648) : Int) ≤ i2.toInt) (i2_u : i2.toInt ≤ (2147483647 : Int)) : vx_Met l yX3_run wsX3_run ({ frames := 7, cells := 1, slots := 6, locals := 140 }) (va_Pc [.ref h0, .int i0, .int i1, .int i2] (fun U => U.heap.size = sz ∧ va_P (dC, dI) vwCl [(h0, .inr (7, [.ref z0, .ref z1, .ref z2, .ref z3, .ref z4, .ref z5, .int 0, .int 0, .int 0]))] U.heap ∧ va_K (dC, dI) vwCl [] U ∧ va_D (fun _ => True) [(h0, .inr (7, [.ref z0, .ref z1, .ref z2, .ref z3, .ref z4, .ref z5, .int 0, .int 0, .int 0]))] ∧ gv ge5 gea gv5 gva gde gic gi0 (va_A [(h0, .inr (7, [.ref z0, .ref z1, .ref z2, .ref z3, .ref z4, .ref z5, .int 0, .int 0, .int 0]))] sz) U U.heap)) (va_Qi (fun (_ : Int32) (_ : Unit) => False) (fun _ _ => True) (va_A [(h0, .inr (7, [.ref z0, .ref z1, .ref z2, .ref z3, .ref z4, .ref z5, .int 0, .int 0, .int 0]))] sz)) (vx_X (fun _ : Unit => True) (fun (E : String) (_ : Unit) (t : State) => E = "java/lang/IndexOutOfBoundsException" ∧ va_P (dC, dI) vwCl [(h0, .inr (7, [.ref z0, .ref z1, .ref z2, .ref z3, .ref z4, .ref z5, .int 0, .int 0, .int 0]))] t.heap ∧ va_K (dC, dI) vwCl [] t ∧ va_D (va_A [(h0, .inr (7, [.ref z0, .ref z1, .ref z2, .ref z3, .ref z4, .ref z5, .int 0, .int 0, .int 0]))] sz) [(h0, .inr (7, [.ref z0, .ref z1, .ref z2, .ref z3, .ref z4, .ref z5, .int 0, .int 0, .int 0]))]) (va_A [(h0, .inr (7, [.ref z0, .ref z1, .ref z2, .ref z3, .ref z4, .ref z5, .int 0, .int 0, .int 0]))] sz)) 1 6 (va_A [(h0, .inr (7, [.ref z0, .ref z1, .ref z2, .ref z3, .ref z4, .ref z5, .int 0, .int 0, .int 0]))] sz) := by
  refine vx_ofW (cc := cX3_run) (maxL := 5) (ret := (some .int)) (by decide) rfl ?_
  intro p e s m args below meth c s₁ B hml ht9 hv
  obtain ⟨rfl, hsz, hP, hK, hD0, hG⟩ := hv
  have hx := B.exec
  have hb := B.bytes
  have hr := B.returns
  have hts := atoms_spec (ws := wsX3_run) B.pre
  have hown : s.vm.findClass RX3 = some m.cls := findClass_of_methodNamed B.named
  have hlocks := B.notSynchronized
  subst hsz
  have hD := hD0.self (sz := s.heap.size)
  generalize hAe : va_A [(h0, .inr (7, [.ref z0, .ref z1, .ref z2, .ref z3, .ref z4, .ref z5, .int 0, .int 0, .int 0]))] s.heap.size = A at hD hG ⊢
  obtain ⟨⟨g_AO_Text, g_AO_String, g_AO_Object, g_nm_RX1_20, g_nm_RX0_17, g_nm_RX3_31, g_nm_RX2_44, g_nm_RL_121, g_nf_RL_13, g_nf_RL_47, g_ca_IO, g_ca_IA, g_ca_IS, g_ca_IntObj, g_ca_StrObj, g_de_RT, g_de_EX, g_de_TH, g_nc_IA_IO, g_nc_IS_IO, g_nc_IS_IA⟩, ⟨g_s3, g_s5, g_sa, g_x278, g_x280, g_x282, g_x284, g_x286, g_x180, g_x238, g_x250⟩, ⟨g_o5, g_c5, g_v5, g_t5, g_oa, g_ca, g_va, g_ta, g_zc, g_zd, g_td, g_zf, g_zU, g_zN, g_zh, g_zk, g_tk, g_oi, g_vi⟩⟩ := id hG
  have hA : ∀ q : Nat, s.heap.size ≤ q → A q := fun q h => by rw [← hAe]; exact Or.inr h
  have hS : va_S A s.heap s.heap [] := va_S.rf
  have hP : va_P (dC, dI) vwCl [(h0, .inr (7, [.ref z0, .ref z1, .ref z2, .ref z3, .ref z4, .ref z5, .int 0, .int 0, .int 0]))] s.heap := hP
  have hl := lv_entry ([.ref h0, .int i0, .int i1, .int i2]) (n := 5) (Nat.le_of_ble_eq_true rfl)
  rw [lg_entry_eq]
  generalize (lg_sl ([.ref h0, .int i0, .int i1, .int i2]) ++ List.replicate (5 - (lg_sl ([.ref h0, .int i0, .int i1, .int i2])).length) Slot.unset).toArray = ls at hl ⊢
  have hl : lv_has ls 5 [(0, .ref h0), (1, .int i0), (2, .int i1), (3, .int i2)] := hl
  refine lv_iload_n hx hb dX3_run_0 rfl (lv_at hl 1 rfl) ?_
  have hPc := hP.sub (ws' := []) [] rfl
  have hDc := hD.sub (ws' := []) [] (by decide) rfl
  have hKc := hK.sub (tys' := []) [] rfl
  have hFc := va_free (wc := []) hD hS hA [] rfl
  refine vx_callv (vx_runS (As := [.int i0]) (rest := []) ⟨hx, hb, hml, hown, hts⟩ (kx_X3_needRope_5 l hst dC dI ge5 gea gv5 gva gde gic gi0 s.heap.size i0 i0_l i0_u) (cwS 1 hts gX3_run_X3_needRope rfl rfl rfl (by decide +kernel) ⟨Nat.le_of_ble_eq_true rfl, Nat.le_of_ble_eq_true rfl⟩) ⟨fun a U g mk q => by obtain ⟨q0, q1, qP, qK, qD, qG⟩ := q; exact ⟨q0, q1, qP, va_K.moved (u := U) (U := U.calling g mk a) (Vm.Alike.refl U.vm) qK, qD, gv.fb qG⟩, fun U hU hW => ⟨rfl, by rw [hU], by rw [hU]; exact hPc, va_K.moved hW.alike hKc, hDc.weaken (fun _ _ _ _ => trivial), gv.pass hW hU hS hFc hG⟩⟩ rfl rfl hl.1 rfl (lv_room (Nat.le_of_ble_eq_true rfl)) dX3_run_1 ⟨Nat.le_of_ble_eq_true rfl, Nat.le_of_ble_eq_true rfl⟩) hS (fun q _ h => hFc q h) hFc (fun q _ h => hFc q h) (fun E ce q9 u t H1 locs ht hvm hpx hB hz1 hk1 hS hce hcv hcl => ?_) (fun u t H1 locs ht hvm hw hB hz1 hk1 hS => hw.elim)
  obtain ⟨rfl, hP1, hK1, hD1⟩ := hB
  rw [ht] at hP1
  have hK1 := va_K.moved hvm.symm hK1
  obtain ⟨hP, hD⟩ := va_join (wr := [(h0, .inr (7, [.ref z0, .ref z1, .ref z2, .ref z3, .ref z4, .ref z5, .int 0, .int 0, .int 0]))]) (w1 := []) hP hD [] [0] rfl rfl (by decide) (by decide) hk1 hFc hP1 hD1
  generalize H1 = H at hP hS hce ⊢
  have hP : va_P (dC, dI) vwCl [(h0, .inr (7, [.ref z0, .ref z1, .ref z2, .ref z3, .ref z4, .ref z5, .int 0, .int 0, .int 0]))] H := hP
  have hD : va_D A [(h0, .inr (7, [.ref z0, .ref z1, .ref z2, .ref z3, .ref z4, .ref z5, .int 0, .int 0, .int 0]))] := hD
  exact vx_out (fun x hx9 => (ht9 x hx9).elim) hlocks hce hcv hcl (fun t ht hW => ⟨(), trivial, ⟨rfl, by rw [ht]; exact hP, va_K.moved hW hK, hD⟩, hS.F ht⟩) hS.2.2 (by omega) (by omega)
set_option maxHeartbeats 4000000 in
set_option maxRecDepth 100000 in
theorem kx_L_run_3 (l : Launch) (hst : l.stackTraces = false) (dC : Nat → ClassId) (dI : Nat → Nat → Nat) (ge5 gea gv5 gva gde gic gi0 : Nat) (h0 : Nat) (z0 : Nat) (z1 : Nat) (z2 : Nat) (z3 : Nat) (z4 : Nat) (z5 : Nat) (z6 : Nat) (sz : Nat) (i0 : Int32) (i0_l : ((-2147483648) : Int) ≤ i0.toInt) (i0_u : i0.toInt ≤ ((-1) : Int)) (i1 : Int32) (i1_l : (3 : Int) ≤ i1.toInt) (i1_u : i1.toInt ≤ (2147483647 : Int)) (i2 : Int32) (i2_l : ((-2147483648) : Int) ≤ i2.toInt) (i2_u : i2.toInt ≤ (2147483647 : Int)) : Met l yL_run wsL_run ({ frames := 8, cells := 1, slots := 6, locals := 164 }) (va_Pc [.ref h0, .int i0, .int i1, .int i2, .ref z0] (fun U => U.heap.size = sz ∧ va_P (dC, dI) vwCl [(h0, .inr (7, [.ref z1, .ref z2, .ref z3, .ref z4, .ref z5, .ref z6, .int 0, .int 0, .int 0]))] U.heap ∧ va_K (dC, dI) vwCl [] U ∧ va_D (fun _ => True) [(h0, .inr (7, [.ref z1, .ref z2, .ref z3, .ref z4, .ref z5, .ref z6, .int 0, .int 0, .int 0]))] ∧ gv ge5 gea gv5 gva gde gic gi0 (va_A [(h0, .inr (7, [.ref z1, .ref z2, .ref z3, .ref z4, .ref z5, .ref z6, .int 0, .int 0, .int 0]))] sz) U U.heap)) (va_Qi (fun (r : Int32) (_ : Unit) => r = 1) (fun (_ : Unit) (t : State) => va_P (dC, dI) vwCl [(h0, .inr (7, [.ref z1, .ref z2, .ref z3, .ref z4, .ref z5, .ref z6, .int 0, .int 0, .int 0]))] t.heap ∧ va_K (dC, dI) vwCl [] t ∧ va_D (va_A [(h0, .inr (7, [.ref z1, .ref z2, .ref z3, .ref z4, .ref z5, .ref z6, .int 0, .int 0, .int 0]))] sz) [(h0, .inr (7, [.ref z1, .ref z2, .ref z3, .ref z4, .ref z5, .ref z6, .int 0, .int 0, .int 0]))]) (va_A [(h0, .inr (7, [.ref z1, .ref z2, .ref z3, .ref z4, .ref z5, .ref z6, .int 0, .int 0, .int 0]))] sz)) 1 6 (va_A [(h0, .inr (7, [.ref z1, .ref z2, .ref z3, .ref z4, .ref z5, .ref z6, .int 0, .int 0, .int 0]))] sz) := by
  refine kz_ofWH (cc := cL_run) (maxL := 6) (ret := (some .int)) (hh := [(0, 13, 16, 19), (0, 13, 20, 21)]) (by decide) rfl ?_
  intro p e s m args below meth c s₁ B hml hv
  obtain ⟨rfl, hsz, hP, hK, hD0, hG⟩ := hv
  have hx := B.exec
  have hb := B.bytes
  have hr := B.returns
  have hts := atoms_spec (ws := wsL_run) B.pre
  have hown : s.vm.findClass RL = some m.cls := findClass_of_methodNamed B.named
  have htab := vx_table (x := yL_run) B (hts (.codeWith yL_run cL_run 6 (some .int) [(0, 13, 16, 19), (0, 13, 20, 21)]) (by decide +kernel))
  have hlocks := B.notSynchronized
  subst hsz
  have hD := hD0.self (sz := s.heap.size)
  generalize hAe : va_A [(h0, .inr (7, [.ref z1, .ref z2, .ref z3, .ref z4, .ref z5, .ref z6, .int 0, .int 0, .int 0]))] s.heap.size = A at hD hG ⊢
  obtain ⟨⟨g_AO_Text, g_AO_String, g_AO_Object, g_nm_RX1_20, g_nm_RX0_17, g_nm_RX3_31, g_nm_RX2_44, g_nm_RL_121, g_nf_RL_13, g_nf_RL_47, g_ca_IO, g_ca_IA, g_ca_IS, g_ca_IntObj, g_ca_StrObj, g_de_RT, g_de_EX, g_de_TH, g_nc_IA_IO, g_nc_IS_IO, g_nc_IS_IA⟩, ⟨g_s3, g_s5, g_sa, g_x278, g_x280, g_x282, g_x284, g_x286, g_x180, g_x238, g_x250⟩, ⟨g_o5, g_c5, g_v5, g_t5, g_oa, g_ca, g_va, g_ta, g_zc, g_zd, g_td, g_zf, g_zU, g_zN, g_zh, g_zk, g_tk, g_oi, g_vi⟩⟩ := id hG
  have hA : ∀ q : Nat, s.heap.size ≤ q → A q := fun q h => by rw [← hAe]; exact Or.inr h
  have hS : va_S A s.heap s.heap [] := va_S.rf
  have hP : va_P (dC, dI) vwCl [(h0, .inr (7, [.ref z1, .ref z2, .ref z3, .ref z4, .ref z5, .ref z6, .int 0, .int 0, .int 0]))] s.heap := hP
  have hl := lv_entry ([.ref h0, .int i0, .int i1, .int i2, .ref z0]) (n := 6) (Nat.le_of_ble_eq_true rfl)
  rw [lg_entry_eq]
  generalize (lg_sl ([.ref h0, .int i0, .int i1, .int i2, .ref z0]) ++ List.replicate (6 - (lg_sl ([.ref h0, .int i0, .int i1, .int i2, .ref z0])).length) Slot.unset).toArray = ls at hl ⊢
  have hl : lv_has ls 6 [(0, .ref h0), (1, .int i0), (2, .int i1), (3, .int i2), (4, .ref z0)] := hl
  refine lv_aload hx hb dL_run_0 (lv_at hl 4 rfl) ?_
  refine lv_aload_n hx hb dL_run_2 rfl (lv_at hl 0 rfl) ?_
  refine lv_iload_n hx hb dL_run_3 rfl (lv_at hl 1 rfl) ?_
  refine lv_iload_n hx hb dL_run_4 rfl (lv_at hl 2 rfl) ?_
  refine lv_iload_n hx hb dL_run_5 rfl (lv_at hl 3 rfl) ?_
  have hPc := hP.sub (ws' := [(h0, .inr (7, [.ref z1, .ref z2, .ref z3, .ref z4, .ref z5, .ref z6, .int 0, .int 0, .int 0]))]) [0] rfl
  have hDc := hD.sub (ws' := [(h0, .inr (7, [.ref z1, .ref z2, .ref z3, .ref z4, .ref z5, .ref z6, .int 0, .int 0, .int 0]))]) [0] (by decide) rfl
  have hKc := hK.sub (tys' := []) [] rfl
  have hFc := va_free (wc := [(h0, .inr (7, [.ref z1, .ref z2, .ref z3, .ref z4, .ref z5, .ref z6, .int 0, .int 0, .int 0]))]) hD hS hA [0] rfl
  refine vx_calli (vx_runV (As := [.int i0, .int i1, .int i2]) (rest := [.ref z0]) ⟨hx, hb, hml, hown, hts⟩ (kx_X3_run_3 l hst dC dI ge5 gea gv5 gva gde gic gi0 h0 z1 z2 z3 z4 z5 z6 s.heap.size i0 i0_l i0_u i1 i1_l i1_u i2 i2_l i2_u) (cwV 3 hts gL_run_X3_run rfl rfl rfl (by decide +kernel) ⟨Nat.le_of_ble_eq_true rfl, Nat.le_of_ble_eq_true rfl⟩) ⟨fun a U g mk q => by obtain ⟨q0, q1, qP, qK, qD, qG⟩ := q; exact ⟨q0, q1, qP, va_K.moved (u := U) (U := U.calling g mk a) (Vm.Alike.refl U.vm) qK, qD, gv.fb qG⟩, va_recv hKc hPc (ci := 7) (q0 := 0) rfl rfl, fun U hU hW => ⟨rfl, by rw [hU], by rw [hU]; exact hPc, va_K.moved hW.alike hKc, hDc.weaken (fun _ _ _ _ => trivial), gv.pass hW hU hS hFc hG⟩⟩ rfl rfl hl.1 rfl (lv_room (Nat.le_of_ble_eq_true rfl)) dL_run_6 ⟨Nat.le_of_ble_eq_true rfl, Nat.le_of_ble_eq_true rfl⟩) hS (fun q _ h => hFc q h) hFc (fun q _ h => hFc q h) (fun E ce q9 u t H1 locs ht hvm hpx hB hz1 hk1 hS hce hcv hcl => ?_) (fun r9 u t H1 locs ht hvm hw hB hz1 hk1 hS => hw.elim)
  obtain ⟨rfl, hP1, hK1, hD1⟩ := hB
  rw [ht] at hP1
  have hK1 := va_K.moved hvm.symm hK1
  obtain ⟨hP, hD⟩ := va_join (wr := []) (w1 := [(h0, .inr (7, [.ref z1, .ref z2, .ref z3, .ref z4, .ref z5, .ref z6, .int 0, .int 0, .int 0]))]) hP hD [0] [] rfl rfl (by decide) (by decide) hk1 hFc hP1 hD1
  generalize H1 = H at hP hS hce ⊢
  have hP : va_P (dC, dI) vwCl [(h0, .inr (7, [.ref z1, .ref z2, .ref z3, .ref z4, .ref z5, .ref z6, .int 0, .int 0, .int 0]))] H := hP
  have hD : va_D A [(h0, .inr (7, [.ref z1, .ref z2, .ref z3, .ref z4, .ref z5, .ref z6, .int 0, .int 0, .int 0]))] := hD
  refine vx_catch (own := RL) (name := "java/lang/IndexOutOfBoundsException") hown (tableOf []) ⟨0, 13, 16, 19⟩ (tableOf [(0, 13, 20, 21)]) (by rw [htab]; rfl) (fun z hz => nomatch hz) (by decide +kernel) (by decide) (hts (.classLink RL 19 "java/lang/IndexOutOfBoundsException") (by decide +kernel)) (va_Nw.use rfl g_ca_IO) hce hcv hcl ?_
  refine W.eq (g2 := F0 m 16 ls [.ref q9]) rfl ?_
  refine lv_astore (lv' := [(5, .ref q9), (0, .ref h0), (1, .int i0), (2, .int i1), (3, .int i2), (4, .ref z0)]) hx hb dL_run_16 hl (by decide) rfl (fun ls hl => ?_)
  refine lv_iconst (v := 1) hx hb dL_run_18 (by decide) ?_
  exact W.iret (v := 1) hx hb hr (fun t ht hW => ⟨⟨1, (), rfl, rfl, by rw [ht]; exact hP, va_K.moved hW.alike hK, hD⟩, hS.F ht⟩) hS.2.2 dL_run_19
set_option maxHeartbeats 4000000 in
set_option maxRecDepth 100000 in
theorem kx_X5_run_3 (l : Launch) (dC : Nat → ClassId) (dI : Nat → Nat → Nat) (h0 : Nat) (z0 : Nat) (z1 : Nat) (z2 : Nat) (sz : Nat) (i0 : Int32) (i0_l : ((-2147483648) : Int) ≤ i0.toInt) (i0_u : i0.toInt ≤ ((-1) : Int)) (i1 : Int32) (i1_l : (3 : Int) ≤ i1.toInt) (i1_u : i1.toInt ≤ (2147483647 : Int)) (i2 : Int32) (i2_l : ((-2147483648) : Int) ≤ i2.toInt) (i2_u : i2.toInt ≤ (2147483647 : Int)) : Met l yX5_run wsX5_run ({ frames := 2, cells := 0, slots := 0, locals := 42 }) (va_Pc [.ref h0, .int i0, .int i1, .int i2] (fun U => U.heap.size = sz ∧ va_P (dC, dI) vwCl [(h0, .inr (9, [.int 0, .ref z0, .ref z1, .ref z2, .int 0, .int 0, .int 0]))] U.heap ∧ va_K (dC, dI) vwCl [] U ∧ va_D (fun _ => True) [(h0, .inr (9, [.int 0, .ref z0, .ref z1, .ref z2, .int 0, .int 0, .int 0]))])) (va_Qi (fun (r : Int32) (_ : Unit) => r = 0) (fun (_ : Unit) (t : State) => va_P (dC, dI) vwCl [(h0, .inr (9, [.int 1, .ref z0, .ref z1, .ref z2, .int 0, .int 0, .int 0]))] t.heap ∧ va_K (dC, dI) vwCl [] t ∧ va_D (va_A [(h0, .inr (9, [.int 0, .ref z0, .ref z1, .ref z2, .int 0, .int 0, .int 0]))] sz) [(h0, .inr (9, [.int 1, .ref z0, .ref z1, .ref z2, .int 0, .int 0, .int 0]))]) (va_A [(h0, .inr (9, [.int 0, .ref z0, .ref z1, .ref z2, .int 0, .int 0, .int 0]))] sz)) 0 0 (va_A [(h0, .inr (9, [.int 0, .ref z0, .ref z1, .ref z2, .int 0, .int 0, .int 0]))] sz) := by
  refine Met.ofW (cc := cX5_run) (maxL := 5) (ret := (some .int)) (by decide) rfl ?_
  intro p e s m args below meth c s₁ B hml hv
  obtain ⟨rfl, hsz, hP, hK, hD0⟩ := hv
  have hx := B.exec
  have hb := B.bytes
  have hr := B.returns
  have hts := atoms_spec (ws := wsX5_run) B.pre
  have hown : s.vm.findClass RX5 = some m.cls := findClass_of_methodNamed B.named
  have hlocks := B.notSynchronized
  subst hsz
  have hD := hD0.self (sz := s.heap.size)
  generalize hAe : va_A [(h0, .inr (9, [.int 0, .ref z0, .ref z1, .ref z2, .int 0, .int 0, .int 0]))] s.heap.size = A at hD ⊢
  have hA : ∀ q : Nat, s.heap.size ≤ q → A q := fun q h => by rw [← hAe]; exact Or.inr h
  have hS : va_S A s.heap s.heap [] := va_S.rf
  have hP : va_P (dC, dI) vwCl [(h0, .inr (9, [.int 0, .ref z0, .ref z1, .ref z2, .int 0, .int 0, .int 0]))] s.heap := hP
  have hl := lv_entry ([.ref h0, .int i0, .int i1, .int i2]) (n := 5) (Nat.le_of_ble_eq_true rfl)
  rw [lg_entry_eq]
  generalize (lg_sl ([.ref h0, .int i0, .int i1, .int i2]) ++ List.replicate (5 - (lg_sl ([.ref h0, .int i0, .int i1, .int i2])).length) Slot.unset).toArray = ls at hl ⊢
  have hl : lv_has ls 5 [(0, .ref h0), (1, .int i0), (2, .int i1), (3, .int i2)] := hl
  refine lv_aload_n hx hb dX5_run_0 rfl (lv_at hl 0 rfl) ?_
  refine lv_iload_n hx hb dX5_run_1 rfl (lv_at hl 1 rfl) ?_
  have hPc := hP.sub (ws' := []) [] rfl
  have hDc := hD.sub (ws' := []) [] (by decide) rfl
  have hKc := hK.sub (tys' := []) [] rfl
  have hFc := va_free (wc := []) hD hS hA [] rfl
  refine va_calli (va_runS (As := [.int i0]) (rest := [.ref h0]) ⟨hx, hb, hml, hown, hts⟩ (kx_X5_isNo_0 l dC dI s.heap.size i0 i0_l i0_u) (cwS 1 hts gX5_run_X5_isNo rfl rfl rfl (by decide +kernel) ⟨Nat.le_of_ble_eq_true rfl, Nat.le_of_ble_eq_true rfl⟩) ⟨fun a U g mk q => by obtain ⟨q0, q1, qP, qK, qD⟩ := q; exact ⟨q0, q1, qP, va_K.moved (u := U) (U := U.calling g mk a) (Vm.Alike.refl U.vm) qK, qD⟩, fun U hU hW => ⟨rfl, by rw [hU], by rw [hU]; exact hPc, va_K.moved hW.alike hKc, hDc.weaken (fun _ _ _ _ => trivial)⟩⟩ rfl rfl hl.1 rfl (lv_room (Nat.le_of_ble_eq_true rfl)) dX5_run_2 ⟨Nat.le_of_ble_eq_true rfl, Nat.le_of_ble_eq_true rfl⟩) hS (fun q _ h => hFc q h) hFc (fun r9 u t H1 locs ht hvm hw hB hz1 hk1 hS => ?_)
  obtain rfl := hw
  obtain ⟨hP1, hK1, hD1⟩ := hB
  rw [ht] at hP1
  have hK1 := va_K.moved hvm.symm hK1
  obtain ⟨hP, hD⟩ := va_join (wr := [(h0, .inr (9, [.int 0, .ref z0, .ref z1, .ref z2, .int 0, .int 0, .int 0]))]) (w1 := []) hP hD [] [0] rfl rfl (by decide) (by decide) hk1 hFc hP1 hD1
  generalize H1 = H at hP hS ⊢
  have hP : va_P (dC, dI) vwCl [(h0, .inr (9, [.int 0, .ref z0, .ref z1, .ref z2, .int 0, .int 0, .int 0]))] H := hP
  have hD : va_D A [(h0, .inr (9, [.int 0, .ref z0, .ref z1, .ref z2, .int 0, .int 0, .int 0]))] := hD
  refine lv_iload_n hx hb dX5_run_5 rfl (lv_at hl 2 rfl) ?_
  refine lv_iconst (v := 0) hx hb dX5_run_6 (by decide) ?_
  refine lv_iconst (v := 2) hx hb dX5_run_7 (by decide) ?_
  have hPc := hP.sub (ws' := []) [] rfl
  have hDc := hD.sub (ws' := []) [] (by decide) rfl
  have hKc := hK.sub (tys' := []) [] rfl
  have hFc := va_free (wc := []) hD hS hA [] rfl
  refine va_calli (va_runS (As := [.int i1, .int 0, .int 2]) (rest := [.int 1, .ref h0]) ⟨hx, hb, hml, hown, hts⟩ (kx_X5_isIn_23 l dC dI H.size i1 i1_l i1_u) (cwS 3 hts gX5_run_X5_isIn rfl rfl rfl (by decide +kernel) ⟨Nat.le_of_ble_eq_true rfl, Nat.le_of_ble_eq_true rfl⟩) ⟨fun a U g mk q => by obtain ⟨q0, q1, qP, qK, qD⟩ := q; exact ⟨q0, q1, qP, va_K.moved (u := U) (U := U.calling g mk a) (Vm.Alike.refl U.vm) qK, qD⟩, fun U hU hW => ⟨rfl, by rw [hU], by rw [hU]; exact hPc, va_K.moved hW.alike hKc, hDc.weaken (fun _ _ _ _ => trivial)⟩⟩ rfl rfl hl.1 rfl (lv_room (Nat.le_of_ble_eq_true rfl)) dX5_run_8 ⟨Nat.le_of_ble_eq_true rfl, Nat.le_of_ble_eq_true rfl⟩) hS (fun q _ h => hFc q h) hFc (fun r9 u t H1 locs ht hvm hw hB hz1 hk1 hS => ?_)
  obtain rfl := hw
  obtain ⟨hP1, hK1, hD1⟩ := hB
  rw [ht] at hP1
  have hK1 := va_K.moved hvm.symm hK1
  obtain ⟨hP, hD⟩ := va_join (wr := [(h0, .inr (9, [.int 0, .ref z0, .ref z1, .ref z2, .int 0, .int 0, .int 0]))]) (w1 := []) hP hD [] [0] rfl rfl (by decide) (by decide) hk1 hFc hP1 hD1
  generalize H1 = H at hP hS ⊢
  have hP : va_P (dC, dI) vwCl [(h0, .inr (9, [.int 0, .ref z0, .ref z1, .ref z2, .int 0, .int 0, .int 0]))] H := hP
  have hD : va_D A [(h0, .inr (9, [.int 0, .ref z0, .ref z1, .ref z2, .int 0, .int 0, .int 0]))] := hD
  refine lv_if_eq (tgt := 24) hx hb dX5_run_11 (by decide) (fun _ => ?_) (fun c9 => absurd (by decide) c9)
  refine lv_iconst (v := 1) hx hb dX5_run_24 (by decide) ?_
  refine lv_goto (tgt := 29) hx hb dX5_run_25 (by decide) ?_
  refine lv_iconst (v := 0) hx hb dX5_run_29 (by decide) ?_
  have hPc := hP.sub (ws' := [(h0, .inr (9, [.int 0, .ref z0, .ref z1, .ref z2, .int 0, .int 0, .int 0]))]) [0] rfl
  have hDc := hD.sub (ws' := [(h0, .inr (9, [.int 0, .ref z0, .ref z1, .ref z2, .int 0, .int 0, .int 0]))]) [0] (by decide) rfl
  have hKc := hK.sub (tys' := []) [] rfl
  have hFc := va_free (wc := [(h0, .inr (9, [.int 0, .ref z0, .ref z1, .ref z2, .int 0, .int 0, .int 0]))]) hD hS hA [0] rfl
  refine va_calli (va_runV (As := [.int 1, .int 1, .int 0]) (rest := []) ⟨hx, hb, hml, hown, hts⟩ (kx_X5_fails_2 l dC dI h0 z0 z1 z2 H.size) (cwV 3 hts gX5_run_X5_fails rfl rfl rfl (by decide +kernel) ⟨Nat.le_of_ble_eq_true rfl, Nat.le_of_ble_eq_true rfl⟩) ⟨fun a U g mk q => by obtain ⟨q0, q1, qP, qK, qD⟩ := q; exact ⟨q0, q1, qP, va_K.moved (u := U) (U := U.calling g mk a) (Vm.Alike.refl U.vm) qK, qD⟩, va_recv hKc hPc (ci := 9) (q0 := 0) rfl rfl, fun U hU hW => ⟨rfl, by rw [hU], by rw [hU]; exact hPc, va_K.moved hW.alike hKc, hDc.weaken (fun _ _ _ _ => trivial)⟩⟩ rfl rfl hl.1 rfl (lv_room (Nat.le_of_ble_eq_true rfl)) dX5_run_30 ⟨Nat.le_of_ble_eq_true rfl, Nat.le_of_ble_eq_true rfl⟩) hS (fun q _ h => hFc q h) hFc (fun r9 u t H1 locs ht hvm hw hB hz1 hk1 hS => ?_)
  obtain rfl := hw
  obtain ⟨hP1, hK1, hD1⟩ := hB
  rw [ht] at hP1
  have hK1 := va_K.moved hvm.symm hK1
  obtain ⟨hP, hD⟩ := va_join (wr := []) (w1 := [(h0, .inr (9, [.int 1, .ref z0, .ref z1, .ref z2, .int 0, .int 0, .int 0]))]) hP hD [0] [] rfl rfl (by decide) (by decide) hk1 hFc hP1 hD1
  generalize H1 = H at hP hS ⊢
  have hP : va_P (dC, dI) vwCl [(h0, .inr (9, [.int 1, .ref z0, .ref z1, .ref z2, .int 0, .int 0, .int 0]))] H := hP
  have hD : va_D A [(h0, .inr (9, [.int 1, .ref z0, .ref z1, .ref z2, .int 0, .int 0, .int 0]))] := hD
  refine lv_if_eq (tgt := 38) hx hb dX5_run_33 (by decide) (fun c9 => absurd c9 (by decide)) (fun _ => ?_)
  refine lv_iconst (v := 0) hx hb dX5_run_36 (by decide) ?_
  exact W.iret (v := 0) hx hb hr (fun t ht hW => ⟨⟨0, (), rfl, rfl, by rw [ht]; exact hP, va_K.moved hW.alike hK, hD⟩, hS.F ht⟩) hS.2.2 dX5_run_37
set_option maxHeartbeats 4000000 in
set_option maxRecDepth 100000 in
theorem kx_X3_run_4 (l : Launch) (hst : l.stackTraces = false) (dC : Nat → ClassId) (dI : Nat → Nat → Nat) (ge5 gea gv5 gva gde gic gi0 : Nat) (h0 : Nat) (z0 : Nat) (z1 : Nat) (z2 : Nat) (z3 : Nat) (z4 : Nat) (z5 : Nat) (sz : Nat) (i0 : Int32) (i0_l : (4 : Int) ≤ i0.toInt) (i0_u : i0.toInt ≤ (2147483647 : Int)) (i1 : Int32) (i1_l : ((-2147483648) : Int) ≤ i1.toInt) (i1_u : i1.toInt ≤ ((-1) : Int)) (i2 : Int32) (i2_l : ((-2147483648) : Int) ≤ i2.toInt) (i2_u : i2.toInt ≤ (2147483647 : Int)) : vx_Met l yX3_run wsX3_run ({ frames := 7, cells := 1, slots := 6, locals := 140 }) (va_Pc [.ref h0, .int i0, .int i1, .int i2] (fun U => U.heap.size = sz ∧ va_P (dC, dI) vwCl [(h0, .inr (7, [.ref z0, .ref z1, .ref z2, .ref z3, .ref z4, .ref z5, .int 0, .int 0, .int 0]))] U.heap ∧ va_K (dC, dI) vwCl [] U ∧ va_D (fun _ => True) [(h0, .inr (7, [.ref z0, .ref z1, .ref z2, .ref z3, .ref z4, .ref z5, .int 0, .int 0, .int 0]))] ∧ gv ge5 gea gv5 gva gde gic gi0 (va_A [(h0, .inr (7, [.ref z0, .ref z1, .ref z2, .ref z3, .ref z4, .ref z5, .int 0, .int 0, .int 0]))] sz) U U.heap)) (va_Qi (fun (_ : Int32) (_ : Unit) => False) (fun _ _ => True) (va_A [(h0, .inr (7, [.ref z0, .ref z1, .ref z2, .ref z3, .ref z4, .ref z5, .int 0, .int 0, .int 0]))] sz)) (vx_X (fun _ : Unit => True) (fun (E : String) (_ : Unit) (t : State) => E = "java/lang/IndexOutOfBoundsException" ∧ va_P (dC, dI) vwCl [(h0, .inr (7, [.ref z0, .ref z1, .ref z2, .ref z3, .ref z4, .ref z5, .int 0, .int 0, .int 0]))] t.heap ∧ va_K (dC, dI) vwCl [] t ∧ va_D (va_A [(h0, .inr (7, [.ref z0, .ref z1, .ref z2, .ref z3, .ref z4, .ref z5, .int 0, .int 0, .int 0]))] sz) [(h0, .inr (7, [.ref z0, .ref z1, .ref z2, .ref z3, .ref z4, .ref z5, .int 0, .int 0, .int 0]))]) (va_A [(h0, .inr (7, [.ref z0, .ref z1, .ref z2, .ref z3, .ref z4, .ref z5, .int 0, .int 0, .int 0]))] sz)) 1 6 (va_A [(h0, .inr (7, [.ref z0, .ref z1, .ref z2, .ref z3, .ref z4, .ref z5, .int 0, .int 0, .int 0]))] sz) := by
  refine vx_ofW (cc := cX3_run) (maxL := 5) (ret := (some .int)) (by decide) rfl ?_
  intro p e s m args below meth c s₁ B hml ht9 hv
  obtain ⟨rfl, hsz, hP, hK, hD0, hG⟩ := hv
  have hx := B.exec
  have hb := B.bytes
  have hr := B.returns
  have hts := atoms_spec (ws := wsX3_run) B.pre
  have hown : s.vm.findClass RX3 = some m.cls := findClass_of_methodNamed B.named
  have hlocks := B.notSynchronized
  subst hsz
  have hD := hD0.self (sz := s.heap.size)
  generalize hAe : va_A [(h0, .inr (7, [.ref z0, .ref z1, .ref z2, .ref z3, .ref z4, .ref z5, .int 0, .int 0, .int 0]))] s.heap.size = A at hD hG ⊢
  obtain ⟨⟨g_AO_Text, g_AO_String, g_AO_Object, g_nm_RX1_20, g_nm_RX0_17, g_nm_RX3_31, g_nm_RX2_44, g_nm_RL_121, g_nf_RL_13, g_nf_RL_47, g_ca_IO, g_ca_IA, g_ca_IS, g_ca_IntObj, g_ca_StrObj, g_de_RT, g_de_EX, g_de_TH, g_nc_IA_IO, g_nc_IS_IO, g_nc_IS_IA⟩, ⟨g_s3, g_s5, g_sa, g_x278, g_x280, g_x282, g_x284, g_x286, g_x180, g_x238, g_x250⟩, ⟨g_o5, g_c5, g_v5, g_t5, g_oa, g_ca, g_va, g_ta, g_zc, g_zd, g_td, g_zf, g_zU, g_zN, g_zh, g_zk, g_tk, g_oi, g_vi⟩⟩ := id hG
  have hA : ∀ q : Nat, s.heap.size ≤ q → A q := fun q h => by rw [← hAe]; exact Or.inr h
  have hS : va_S A s.heap s.heap [] := va_S.rf
  have hP : va_P (dC, dI) vwCl [(h0, .inr (7, [.ref z0, .ref z1, .ref z2, .ref z3, .ref z4, .ref z5, .int 0, .int 0, .int 0]))] s.heap := hP
  have hl := lv_entry ([.ref h0, .int i0, .int i1, .int i2]) (n := 5) (Nat.le_of_ble_eq_true rfl)
  rw [lg_entry_eq]
  generalize (lg_sl ([.ref h0, .int i0, .int i1, .int i2]) ++ List.replicate (5 - (lg_sl ([.ref h0, .int i0, .int i1, .int i2])).length) Slot.unset).toArray = ls at hl ⊢
  have hl : lv_has ls 5 [(0, .ref h0), (1, .int i0), (2, .int i1), (3, .int i2)] := hl
  refine lv_iload_n hx hb dX3_run_0 rfl (lv_at hl 1 rfl) ?_
  have hPc := hP.sub (ws' := []) [] rfl
  have hDc := hD.sub (ws' := []) [] (by decide) rfl
  have hKc := hK.sub (tys' := []) [] rfl
  have hFc := va_free (wc := []) hD hS hA [] rfl
  refine vx_callv (vx_runS (As := [.int i0]) (rest := []) ⟨hx, hb, hml, hown, hts⟩ (kx_X3_needRope_6 l hst dC dI ge5 gea gv5 gva gde gic gi0 s.heap.size i0 i0_l i0_u) (cwS 1 hts gX3_run_X3_needRope rfl rfl rfl (by decide +kernel) ⟨Nat.le_of_ble_eq_true rfl, Nat.le_of_ble_eq_true rfl⟩) ⟨fun a U g mk q => by obtain ⟨q0, q1, qP, qK, qD, qG⟩ := q; exact ⟨q0, q1, qP, va_K.moved (u := U) (U := U.calling g mk a) (Vm.Alike.refl U.vm) qK, qD, gv.fb qG⟩, fun U hU hW => ⟨rfl, by rw [hU], by rw [hU]; exact hPc, va_K.moved hW.alike hKc, hDc.weaken (fun _ _ _ _ => trivial), gv.pass hW hU hS hFc hG⟩⟩ rfl rfl hl.1 rfl (lv_room (Nat.le_of_ble_eq_true rfl)) dX3_run_1 ⟨Nat.le_of_ble_eq_true rfl, Nat.le_of_ble_eq_true rfl⟩) hS (fun q _ h => hFc q h) hFc (fun q _ h => hFc q h) (fun E ce q9 u t H1 locs ht hvm hpx hB hz1 hk1 hS hce hcv hcl => ?_) (fun u t H1 locs ht hvm hw hB hz1 hk1 hS => hw.elim)
  obtain ⟨rfl, hP1, hK1, hD1⟩ := hB
  rw [ht] at hP1
  have hK1 := va_K.moved hvm.symm hK1
  obtain ⟨hP, hD⟩ := va_join (wr := [(h0, .inr (7, [.ref z0, .ref z1, .ref z2, .ref z3, .ref z4, .ref z5, .int 0, .int 0, .int 0]))]) (w1 := []) hP hD [] [0] rfl rfl (by decide) (by decide) hk1 hFc hP1 hD1
  generalize H1 = H at hP hS hce ⊢
  have hP : va_P (dC, dI) vwCl [(h0, .inr (7, [.ref z0, .ref z1, .ref z2, .ref z3, .ref z4, .ref z5, .int 0, .int 0, .int 0]))] H := hP
  have hD : va_D A [(h0, .inr (7, [.ref z0, .ref z1, .ref z2, .ref z3, .ref z4, .ref z5, .int 0, .int 0, .int 0]))] := hD
  exact vx_out (fun x hx9 => (ht9 x hx9).elim) hlocks hce hcv hcl (fun t ht hW => ⟨(), trivial, ⟨rfl, by rw [ht]; exact hP, va_K.moved hW hK, hD⟩, hS.F ht⟩) hS.2.2 (by omega) (by omega)
set_option maxHeartbeats 4000000 in
set_option maxRecDepth 100000 in
theorem kx_L_run_4 (l : Launch) (hst : l.stackTraces = false) (dC : Nat → ClassId) (dI : Nat → Nat → Nat) (ge5 gea gv5 gva gde gic gi0 : Nat) (h0 : Nat) (z0 : Nat) (z1 : Nat) (z2 : Nat) (z3 : Nat) (z4 : Nat) (z5 : Nat) (z6 : Nat) (sz : Nat) (i0 : Int32) (i0_l : (4 : Int) ≤ i0.toInt) (i0_u : i0.toInt ≤ (2147483647 : Int)) (i1 : Int32) (i1_l : ((-2147483648) : Int) ≤ i1.toInt) (i1_u : i1.toInt ≤ ((-1) : Int)) (i2 : Int32) (i2_l : ((-2147483648) : Int) ≤ i2.toInt) (i2_u : i2.toInt ≤ (2147483647 : Int)) : Met l yL_run wsL_run ({ frames := 8, cells := 1, slots := 6, locals := 164 }) (va_Pc [.ref h0, .int i0, .int i1, .int i2, .ref z0] (fun U => U.heap.size = sz ∧ va_P (dC, dI) vwCl [(h0, .inr (7, [.ref z1, .ref z2, .ref z3, .ref z4, .ref z5, .ref z6, .int 0, .int 0, .int 0]))] U.heap ∧ va_K (dC, dI) vwCl [] U ∧ va_D (fun _ => True) [(h0, .inr (7, [.ref z1, .ref z2, .ref z3, .ref z4, .ref z5, .ref z6, .int 0, .int 0, .int 0]))] ∧ gv ge5 gea gv5 gva gde gic gi0 (va_A [(h0, .inr (7, [.ref z1, .ref z2, .ref z3, .ref z4, .ref z5, .ref z6, .int 0, .int 0, .int 0]))] sz) U U.heap)) (va_Qi (fun (r : Int32) (_ : Unit) => r = 1) (fun (_ : Unit) (t : State) => va_P (dC, dI) vwCl [(h0, .inr (7, [.ref z1, .ref z2, .ref z3, .ref z4, .ref z5, .ref z6, .int 0, .int 0, .int 0]))] t.heap ∧ va_K (dC, dI) vwCl [] t ∧ va_D (va_A [(h0, .inr (7, [.ref z1, .ref z2, .ref z3, .ref z4, .ref z5, .ref z6, .int 0, .int 0, .int 0]))] sz) [(h0, .inr (7, [.ref z1, .ref z2, .ref z3, .ref z4, .ref z5, .ref z6, .int 0, .int 0, .int 0]))]) (va_A [(h0, .inr (7, [.ref z1, .ref z2, .ref z3, .ref z4, .ref z5, .ref z6, .int 0, .int 0, .int 0]))] sz)) 1 6 (va_A [(h0, .inr (7, [.ref z1, .ref z2, .ref z3, .ref z4, .ref z5, .ref z6, .int 0, .int 0, .int 0]))] sz) := by
  refine kz_ofWH (cc := cL_run) (maxL := 6) (ret := (some .int)) (hh := [(0, 13, 16, 19), (0, 13, 20, 21)]) (by decide) rfl ?_
  intro p e s m args below meth c s₁ B hml hv
  obtain ⟨rfl, hsz, hP, hK, hD0, hG⟩ := hv
  have hx := B.exec
  have hb := B.bytes
  have hr := B.returns
  have hts := atoms_spec (ws := wsL_run) B.pre
  have hown : s.vm.findClass RL = some m.cls := findClass_of_methodNamed B.named
  have htab := vx_table (x := yL_run) B (hts (.codeWith yL_run cL_run 6 (some .int) [(0, 13, 16, 19), (0, 13, 20, 21)]) (by decide +kernel))
  have hlocks := B.notSynchronized
  subst hsz
  have hD := hD0.self (sz := s.heap.size)
  generalize hAe : va_A [(h0, .inr (7, [.ref z1, .ref z2, .ref z3, .ref z4, .ref z5, .ref z6, .int 0, .int 0, .int 0]))] s.heap.size = A at hD hG ⊢
  obtain ⟨⟨g_AO_Text, g_AO_String, g_AO_Object, g_nm_RX1_20, g_nm_RX0_17, g_nm_RX3_31, g_nm_RX2_44, g_nm_RL_121, g_nf_RL_13, g_nf_RL_47, g_ca_IO, g_ca_IA, g_ca_IS, g_ca_IntObj, g_ca_StrObj, g_de_RT, g_de_EX, g_de_TH, g_nc_IA_IO, g_nc_IS_IO, g_nc_IS_IA⟩, ⟨g_s3, g_s5, g_sa, g_x278, g_x280, g_x282, g_x284, g_x286, g_x180, g_x238, g_x250⟩, ⟨g_o5, g_c5, g_v5, g_t5, g_oa, g_ca, g_va, g_ta, g_zc, g_zd, g_td, g_zf, g_zU, g_zN, g_zh, g_zk, g_tk, g_oi, g_vi⟩⟩ := id hG
  have hA : ∀ q : Nat, s.heap.size ≤ q → A q := fun q h => by rw [← hAe]; exact Or.inr h
  have hS : va_S A s.heap s.heap [] := va_S.rf
  have hP : va_P (dC, dI) vwCl [(h0, .inr (7, [.ref z1, .ref z2, .ref z3, .ref z4, .ref z5, .ref z6, .int 0, .int 0, .int 0]))] s.heap := hP
  have hl := lv_entry ([.ref h0, .int i0, .int i1, .int i2, .ref z0]) (n := 6) (Nat.le_of_ble_eq_true rfl)
  rw [lg_entry_eq]
  generalize (lg_sl ([.ref h0, .int i0, .int i1, .int i2, .ref z0]) ++ List.replicate (6 - (lg_sl ([.ref h0, .int i0, .int i1, .int i2, .ref z0])).length) Slot.unset).toArray = ls at hl ⊢
  have hl : lv_has ls 6 [(0, .ref h0), (1, .int i0), (2, .int i1), (3, .int i2), (4, .ref z0)] := hl
  refine lv_aload hx hb dL_run_0 (lv_at hl 4 rfl) ?_
  refine lv_aload_n hx hb dL_run_2 rfl (lv_at hl 0 rfl) ?_
  refine lv_iload_n hx hb dL_run_3 rfl (lv_at hl 1 rfl) ?_
  refine lv_iload_n hx hb dL_run_4 rfl (lv_at hl 2 rfl) ?_
  refine lv_iload_n hx hb dL_run_5 rfl (lv_at hl 3 rfl) ?_
  have hPc := hP.sub (ws' := [(h0, .inr (7, [.ref z1, .ref z2, .ref z3, .ref z4, .ref z5, .ref z6, .int 0, .int 0, .int 0]))]) [0] rfl
  have hDc := hD.sub (ws' := [(h0, .inr (7, [.ref z1, .ref z2, .ref z3, .ref z4, .ref z5, .ref z6, .int 0, .int 0, .int 0]))]) [0] (by decide) rfl
  have hKc := hK.sub (tys' := []) [] rfl
  have hFc := va_free (wc := [(h0, .inr (7, [.ref z1, .ref z2, .ref z3, .ref z4, .ref z5, .ref z6, .int 0, .int 0, .int 0]))]) hD hS hA [0] rfl
  refine vx_calli (vx_runV (As := [.int i0, .int i1, .int i2]) (rest := [.ref z0]) ⟨hx, hb, hml, hown, hts⟩ (kx_X3_run_4 l hst dC dI ge5 gea gv5 gva gde gic gi0 h0 z1 z2 z3 z4 z5 z6 s.heap.size i0 i0_l i0_u i1 i1_l i1_u i2 i2_l i2_u) (cwV 3 hts gL_run_X3_run rfl rfl rfl (by decide +kernel) ⟨Nat.le_of_ble_eq_true rfl, Nat.le_of_ble_eq_true rfl⟩) ⟨fun a U g mk q => by obtain ⟨q0, q1, qP, qK, qD, qG⟩ := q; exact ⟨q0, q1, qP, va_K.moved (u := U) (U := U.calling g mk a) (Vm.Alike.refl U.vm) qK, qD, gv.fb qG⟩, va_recv hKc hPc (ci := 7) (q0 := 0) rfl rfl, fun U hU hW => ⟨rfl, by rw [hU], by rw [hU]; exact hPc, va_K.moved hW.alike hKc, hDc.weaken (fun _ _ _ _ => trivial), gv.pass hW hU hS hFc hG⟩⟩ rfl rfl hl.1 rfl (lv_room (Nat.le_of_ble_eq_true rfl)) dL_run_6 ⟨Nat.le_of_ble_eq_true rfl, Nat.le_of_ble_eq_true rfl⟩) hS (fun q _ h => hFc q h) hFc (fun q _ h => hFc q h) (fun E ce q9 u t H1 locs ht hvm hpx hB hz1 hk1 hS hce hcv hcl => ?_) (fun r9 u t H1 locs ht hvm hw hB hz1 hk1 hS => hw.elim)
  obtain ⟨rfl, hP1, hK1, hD1⟩ := hB
  rw [ht] at hP1
  have hK1 := va_K.moved hvm.symm hK1
  obtain ⟨hP, hD⟩ := va_join (wr := []) (w1 := [(h0, .inr (7, [.ref z1, .ref z2, .ref z3, .ref z4, .ref z5, .ref z6, .int 0, .int 0, .int 0]))]) hP hD [0] [] rfl rfl (by decide) (by decide) hk1 hFc hP1 hD1
  generalize H1 = H at hP hS hce ⊢
  have hP : va_P (dC, dI) vwCl [(h0, .inr (7, [.ref z1, .ref z2, .ref z3, .ref z4, .ref z5, .ref z6, .int 0, .int 0, .int 0]))] H := hP
  have hD : va_D A [(h0, .inr (7, [.ref z1, .ref z2, .ref z3, .ref z4, .ref z5, .ref z6, .int 0, .int 0, .int 0]))] := hD
  refine vx_catch (own := RL) (name := "java/lang/IndexOutOfBoundsException") hown (tableOf []) ⟨0, 13, 16, 19⟩ (tableOf [(0, 13, 20, 21)]) (by rw [htab]; rfl) (fun z hz => nomatch hz) (by decide +kernel) (by decide) (hts (.classLink RL 19 "java/lang/IndexOutOfBoundsException") (by decide +kernel)) (va_Nw.use rfl g_ca_IO) hce hcv hcl ?_
  refine W.eq (g2 := F0 m 16 ls [.ref q9]) rfl ?_
  refine lv_astore (lv' := [(5, .ref q9), (0, .ref h0), (1, .int i0), (2, .int i1), (3, .int i2), (4, .ref z0)]) hx hb dL_run_16 hl (by decide) rfl (fun ls hl => ?_)
  refine lv_iconst (v := 1) hx hb dL_run_18 (by decide) ?_
  exact W.iret (v := 1) hx hb hr (fun t ht hW => ⟨⟨1, (), rfl, rfl, by rw [ht]; exact hP, va_K.moved hW.alike hK, hD⟩, hS.F ht⟩) hS.2.2 dL_run_19
set_option maxHeartbeats 4000000 in
set_option maxRecDepth 100000 in
theorem kx_X5_run_4 (l : Launch) (dC : Nat → ClassId) (dI : Nat → Nat → Nat) (h0 : Nat) (z0 : Nat) (z1 : Nat) (z2 : Nat) (sz : Nat) (i0 : Int32) (i0_l : (4 : Int) ≤ i0.toInt) (i0_u : i0.toInt ≤ (2147483647 : Int)) (i1 : Int32) (i1_l : ((-2147483648) : Int) ≤ i1.toInt) (i1_u : i1.toInt ≤ ((-1) : Int)) (i2 : Int32) (i2_l : ((-2147483648) : Int) ≤ i2.toInt) (i2_u : i2.toInt ≤ (2147483647 : Int)) : Met l yX5_run wsX5_run ({ frames := 2, cells := 0, slots := 0, locals := 42 }) (va_Pc [.ref h0, .int i0, .int i1, .int i2] (fun U => U.heap.size = sz ∧ va_P (dC, dI) vwCl [(h0, .inr (9, [.int 0, .ref z0, .ref z1, .ref z2, .int 0, .int 0, .int 0]))] U.heap ∧ va_K (dC, dI) vwCl [] U ∧ va_D (fun _ => True) [(h0, .inr (9, [.int 0, .ref z0, .ref z1, .ref z2, .int 0, .int 0, .int 0]))])) (va_Qi (fun (r : Int32) (_ : Unit) => r = 0) (fun (_ : Unit) (t : State) => va_P (dC, dI) vwCl [(h0, .inr (9, [.int 1, .ref z0, .ref z1, .ref z2, .int 0, .int 0, .int 0]))] t.heap ∧ va_K (dC, dI) vwCl [] t ∧ va_D (va_A [(h0, .inr (9, [.int 0, .ref z0, .ref z1, .ref z2, .int 0, .int 0, .int 0]))] sz) [(h0, .inr (9, [.int 1, .ref z0, .ref z1, .ref z2, .int 0, .int 0, .int 0]))]) (va_A [(h0, .inr (9, [.int 0, .ref z0, .ref z1, .ref z2, .int 0, .int 0, .int 0]))] sz)) 0 0 (va_A [(h0, .inr (9, [.int 0, .ref z0, .ref z1, .ref z2, .int 0, .int 0, .int 0]))] sz) := by
  refine Met.ofW (cc := cX5_run) (maxL := 5) (ret := (some .int)) (by decide) rfl ?_
  intro p e s m args below meth c s₁ B hml hv
  obtain ⟨rfl, hsz, hP, hK, hD0⟩ := hv
  have hx := B.exec
  have hb := B.bytes
  have hr := B.returns
  have hts := atoms_spec (ws := wsX5_run) B.pre
  have hown : s.vm.findClass RX5 = some m.cls := findClass_of_methodNamed B.named
  have hlocks := B.notSynchronized
  subst hsz
  have hD := hD0.self (sz := s.heap.size)
  generalize hAe : va_A [(h0, .inr (9, [.int 0, .ref z0, .ref z1, .ref z2, .int 0, .int 0, .int 0]))] s.heap.size = A at hD ⊢
  have hA : ∀ q : Nat, s.heap.size ≤ q → A q := fun q h => by rw [← hAe]; exact Or.inr h
  have hS : va_S A s.heap s.heap [] := va_S.rf
  have hP : va_P (dC, dI) vwCl [(h0, .inr (9, [.int 0, .ref z0, .ref z1, .ref z2, .int 0, .int 0, .int 0]))] s.heap := hP
  have hl := lv_entry ([.ref h0, .int i0, .int i1, .int i2]) (n := 5) (Nat.le_of_ble_eq_true rfl)
  rw [lg_entry_eq]
  generalize (lg_sl ([.ref h0, .int i0, .int i1, .int i2]) ++ List.replicate (5 - (lg_sl ([.ref h0, .int i0, .int i1, .int i2])).length) Slot.unset).toArray = ls at hl ⊢
  have hl : lv_has ls 5 [(0, .ref h0), (1, .int i0), (2, .int i1), (3, .int i2)] := hl
  refine lv_aload_n hx hb dX5_run_0 rfl (lv_at hl 0 rfl) ?_
  refine lv_iload_n hx hb dX5_run_1 rfl (lv_at hl 1 rfl) ?_
  have hPc := hP.sub (ws' := []) [] rfl
  have hDc := hD.sub (ws' := []) [] (by decide) rfl
  have hKc := hK.sub (tys' := []) [] rfl
  have hFc := va_free (wc := []) hD hS hA [] rfl
  refine va_calli (va_runS (As := [.int i0]) (rest := [.ref h0]) ⟨hx, hb, hml, hown, hts⟩ (kx_X5_isNo_2 l dC dI s.heap.size i0 i0_l i0_u) (cwS 1 hts gX5_run_X5_isNo rfl rfl rfl (by decide +kernel) ⟨Nat.le_of_ble_eq_true rfl, Nat.le_of_ble_eq_true rfl⟩) ⟨fun a U g mk q => by obtain ⟨q0, q1, qP, qK, qD⟩ := q; exact ⟨q0, q1, qP, va_K.moved (u := U) (U := U.calling g mk a) (Vm.Alike.refl U.vm) qK, qD⟩, fun U hU hW => ⟨rfl, by rw [hU], by rw [hU]; exact hPc, va_K.moved hW.alike hKc, hDc.weaken (fun _ _ _ _ => trivial)⟩⟩ rfl rfl hl.1 rfl (lv_room (Nat.le_of_ble_eq_true rfl)) dX5_run_2 ⟨Nat.le_of_ble_eq_true rfl, Nat.le_of_ble_eq_true rfl⟩) hS (fun q _ h => hFc q h) hFc (fun r9 u t H1 locs ht hvm hw hB hz1 hk1 hS => ?_)
  obtain rfl := hw
  obtain ⟨hP1, hK1, hD1⟩ := hB
  rw [ht] at hP1
  have hK1 := va_K.moved hvm.symm hK1
  obtain ⟨hP, hD⟩ := va_join (wr := [(h0, .inr (9, [.int 0, .ref z0, .ref z1, .ref z2, .int 0, .int 0, .int 0]))]) (w1 := []) hP hD [] [0] rfl rfl (by decide) (by decide) hk1 hFc hP1 hD1
  generalize H1 = H at hP hS ⊢
  have hP : va_P (dC, dI) vwCl [(h0, .inr (9, [.int 0, .ref z0, .ref z1, .ref z2, .int 0, .int 0, .int 0]))] H := hP
  have hD : va_D A [(h0, .inr (9, [.int 0, .ref z0, .ref z1, .ref z2, .int 0, .int 0, .int 0]))] := hD
  refine lv_iload_n hx hb dX5_run_5 rfl (lv_at hl 2 rfl) ?_
  refine lv_iconst (v := 0) hx hb dX5_run_6 (by decide) ?_
  refine lv_iconst (v := 2) hx hb dX5_run_7 (by decide) ?_
  have hPc := hP.sub (ws' := []) [] rfl
  have hDc := hD.sub (ws' := []) [] (by decide) rfl
  have hKc := hK.sub (tys' := []) [] rfl
  have hFc := va_free (wc := []) hD hS hA [] rfl
  refine va_calli (va_runS (As := [.int i1, .int 0, .int 2]) (rest := [.int 1, .ref h0]) ⟨hx, hb, hml, hown, hts⟩ (kx_X5_isIn_22 l dC dI H.size i1 i1_l i1_u) (cwS 3 hts gX5_run_X5_isIn rfl rfl rfl (by decide +kernel) ⟨Nat.le_of_ble_eq_true rfl, Nat.le_of_ble_eq_true rfl⟩) ⟨fun a U g mk q => by obtain ⟨q0, q1, qP, qK, qD⟩ := q; exact ⟨q0, q1, qP, va_K.moved (u := U) (U := U.calling g mk a) (Vm.Alike.refl U.vm) qK, qD⟩, fun U hU hW => ⟨rfl, by rw [hU], by rw [hU]; exact hPc, va_K.moved hW.alike hKc, hDc.weaken (fun _ _ _ _ => trivial)⟩⟩ rfl rfl hl.1 rfl (lv_room (Nat.le_of_ble_eq_true rfl)) dX5_run_8 ⟨Nat.le_of_ble_eq_true rfl, Nat.le_of_ble_eq_true rfl⟩) hS (fun q _ h => hFc q h) hFc (fun r9 u t H1 locs ht hvm hw hB hz1 hk1 hS => ?_)
  obtain rfl := hw
  obtain ⟨hP1, hK1, hD1⟩ := hB
  rw [ht] at hP1
  have hK1 := va_K.moved hvm.symm hK1
  obtain ⟨hP, hD⟩ := va_join (wr := [(h0, .inr (9, [.int 0, .ref z0, .ref z1, .ref z2, .int 0, .int 0, .int 0]))]) (w1 := []) hP hD [] [0] rfl rfl (by decide) (by decide) hk1 hFc hP1 hD1
  generalize H1 = H at hP hS ⊢
  have hP : va_P (dC, dI) vwCl [(h0, .inr (9, [.int 0, .ref z0, .ref z1, .ref z2, .int 0, .int 0, .int 0]))] H := hP
  have hD : va_D A [(h0, .inr (9, [.int 0, .ref z0, .ref z1, .ref z2, .int 0, .int 0, .int 0]))] := hD
  refine lv_if_eq (tgt := 24) hx hb dX5_run_11 (by decide) (fun _ => ?_) (fun c9 => absurd (by decide) c9)
  refine lv_iconst (v := 1) hx hb dX5_run_24 (by decide) ?_
  refine lv_goto (tgt := 29) hx hb dX5_run_25 (by decide) ?_
  refine lv_iconst (v := 0) hx hb dX5_run_29 (by decide) ?_
  have hPc := hP.sub (ws' := [(h0, .inr (9, [.int 0, .ref z0, .ref z1, .ref z2, .int 0, .int 0, .int 0]))]) [0] rfl
  have hDc := hD.sub (ws' := [(h0, .inr (9, [.int 0, .ref z0, .ref z1, .ref z2, .int 0, .int 0, .int 0]))]) [0] (by decide) rfl
  have hKc := hK.sub (tys' := []) [] rfl
  have hFc := va_free (wc := [(h0, .inr (9, [.int 0, .ref z0, .ref z1, .ref z2, .int 0, .int 0, .int 0]))]) hD hS hA [0] rfl
  refine va_calli (va_runV (As := [.int 1, .int 1, .int 0]) (rest := []) ⟨hx, hb, hml, hown, hts⟩ (kx_X5_fails_2 l dC dI h0 z0 z1 z2 H.size) (cwV 3 hts gX5_run_X5_fails rfl rfl rfl (by decide +kernel) ⟨Nat.le_of_ble_eq_true rfl, Nat.le_of_ble_eq_true rfl⟩) ⟨fun a U g mk q => by obtain ⟨q0, q1, qP, qK, qD⟩ := q; exact ⟨q0, q1, qP, va_K.moved (u := U) (U := U.calling g mk a) (Vm.Alike.refl U.vm) qK, qD⟩, va_recv hKc hPc (ci := 9) (q0 := 0) rfl rfl, fun U hU hW => ⟨rfl, by rw [hU], by rw [hU]; exact hPc, va_K.moved hW.alike hKc, hDc.weaken (fun _ _ _ _ => trivial)⟩⟩ rfl rfl hl.1 rfl (lv_room (Nat.le_of_ble_eq_true rfl)) dX5_run_30 ⟨Nat.le_of_ble_eq_true rfl, Nat.le_of_ble_eq_true rfl⟩) hS (fun q _ h => hFc q h) hFc (fun r9 u t H1 locs ht hvm hw hB hz1 hk1 hS => ?_)
  obtain rfl := hw
  obtain ⟨hP1, hK1, hD1⟩ := hB
  rw [ht] at hP1
  have hK1 := va_K.moved hvm.symm hK1
  obtain ⟨hP, hD⟩ := va_join (wr := []) (w1 := [(h0, .inr (9, [.int 1, .ref z0, .ref z1, .ref z2, .int 0, .int 0, .int 0]))]) hP hD [0] [] rfl rfl (by decide) (by decide) hk1 hFc hP1 hD1
  generalize H1 = H at hP hS ⊢
  have hP : va_P (dC, dI) vwCl [(h0, .inr (9, [.int 1, .ref z0, .ref z1, .ref z2, .int 0, .int 0, .int 0]))] H := hP
  have hD : va_D A [(h0, .inr (9, [.int 1, .ref z0, .ref z1, .ref z2, .int 0, .int 0, .int 0]))] := hD
  refine lv_if_eq (tgt := 38) hx hb dX5_run_33 (by decide) (fun c9 => absurd c9 (by decide)) (fun _ => ?_)
  refine lv_iconst (v := 0) hx hb dX5_run_36 (by decide) ?_
  exact W.iret (v := 0) hx hb hr (fun t ht hW => ⟨⟨0, (), rfl, rfl, by rw [ht]; exact hP, va_K.moved hW.alike hK, hD⟩, hS.F ht⟩) hS.2.2 dX5_run_37
set_option maxHeartbeats 4000000 in
set_option maxRecDepth 100000 in
theorem kx_X3_run_5 (l : Launch) (hst : l.stackTraces = false) (dC : Nat → ClassId) (dI : Nat → Nat → Nat) (ge5 gea gv5 gva gde gic gi0 : Nat) (h0 : Nat) (z0 : Nat) (z1 : Nat) (z2 : Nat) (z3 : Nat) (z4 : Nat) (z5 : Nat) (sz : Nat) (i0 : Int32) (i0_l : (4 : Int) ≤ i0.toInt) (i0_u : i0.toInt ≤ (2147483647 : Int)) (i1 : Int32) (i1_l : (3 : Int) ≤ i1.toInt) (i1_u : i1.toInt ≤ (2147483647 : Int)) (i2 : Int32) (i2_l : ((-2147483648) : Int) ≤ i2.toInt) (i2_u : i2.toInt ≤ (2147483647 : Int)) : vx_Met l yX3_run wsX3_run ({ frames := 7, cells := 1, slots := 6, locals := 140 }) (va_Pc [.ref h0, .int i0, .int i1, .int i2] (fun U => U.heap.size = sz ∧ va_P (dC, dI) vwCl [(h0, .inr (7, [.ref z0, .ref z1, .ref z2, .ref z3, .ref z4, .ref z5, .int 0, .int 0, .int 0]))] U.heap ∧ va_K (dC, dI) vwCl [] U ∧ va_D (fun _ => True) [(h0, .inr (7, [.ref z0, .ref z1, .ref z2, .ref z3, .ref z4, .ref z5, .int 0, .int 0, .int 0]))] ∧ gv ge5 gea gv5 gva gde gic gi0 (va_A [(h0, .inr (7, [.ref z0, .ref z1, .ref z2, .ref z3, .ref z4, .ref z5, .int 0, .int 0, .int 0]))] sz) U U.heap)) (va_Qi (fun (_ : Int32) (_ : Unit) => False) (fun _ _ => True) (va_A [(h0, .inr (7, [.ref z0, .ref z1, .ref z2, .ref z3, .ref z4, .ref z5, .int 0, .int 0, .int 0]))] sz)) (vx_X (fun _ : Unit => True) (fun (E : String) (_ : Unit) (t : State) => E = "java/lang/IndexOutOfBoundsException" ∧ va_P (dC, dI) vwCl [(h0, .inr (7, [.ref z0, .ref z1, .ref z2, .ref z3, .ref z4, .ref z5, .int 0, .int 0, .int 0]))] t.heap ∧ va_K (dC, dI) vwCl [] t ∧ va_D (va_A [(h0, .inr (7, [.ref z0, .ref z1, .ref z2, .ref z3, .ref z4, .ref z5, .int 0, .int 0, .int 0]))] sz) [(h0, .inr (7, [.ref z0, .ref z1, .ref z2, .ref z3, .ref z4, .ref z5, .int 0, .int 0, .int 0]))]) (va_A [(h0, .inr (7, [.ref z0, .ref z1, .ref z2, .ref z3, .ref z4, .ref z5, .int 0, .int 0, .int 0]))] sz)) 1 6 (va_A [(h0, .inr (7, [.ref z0, .ref z1, .ref z2, .ref z3, .ref z4, .ref z5, .int 0, .int 0, .int 0]))] sz) := by
  refine vx_ofW (cc := cX3_run) (maxL := 5) (ret := (some .int)) (by decide) rfl ?_
  intro p e s m args below meth c s₁ B hml ht9 hv
  obtain ⟨rfl, hsz, hP, hK, hD0, hG⟩ := hv
  have hx := B.exec
  have hb := B.bytes
  have hr := B.returns
  have hts := atoms_spec (ws := wsX3_run) B.pre
  have hown : s.vm.findClass RX3 = some m.cls := findClass_of_methodNamed B.named
  have hlocks := B.notSynchronized
  subst hsz
  have hD := hD0.self (sz := s.heap.size)
  generalize hAe : va_A [(h0, .inr (7, [.ref z0, .ref z1, .ref z2, .ref z3, .ref z4, .ref z5, .int 0, .int 0, .int 0]))] s.heap.size = A at hD hG ⊢
  obtain ⟨⟨g_AO_Text, g_AO_String, g_AO_Object, g_nm_RX1_20, g_nm_RX0_17, g_nm_RX3_31, g_nm_RX2_44, g_nm_RL_121, g_nf_RL_13, g_nf_RL_47, g_ca_IO, g_ca_IA, g_ca_IS, g_ca_IntObj, g_ca_StrObj, g_de_RT, g_de_EX, g_de_TH, g_nc_IA_IO, g_nc_IS_IO, g_nc_IS_IA⟩, ⟨g_s3, g_s5, g_sa, g_x278, g_x280, g_x282, g_x284, g_x286, g_x180, g_x238, g_x250⟩, ⟨g_o5, g_c5, g_v5, g_t5, g_oa, g_ca, g_va, g_ta, g_zc, g_zd, g_td, g_zf, g_zU, g_zN, g_zh, g_zk, g_tk, g_oi, g_vi⟩⟩ := id hG
  have hA : ∀ q : Nat, s.heap.size ≤ q → A q := fun q h => by rw [← hAe]; exact Or.inr h
  have hS : va_S A s.heap s.heap [] := va_S.rf
  have hP : va_P (dC, dI) vwCl [(h0, .inr (7, [.ref z0, .ref z1, .ref z2, .ref z3, .ref z4, .ref z5, .int 0, .int 0, .int 0]))] s.heap := hP
  have hl := lv_entry ([.ref h0, .int i0, .int i1, .int i2]) (n := 5) (Nat.le_of_ble_eq_true rfl)
  rw [lg_entry_eq]
  generalize (lg_sl ([.ref h0, .int i0, .int i1, .int i2]) ++ List.replicate (5 - (lg_sl ([.ref h0, .int i0, .int i1, .int i2])).length) Slot.unset).toArray = ls at hl ⊢
  have hl : lv_has ls 5 [(0, .ref h0), (1, .int i0), (2, .int i1), (3, .int i2)] := hl
  refine lv_iload_n hx hb dX3_run_0 rfl (lv_at hl 1 rfl) ?_
  have hPc := hP.sub (ws' := []) [] rfl
  have hDc := hD.sub (ws' := []) [] (by decide) rfl
  have hKc := hK.sub (tys' := []) [] rfl
  have hFc := va_free (wc := []) hD hS hA [] rfl
  refine vx_callv (vx_runS (As := [.int i0]) (rest := []) ⟨hx, hb, hml, hown, hts⟩ (kx_X3_needRope_6 l hst dC dI ge5 gea gv5 gva gde gic gi0 s.heap.size i0 i0_l i0_u) (cwS 1 hts gX3_run_X3_needRope rfl rfl rfl (by decide +kernel) ⟨Nat.le_of_ble_eq_true rfl, Nat.le_of_ble_eq_true rfl⟩) ⟨fun a U g mk q => by obtain ⟨q0, q1, qP, qK, qD, qG⟩ := q; exact ⟨q0, q1, qP, va_K.moved (u := U) (U := U.calling g mk a) (Vm.Alike.refl U.vm) qK, qD, gv.fb qG⟩, fun U hU hW => ⟨rfl, by rw [hU], by rw [hU]; exact hPc, va_K.moved hW.alike hKc, hDc.weaken (fun _ _ _ _ => trivial), gv.pass hW hU hS hFc hG⟩⟩ rfl rfl hl.1 rfl (lv_room (Nat.le_of_ble_eq_true rfl)) dX3_run_1 ⟨Nat.le_of_ble_eq_true rfl, Nat.le_of_ble_eq_true rfl⟩) hS (fun q _ h => hFc q h) hFc (fun q _ h => hFc q h) (fun E ce q9 u t H1 locs ht hvm hpx hB hz1 hk1 hS hce hcv hcl => ?_) (fun u t H1 locs ht hvm hw hB hz1 hk1 hS => hw.elim)
  obtain ⟨rfl, hP1, hK1, hD1⟩ := hB
  rw [ht] at hP1
  have hK1 := va_K.moved hvm.symm hK1
  obtain ⟨hP, hD⟩ := va_join (wr := [(h0, .inr (7, [.ref z0, .ref z1, .ref z2, .ref z3, .ref z4, .ref z5, .int 0, .int 0, .int 0]))]) (w1 := []) hP hD [] [0] rfl rfl (by decide) (by decide) hk1 hFc hP1 hD1
  generalize H1 = H at hP hS hce ⊢
  have hP : va_P (dC, dI) vwCl [(h0, .inr (7, [.ref z0, .ref z1, .ref z2, .ref z3, .ref z4, .ref z5, .int 0, .int 0, .int 0]))] H := hP
  have hD : va_D A [(h0, .inr (7, [.ref z0, .ref z1, .ref z2, .ref z3, .ref z4, .ref z5, .int 0, .int 0, .int 0]))] := hD
  exact vx_out (fun x hx9 => (ht9 x hx9).elim) hlocks hce hcv hcl (fun t ht hW => ⟨(), trivial, ⟨rfl, by rw [ht]; exact hP, va_K.moved hW hK, hD⟩, hS.F ht⟩) hS.2.2 (by omega) (by omega)
set_option maxHeartbeats 4000000 in
set_option maxRecDepth 100000 in
theorem kx_L_run_5 (l : Launch) (hst : l.stackTraces = false) (dC : Nat → ClassId) (dI : Nat → Nat → Nat) (ge5 gea gv5 gva gde gic gi0 : Nat) (h0 : Nat) (z0 : Nat) (z1 : Nat) (z2 : Nat) (z3 : Nat) (z4 : Nat) (z5 : Nat) (z6 : Nat) (sz : Nat) (i0 : Int32) (i0_l : (4 : Int) ≤ i0.toInt) (i0_u : i0.toInt ≤ (2147483647 : Int)) (i1 : Int32) (i1_l : (3 : Int) ≤ i1.toInt) (i1_u : i1.toInt ≤ (2147483647 : Int)) (i2 : Int32) (i2_l : ((-2147483648) : Int) ≤ i2.toInt) (i2_u : i2.toInt ≤ (2147483647 : Int)) : Met l yL_run wsL_run ({ frames := 8, cells := 1, slots := 6, locals := 164 }) (va_Pc [.ref h0, .int i0, .int i1, .int i2, .ref z0] (fun U => U.heap.size = sz ∧ va_P (dC, dI) vwCl [(h0, .inr (7, [.ref z1, .ref z2, .ref z3, .ref z4, .ref z5, .ref z6, .int 0, .int 0, .int 0]))] U.heap ∧ va_K (dC, dI) vwCl [] U ∧ va_D (fun _ => True) [(h0, .inr (7, [.ref z1, .ref z2, .ref z3, .ref z4, .ref z5, .ref z6, .int 0, .int 0, .int 0]))] ∧ gv ge5 gea gv5 gva gde gic gi0 (va_A [(h0, .inr (7, [.ref z1, .ref z2, .ref z3, .ref z4, .ref z5, .ref z6, .int 0, .int 0, .int 0]))] sz) U U.heap)) (va_Qi (fun (r : Int32) (_ : Unit) => r = 1) (fun (_ : Unit) (t : State) => va_P (dC, dI) vwCl [(h0, .inr (7, [.ref z1, .ref z2, .ref z3, .ref z4, .ref z5, .ref z6, .int 0, .int 0, .int 0]))] t.heap ∧ va_K (dC, dI) vwCl [] t ∧ va_D (va_A [(h0, .inr (7, [.ref z1, .ref z2, .ref z3, .ref z4, .ref z5, .ref z6, .int 0, .int 0, .int 0]))] sz) [(h0, .inr (7, [.ref z1, .ref z2, .ref z3, .ref z4, .ref z5, .ref z6, .int 0, .int 0, .int 0]))]) (va_A [(h0, .inr (7, [.ref z1, .ref z2, .ref z3, .ref z4, .ref z5, .ref z6, .int 0, .int 0, .int 0]))] sz)) 1 6 (va_A [(h0, .inr (7, [.ref z1, .ref z2, .ref z3, .ref z4, .ref z5, .ref z6, .int 0, .int 0, .int 0]))] sz) := by
  refine kz_ofWH (cc := cL_run) (maxL := 6) (ret := (some .int)) (hh := [(0, 13, 16, 19), (0, 13, 20, 21)]) (by decide) rfl ?_
  intro p e s m args below meth c s₁ B hml hv
  obtain ⟨rfl, hsz, hP, hK, hD0, hG⟩ := hv
  have hx := B.exec
  have hb := B.bytes
  have hr := B.returns
  have hts := atoms_spec (ws := wsL_run) B.pre
  have hown : s.vm.findClass RL = some m.cls := findClass_of_methodNamed B.named
  have htab := vx_table (x := yL_run) B (hts (.codeWith yL_run cL_run 6 (some .int) [(0, 13, 16, 19), (0, 13, 20, 21)]) (by decide +kernel))
  have hlocks := B.notSynchronized
  subst hsz
  have hD := hD0.self (sz := s.heap.size)
  generalize hAe : va_A [(h0, .inr (7, [.ref z1, .ref z2, .ref z3, .ref z4, .ref z5, .ref z6, .int 0, .int 0, .int 0]))] s.heap.size = A at hD hG ⊢
  obtain ⟨⟨g_AO_Text, g_AO_String, g_AO_Object, g_nm_RX1_20, g_nm_RX0_17, g_nm_RX3_31, g_nm_RX2_44, g_nm_RL_121, g_nf_RL_13, g_nf_RL_47, g_ca_IO, g_ca_IA, g_ca_IS, g_ca_IntObj, g_ca_StrObj, g_de_RT, g_de_EX, g_de_TH, g_nc_IA_IO, g_nc_IS_IO, g_nc_IS_IA⟩, ⟨g_s3, g_s5, g_sa, g_x278, g_x280, g_x282, g_x284, g_x286, g_x180, g_x238, g_x250⟩, ⟨g_o5, g_c5, g_v5, g_t5, g_oa, g_ca, g_va, g_ta, g_zc, g_zd, g_td, g_zf, g_zU, g_zN, g_zh, g_zk, g_tk, g_oi, g_vi⟩⟩ := id hG
  have hA : ∀ q : Nat, s.heap.size ≤ q → A q := fun q h => by rw [← hAe]; exact Or.inr h
  have hS : va_S A s.heap s.heap [] := va_S.rf
  have hP : va_P (dC, dI) vwCl [(h0, .inr (7, [.ref z1, .ref z2, .ref z3, .ref z4, .ref z5, .ref z6, .int 0, .int 0, .int 0]))] s.heap := hP
  have hl := lv_entry ([.ref h0, .int i0, .int i1, .int i2, .ref z0]) (n := 6) (Nat.le_of_ble_eq_true rfl)
  rw [lg_entry_eq]
  generalize (lg_sl ([.ref h0, .int i0, .int i1, .int i2, .ref z0]) ++ List.replicate (6 - (lg_sl ([.ref h0, .int i0, .int i1, .int i2, .ref z0])).length) Slot.unset).toArray = ls at hl ⊢
  have hl : lv_has ls 6 [(0, .ref h0), (1, .int i0), (2, .int i1), (3, .int i2), (4, .ref z0)] := hl
  refine lv_aload hx hb dL_run_0 (lv_at hl 4 rfl) ?_
  refine lv_aload_n hx hb dL_run_2 rfl (lv_at hl 0 rfl) ?_
  refine lv_iload_n hx hb dL_run_3 rfl (lv_at hl 1 rfl) ?_
  refine lv_iload_n hx hb dL_run_4 rfl (lv_at hl 2 rfl) ?_
  refine lv_iload_n hx hb dL_run_5 rfl (lv_at hl 3 rfl) ?_
  have hPc := hP.sub (ws' := [(h0, .inr (7, [.ref z1, .ref z2, .ref z3, .ref z4, .ref z5, .ref z6, .int 0, .int 0, .int 0]))]) [0] rfl
  have hDc := hD.sub (ws' := [(h0, .inr (7, [.ref z1, .ref z2, .ref z3, .ref z4, .ref z5, .ref z6, .int 0, .int 0, .int 0]))]) [0] (by decide) rfl
  have hKc := hK.sub (tys' := []) [] rfl
  have hFc := va_free (wc := [(h0, .inr (7, [.ref z1, .ref z2, .ref z3, .ref z4, .ref z5, .ref z6, .int 0, .int 0, .int 0]))]) hD hS hA [0] rfl
  refine vx_calli (vx_runV (As := [.int i0, .int i1, .int i2]) (rest := [.ref z0]) ⟨hx, hb, hml, hown, hts⟩ (kx_X3_run_5 l hst dC dI ge5 gea gv5 gva gde gic gi0 h0 z1 z2 z3 z4 z5 z6 s.heap.size i0 i0_l i0_u i1 i1_l i1_u i2 i2_l i2_u) (cwV 3 hts gL_run_X3_run rfl rfl rfl (by decide +kernel) ⟨Nat.le_of_ble_eq_true rfl, Nat.le_of_ble_eq_true rfl⟩) ⟨fun a U g mk q => by obtain ⟨q0, q1, qP, qK, qD, qG⟩ := q; exact ⟨q0, q1, qP, va_K.moved (u := U) (U := U.calling g mk a) (Vm.Alike.refl U.vm) qK, qD, gv.fb qG⟩, va_recv hKc hPc (ci := 7) (q0 := 0) rfl rfl, fun U hU hW => ⟨rfl, by rw [hU], by rw [hU]; exact hPc, va_K.moved hW.alike hKc, hDc.weaken (fun _ _ _ _ => trivial), gv.pass hW hU hS hFc hG⟩⟩ rfl rfl hl.1 rfl (lv_room (Nat.le_of_ble_eq_true rfl)) dL_run_6 ⟨Nat.le_of_ble_eq_true rfl, Nat.le_of_ble_eq_true rfl⟩) hS (fun q _ h => hFc q h) hFc (fun q _ h => hFc q h) (fun E ce q9 u t H1 locs ht hvm hpx hB hz1 hk1 hS hce hcv hcl => ?_) (fun r9 u t H1 locs ht hvm hw hB hz1 hk1 hS => hw.elim)
  obtain ⟨rfl, hP1, hK1, hD1⟩ := hB
  rw [ht] at hP1
  have hK1 := va_K.moved hvm.symm hK1
  obtain ⟨hP, hD⟩ := va_join (wr := []) (w1 := [(h0, .inr (7, [.ref z1, .ref z2, .ref z3, .ref z4, .ref z5, .ref z6, .int 0, .int 0, .int 0]))]) hP hD [0] [] rfl rfl (by decide) (by decide) hk1 hFc hP1 hD1
  generalize H1 = H at hP hS hce ⊢
  have hP : va_P (dC, dI) vwCl [(h0, .inr (7, [.ref z1, .ref z2, .ref z3, .ref z4, .ref z5, .ref z6, .int 0, .int 0, .int 0]))] H := hP
  have hD : va_D A [(h0, .inr (7, [.ref z1, .ref z2, .ref z3, .ref z4, .ref z5, .ref z6, .int 0, .int 0, .int 0]))] := hD
  refine vx_catch (own := RL) (name := "java/lang/IndexOutOfBoundsException") hown (tableOf []) ⟨0, 13, 16, 19⟩ (tableOf [(0, 13, 20, 21)]) (by rw [htab]; rfl) (fun z hz => nomatch hz) (by decide +kernel) (by decide) (hts (.classLink RL 19 "java/lang/IndexOutOfBoundsException") (by decide +kernel)) (va_Nw.use rfl g_ca_IO) hce hcv hcl ?_
  refine W.eq (g2 := F0 m 16 ls [.ref q9]) rfl ?_
  refine lv_astore (lv' := [(5, .ref q9), (0, .ref h0), (1, .int i0), (2, .int i1), (3, .int i2), (4, .ref z0)]) hx hb dL_run_16 hl (by decide) rfl (fun ls hl => ?_)
  refine lv_iconst (v := 1) hx hb dL_run_18 (by decide) ?_
  exact W.iret (v := 1) hx hb hr (fun t ht hW => ⟨⟨1, (), rfl, rfl, by rw [ht]; exact hP, va_K.moved hW.alike hK, hD⟩, hS.F ht⟩) hS.2.2 dL_run_19
set_option maxHeartbeats 4000000 in
set_option maxRecDepth 100000 in
theorem kx_X5_run_5 (l : Launch) (dC : Nat → ClassId) (dI : Nat → Nat → Nat) (h0 : Nat) (z0 : Nat) (z1 : Nat) (z2 : Nat) (sz : Nat) (i0 : Int32) (i0_l : (4 : Int) ≤ i0.toInt) (i0_u : i0.toInt ≤ (2147483647 : Int)) (i1 : Int32) (i1_l : (3 : Int) ≤ i1.toInt) (i1_u : i1.toInt ≤ (2147483647 : Int)) (i2 : Int32) (i2_l : ((-2147483648) : Int) ≤ i2.toInt) (i2_u : i2.toInt ≤ (2147483647 : Int)) : Met l yX5_run wsX5_run ({ frames := 2, cells := 0, slots := 0, locals := 42 }) (va_Pc [.ref h0, .int i0, .int i1, .int i2] (fun U => U.heap.size = sz ∧ va_P (dC, dI) vwCl [(h0, .inr (9, [.int 0, .ref z0, .ref z1, .ref z2, .int 0, .int 0, .int 0]))] U.heap ∧ va_K (dC, dI) vwCl [] U ∧ va_D (fun _ => True) [(h0, .inr (9, [.int 0, .ref z0, .ref z1, .ref z2, .int 0, .int 0, .int 0]))])) (va_Qi (fun (r : Int32) (_ : Unit) => r = 0) (fun (_ : Unit) (t : State) => va_P (dC, dI) vwCl [(h0, .inr (9, [.int 1, .ref z0, .ref z1, .ref z2, .int 0, .int 0, .int 0]))] t.heap ∧ va_K (dC, dI) vwCl [] t ∧ va_D (va_A [(h0, .inr (9, [.int 0, .ref z0, .ref z1, .ref z2, .int 0, .int 0, .int 0]))] sz) [(h0, .inr (9, [.int 1, .ref z0, .ref z1, .ref z2, .int 0, .int 0, .int 0]))]) (va_A [(h0, .inr (9, [.int 0, .ref z0, .ref z1, .ref z2, .int 0, .int 0, .int 0]))] sz)) 0 0 (va_A [(h0, .inr (9, [.int 0, .ref z0, .ref z1, .ref z2, .int 0, .int 0, .int 0]))] sz) := by
  refine Met.ofW (cc := cX5_run) (maxL := 5) (ret := (some .int)) (by decide) rfl ?_
  intro p e s m args below meth c s₁ B hml hv
  obtain ⟨rfl, hsz, hP, hK, hD0⟩ := hv
  have hx := B.exec
  have hb := B.bytes
  have hr := B.returns
  have hts := atoms_spec (ws := wsX5_run) B.pre
  have hown : s.vm.findClass RX5 = some m.cls := findClass_of_methodNamed B.named
  have hlocks := B.notSynchronized
  subst hsz
  have hD := hD0.self (sz := s.heap.size)
  generalize hAe : va_A [(h0, .inr (9, [.int 0, .ref z0, .ref z1, .ref z2, .int 0, .int 0, .int 0]))] s.heap.size = A at hD ⊢
  have hA : ∀ q : Nat, s.heap.size ≤ q → A q := fun q h => by rw [← hAe]; exact Or.inr h
  have hS : va_S A s.heap s.heap [] := va_S.rf
  have hP : va_P (dC, dI) vwCl [(h0, .inr (9, [.int 0, .ref z0, .ref z1, .ref z2, .int 0, .int 0, .int 0]))] s.heap := hP
  have hl := lv_entry ([.ref h0, .int i0, .int i1, .int i2]) (n := 5) (Nat.le_of_ble_eq_true rfl)
  rw [lg_entry_eq]
  generalize (lg_sl ([.ref h0, .int i0, .int i1, .int i2]) ++ List.replicate (5 - (lg_sl ([.ref h0, .int i0, .int i1, .int i2])).length) Slot.unset).toArray = ls at hl ⊢
  have hl : lv_has ls 5 [(0, .ref h0), (1, .int i0), (2, .int i1), (3, .int i2)] := hl
  refine lv_aload_n hx hb dX5_run_0 rfl (lv_at hl 0 rfl) ?_
  refine lv_iload_n hx hb dX5_run_1 rfl (lv_at hl 1 rfl) ?_
  have hPc := hP.sub (ws' := []) [] rfl
  have hDc := hD.sub (ws' := []) [] (by decide) rfl
  have hKc := hK.sub (tys' := []) [] rfl
  have hFc := va_free (wc := []) hD hS hA [] rfl
  refine va_calli (va_runS (As := [.int i0]) (rest := [.ref h0]) ⟨hx, hb, hml, hown, hts⟩ (kx_X5_isNo_2 l dC dI s.heap.size i0 i0_l i0_u) (cwS 1 hts gX5_run_X5_isNo rfl rfl rfl (by decide +kernel) ⟨Nat.le_of_ble_eq_true rfl, Nat.le_of_ble_eq_true rfl⟩) ⟨fun a U g mk q => by obtain ⟨q0, q1, qP, qK, qD⟩ := q; exact ⟨q0, q1, qP, va_K.moved (u := U) (U := U.calling g mk a) (Vm.Alike.refl U.vm) qK, qD⟩, fun U hU hW => ⟨rfl, by rw [hU], by rw [hU]; exact hPc, va_K.moved hW.alike hKc, hDc.weaken (fun _ _ _ _ => trivial)⟩⟩ rfl rfl hl.1 rfl (lv_room (Nat.le_of_ble_eq_true rfl)) dX5_run_2 ⟨Nat.le_of_ble_eq_true rfl, Nat.le_of_ble_eq_true rfl⟩) hS (fun q _ h => hFc q h) hFc (fun r9 u t H1 locs ht hvm hw hB hz1 hk1 hS => ?_)
  obtain rfl := hw
  obtain ⟨hP1, hK1, hD1⟩ := hB
  rw [ht] at hP1
  have hK1 := va_K.moved hvm.symm hK1
  obtain ⟨hP, hD⟩ := va_join (wr := [(h0, .inr (9, [.int 0, .ref z0, .ref z1, .ref z2, .int 0, .int 0, .int 0]))]) (w1 := []) hP hD [] [0] rfl rfl (by decide) (by decide) hk1 hFc hP1 hD1
  generalize H1 = H at hP hS ⊢
  have hP : va_P (dC, dI) vwCl [(h0, .inr (9, [.int 0, .ref z0, .ref z1, .ref z2, .int 0, .int 0, .int 0]))] H := hP
  have hD : va_D A [(h0, .inr (9, [.int 0, .ref z0, .ref z1, .ref z2, .int 0, .int 0, .int 0]))] := hD
  refine lv_iload_n hx hb dX5_run_5 rfl (lv_at hl 2 rfl) ?_
  refine lv_iconst (v := 0) hx hb dX5_run_6 (by decide) ?_
  refine lv_iconst (v := 2) hx hb dX5_run_7 (by decide) ?_
  have hPc := hP.sub (ws' := []) [] rfl
  have hDc := hD.sub (ws' := []) [] (by decide) rfl
  have hKc := hK.sub (tys' := []) [] rfl
  have hFc := va_free (wc := []) hD hS hA [] rfl
  refine va_calli (va_runS (As := [.int i1, .int 0, .int 2]) (rest := [.int 1, .ref h0]) ⟨hx, hb, hml, hown, hts⟩ (kx_X5_isIn_23 l dC dI H.size i1 i1_l i1_u) (cwS 3 hts gX5_run_X5_isIn rfl rfl rfl (by decide +kernel) ⟨Nat.le_of_ble_eq_true rfl, Nat.le_of_ble_eq_true rfl⟩) ⟨fun a U g mk q => by obtain ⟨q0, q1, qP, qK, qD⟩ := q; exact ⟨q0, q1, qP, va_K.moved (u := U) (U := U.calling g mk a) (Vm.Alike.refl U.vm) qK, qD⟩, fun U hU hW => ⟨rfl, by rw [hU], by rw [hU]; exact hPc, va_K.moved hW.alike hKc, hDc.weaken (fun _ _ _ _ => trivial)⟩⟩ rfl rfl hl.1 rfl (lv_room (Nat.le_of_ble_eq_true rfl)) dX5_run_8 ⟨Nat.le_of_ble_eq_true rfl, Nat.le_of_ble_eq_true rfl⟩) hS (fun q _ h => hFc q h) hFc (fun r9 u t H1 locs ht hvm hw hB hz1 hk1 hS => ?_)
  obtain rfl := hw
  obtain ⟨hP1, hK1, hD1⟩ := hB
  rw [ht] at hP1
  have hK1 := va_K.moved hvm.symm hK1
  obtain ⟨hP, hD⟩ := va_join (wr := [(h0, .inr (9, [.int 0, .ref z0, .ref z1, .ref z2, .int 0, .int 0, .int 0]))]) (w1 := []) hP hD [] [0] rfl rfl (by decide) (by decide) hk1 hFc hP1 hD1
  generalize H1 = H at hP hS ⊢
  have hP : va_P (dC, dI) vwCl [(h0, .inr (9, [.int 0, .ref z0, .ref z1, .ref z2, .int 0, .int 0, .int 0]))] H := hP
  have hD : va_D A [(h0, .inr (9, [.int 0, .ref z0, .ref z1, .ref z2, .int 0, .int 0, .int 0]))] := hD
  refine lv_if_eq (tgt := 24) hx hb dX5_run_11 (by decide) (fun _ => ?_) (fun c9 => absurd (by decide) c9)
  refine lv_iconst (v := 1) hx hb dX5_run_24 (by decide) ?_
  refine lv_goto (tgt := 29) hx hb dX5_run_25 (by decide) ?_
  refine lv_iconst (v := 0) hx hb dX5_run_29 (by decide) ?_
  have hPc := hP.sub (ws' := [(h0, .inr (9, [.int 0, .ref z0, .ref z1, .ref z2, .int 0, .int 0, .int 0]))]) [0] rfl
  have hDc := hD.sub (ws' := [(h0, .inr (9, [.int 0, .ref z0, .ref z1, .ref z2, .int 0, .int 0, .int 0]))]) [0] (by decide) rfl
  have hKc := hK.sub (tys' := []) [] rfl
  have hFc := va_free (wc := [(h0, .inr (9, [.int 0, .ref z0, .ref z1, .ref z2, .int 0, .int 0, .int 0]))]) hD hS hA [0] rfl
  refine va_calli (va_runV (As := [.int 1, .int 1, .int 0]) (rest := []) ⟨hx, hb, hml, hown, hts⟩ (kx_X5_fails_2 l dC dI h0 z0 z1 z2 H.size) (cwV 3 hts gX5_run_X5_fails rfl rfl rfl (by decide +kernel) ⟨Nat.le_of_ble_eq_true rfl, Nat.le_of_ble_eq_true rfl⟩) ⟨fun a U g mk q => by obtain ⟨q0, q1, qP, qK, qD⟩ := q; exact ⟨q0, q1, qP, va_K.moved (u := U) (U := U.calling g mk a) (Vm.Alike.refl U.vm) qK, qD⟩, va_recv hKc hPc (ci := 9) (q0 := 0) rfl rfl, fun U hU hW => ⟨rfl, by rw [hU], by rw [hU]; exact hPc, va_K.moved hW.alike hKc, hDc.weaken (fun _ _ _ _ => trivial)⟩⟩ rfl rfl hl.1 rfl (lv_room (Nat.le_of_ble_eq_true rfl)) dX5_run_30 ⟨Nat.le_of_ble_eq_true rfl, Nat.le_of_ble_eq_true rfl⟩) hS (fun q _ h => hFc q h) hFc (fun r9 u t H1 locs ht hvm hw hB hz1 hk1 hS => ?_)
  obtain rfl := hw
  obtain ⟨hP1, hK1, hD1⟩ := hB
  rw [ht] at hP1
  have hK1 := va_K.moved hvm.symm hK1
  obtain ⟨hP, hD⟩ := va_join (wr := []) (w1 := [(h0, .inr (9, [.int 1, .ref z0, .ref z1, .ref z2, .int 0, .int 0, .int 0]))]) hP hD [0] [] rfl rfl (by decide) (by decide) hk1 hFc hP1 hD1
  generalize H1 = H at hP hS ⊢
  have hP : va_P (dC, dI) vwCl [(h0, .inr (9, [.int 1, .ref z0, .ref z1, .ref z2, .int 0, .int 0, .int 0]))] H := hP
  have hD : va_D A [(h0, .inr (9, [.int 1, .ref z0, .ref z1, .ref z2, .int 0, .int 0, .int 0]))] := hD
  refine lv_if_eq (tgt := 38) hx hb dX5_run_33 (by decide) (fun c9 => absurd c9 (by decide)) (fun _ => ?_)
  refine lv_iconst (v := 0) hx hb dX5_run_36 (by decide) ?_
  exact W.iret (v := 0) hx hb hr (fun t ht hW => ⟨⟨0, (), rfl, rfl, by rw [ht]; exact hP, va_K.moved hW.alike hK, hD⟩, hS.F ht⟩) hS.2.2 dX5_run_37
set_option maxHeartbeats 4000000 in
set_option maxRecDepth 100000 in
theorem kx_X3_run_6 (l : Launch) (hst : l.stackTraces = false) (dC : Nat → ClassId) (dI : Nat → Nat → Nat) (ge5 gea gv5 gva gde gic gi0 : Nat) (h0 : Nat) (z0 : Nat) (z1 : Nat) (z2 : Nat) (z3 : Nat) (z4 : Nat) (z5 : Nat) (sz : Nat) (i0 : Int32) (i0_l : (0 : Int) ≤ i0.toInt) (i0_u : i0.toInt ≤ (3 : Int)) (i1 : Int32) (i1_l : (0 : Int) ≤ i1.toInt) (i1_u : i1.toInt ≤ (2 : Int)) (i2 : Int32) (i2_l : ((-2147483648) : Int) ≤ i2.toInt) (i2_u : i2.toInt ≤ (0 : Int)) : vx_Met l yX3_run wsX3_run ({ frames := 6, cells := 1, slots := 6, locals := 120 }) (va_Pc [.ref h0, .int i0, .int i1, .int i2] (fun U => U.heap.size = sz ∧ va_P (dC, dI) vwCl [(h0, .inr (7, [.ref z0, .ref z1, .ref z2, .ref z3, .ref z4, .ref z5, .int 0, .int 0, .int 0]))] U.heap ∧ va_K (dC, dI) vwCl [] U ∧ va_D (fun _ => True) [(h0, .inr (7, [.ref z0, .ref z1, .ref z2, .ref z3, .ref z4, .ref z5, .int 0, .int 0, .int 0]))] ∧ gv ge5 gea gv5 gva gde gic gi0 (va_A [(h0, .inr (7, [.ref z0, .ref z1, .ref z2, .ref z3, .ref z4, .ref z5, .int 0, .int 0, .int 0]))] sz) U U.heap)) (va_Qi (fun (_ : Int32) (_ : Unit) => False) (fun _ _ => True) (va_A [(h0, .inr (7, [.ref z0, .ref z1, .ref z2, .ref z3, .ref z4, .ref z5, .int 0, .int 0, .int 0]))] sz)) (vx_X (fun _ : Unit => True) (fun (E : String) (_ : Unit) (t : State) => E = "java/lang/IllegalArgumentException" ∧ va_P (dC, dI) vwCl [(h0, .inr (7, [.ref z0, .ref z1, .ref z2, .ref z3, .ref z4, .ref z5, .int 0, .int 0, .int 0]))] t.heap ∧ va_K (dC, dI) vwCl [] t ∧ va_D (va_A [(h0, .inr (7, [.ref z0, .ref z1, .ref z2, .ref z3, .ref z4, .ref z5, .int 0, .int 0, .int 0]))] sz) [(h0, .inr (7, [.ref z0, .ref z1, .ref z2, .ref z3, .ref z4, .ref z5, .int 0, .int 0, .int 0]))]) (va_A [(h0, .inr (7, [.ref z0, .ref z1, .ref z2, .ref z3, .ref z4, .ref z5, .int 0, .int 0, .int 0]))] sz)) 1 6 (va_A [(h0, .inr (7, [.ref z0, .ref z1, .ref z2, .ref z3, .ref z4, .ref z5, .int 0, .int 0, .int 0]))] sz) := by
  refine vx_ofW (cc := cX3_run) (maxL := 5) (ret := (some .int)) (by decide) rfl ?_
  intro p e s m args below meth c s₁ B hml ht9 hv
  obtain ⟨rfl, hsz, hP, hK, hD0, hG⟩ := hv
  have hx := B.exec
  have hb := B.bytes
  have hr := B.returns
  have hts := atoms_spec (ws := wsX3_run) B.pre
  have hown : s.vm.findClass RX3 = some m.cls := findClass_of_methodNamed B.named
  have hlocks := B.notSynchronized
  subst hsz
  have hD := hD0.self (sz := s.heap.size)
  generalize hAe : va_A [(h0, .inr (7, [.ref z0, .ref z1, .ref z2, .ref z3, .ref z4, .ref z5, .int 0, .int 0, .int 0]))] s.heap.size = A at hD hG ⊢
  obtain ⟨⟨g_AO_Text, g_AO_String, g_AO_Object, g_nm_RX1_20, g_nm_RX0_17, g_nm_RX3_31, g_nm_RX2_44, g_nm_RL_121, g_nf_RL_13, g_nf_RL_47, g_ca_IO, g_ca_IA, g_ca_IS, g_ca_IntObj, g_ca_StrObj, g_de_RT, g_de_EX, g_de_TH, g_nc_IA_IO, g_nc_IS_IO, g_nc_IS_IA⟩, ⟨g_s3, g_s5, g_sa, g_x278, g_x280, g_x282, g_x284, g_x286, g_x180, g_x238, g_x250⟩, ⟨g_o5, g_c5, g_v5, g_t5, g_oa, g_ca, g_va, g_ta, g_zc, g_zd, g_td, g_zf, g_zU, g_zN, g_zh, g_zk, g_tk, g_oi, g_vi⟩⟩ := id hG
  have hA : ∀ q : Nat, s.heap.size ≤ q → A q := fun q h => by rw [← hAe]; exact Or.inr h
  have hS : va_S A s.heap s.heap [] := va_S.rf
  have hP : va_P (dC, dI) vwCl [(h0, .inr (7, [.ref z0, .ref z1, .ref z2, .ref z3, .ref z4, .ref z5, .int 0, .int 0, .int 0]))] s.heap := hP
  have hl := lv_entry ([.ref h0, .int i0, .int i1, .int i2]) (n := 5) (Nat.le_of_ble_eq_true rfl)
  rw [lg_entry_eq]
  generalize (lg_sl ([.ref h0, .int i0, .int i1, .int i2]) ++ List.replicate (5 - (lg_sl ([.ref h0, .int i0, .int i1, .int i2])).length) Slot.unset).toArray = ls at hl ⊢
  have hl : lv_has ls 5 [(0, .ref h0), (1, .int i0), (2, .int i1), (3, .int i2)] := hl
  refine lv_iload_n hx hb dX3_run_0 rfl (lv_at hl 1 rfl) ?_
  have hPc := hP.sub (ws' := []) [] rfl
  have hDc := hD.sub (ws' := []) [] (by decide) rfl
  have hKc := hK.sub (tys' := []) [] rfl
  have hFc := va_free (wc := []) hD hS hA [] rfl
  refine va_callv (va_runS (As := [.int i0]) (rest := []) ⟨hx, hb, hml, hown, hts⟩ (kx_X3_needRope_4 l dC dI s.heap.size i0 i0_l i0_u) (cwS 1 hts gX3_run_X3_needRope rfl rfl rfl (by decide +kernel) ⟨Nat.le_of_ble_eq_true rfl, Nat.le_of_ble_eq_true rfl⟩) ⟨fun a U g mk q => by obtain ⟨q0, q1, qP, qK, qD⟩ := q; exact ⟨q0, q1, qP, va_K.moved (u := U) (U := U.calling g mk a) (Vm.Alike.refl U.vm) qK, qD⟩, fun U hU hW => ⟨rfl, by rw [hU], by rw [hU]; exact hPc, va_K.moved hW.alike hKc, hDc.weaken (fun _ _ _ _ => trivial)⟩⟩ rfl rfl hl.1 rfl (lv_room (Nat.le_of_ble_eq_true rfl)) dX3_run_1 ⟨Nat.le_of_ble_eq_true rfl, Nat.le_of_ble_eq_true rfl⟩) hS (fun q _ h => hFc q h) hFc (fun u t H1 locs ht hvm hw hB hz1 hk1 hS => ?_)
  obtain ⟨hP1, hK1, hD1⟩ := hB
  rw [ht] at hP1
  have hK1 := va_K.moved hvm.symm hK1
  obtain ⟨hP, hD⟩ := va_join (wr := [(h0, .inr (7, [.ref z0, .ref z1, .ref z2, .ref z3, .ref z4, .ref z5, .int 0, .int 0, .int 0]))]) (w1 := []) hP hD [] [0] rfl rfl (by decide) (by decide) hk1 hFc hP1 hD1
  generalize H1 = H at hP hS ⊢
  have hP : va_P (dC, dI) vwCl [(h0, .inr (7, [.ref z0, .ref z1, .ref z2, .ref z3, .ref z4, .ref z5, .int 0, .int 0, .int 0]))] H := hP
  have hD : va_D A [(h0, .inr (7, [.ref z0, .ref z1, .ref z2, .ref z3, .ref z4, .ref z5, .int 0, .int 0, .int 0]))] := hD
  refine lv_iload_n hx hb dX3_run_4 rfl (lv_at hl 2 rfl) ?_
  have hPc := hP.sub (ws' := []) [] rfl
  have hDc := hD.sub (ws' := []) [] (by decide) rfl
  have hKc := hK.sub (tys' := []) [] rfl
  have hFc := va_free (wc := []) hD hS hA [] rfl
  refine va_callv (va_runS (As := [.int i1]) (rest := []) ⟨hx, hb, hml, hown, hts⟩ (kx_X3_needWay_0 l dC dI H.size i1 i1_l i1_u) (cwS 1 hts gX3_run_X3_needWay rfl rfl rfl (by decide +kernel) ⟨Nat.le_of_ble_eq_true rfl, Nat.le_of_ble_eq_true rfl⟩) ⟨fun a U g mk q => by obtain ⟨q0, q1, qP, qK, qD⟩ := q; exact ⟨q0, q1, qP, va_K.moved (u := U) (U := U.calling g mk a) (Vm.Alike.refl U.vm) qK, qD⟩, fun U hU hW => ⟨rfl, by rw [hU], by rw [hU]; exact hPc, va_K.moved hW.alike hKc, hDc.weaken (fun _ _ _ _ => trivial)⟩⟩ rfl rfl hl.1 rfl (lv_room (Nat.le_of_ble_eq_true rfl)) dX3_run_5 ⟨Nat.le_of_ble_eq_true rfl, Nat.le_of_ble_eq_true rfl⟩) hS (fun q _ h => hFc q h) hFc (fun u t H1 locs ht hvm hw hB hz1 hk1 hS => ?_)
  obtain ⟨hP1, hK1, hD1⟩ := hB
  rw [ht] at hP1
  have hK1 := va_K.moved hvm.symm hK1
  obtain ⟨hP, hD⟩ := va_join (wr := [(h0, .inr (7, [.ref z0, .ref z1, .ref z2, .ref z3, .ref z4, .ref z5, .int 0, .int 0, .int 0]))]) (w1 := []) hP hD [] [0] rfl rfl (by decide) (by decide) hk1 hFc hP1 hD1
  generalize H1 = H at hP hS ⊢
  have hP : va_P (dC, dI) vwCl [(h0, .inr (7, [.ref z0, .ref z1, .ref z2, .ref z3, .ref z4, .ref z5, .int 0, .int 0, .int 0]))] H := hP
  have hD : va_D A [(h0, .inr (7, [.ref z0, .ref z1, .ref z2, .ref z3, .ref z4, .ref z5, .int 0, .int 0, .int 0]))] := hD
  refine lv_iload_n hx hb dX3_run_8 rfl (lv_at hl 3 rfl) ?_
  refine lv_iconst (v := 1) hx hb dX3_run_9 (by decide) ?_
  refine lv_icmp_lt (tgt := 19) hx hb dX3_run_10 (by decide) (fun _ => ?_) (fun c9 => absurd (Int32.lt_iff_toInt_lt.mpr (by rw [show (1 : Int32).toInt = 1 from by decide]; omega)) c9)
  obtain ⟨sa9, hsa9⟩ := g_x180
  have hin9 : ∀ w ∈ (vx_atS RX3 99 "java/lang/IllegalArgumentException" ["java/lang/RuntimeException", "java/lang/Exception"]).filter goodWord, w ∈ wsX3_run := (by intro w hw; first | exact List.mem_cons_of_mem _ (List.mem_append_right _ hw) | exact List.mem_cons_of_mem _ (List.mem_append_left _ (List.mem_append_right _ hw)))
  exact vx_throwS (cls := "java/lang/IllegalArgumentException") (text := "no such number of steps") (names := ["java/lang/RuntimeException", "java/lang/Exception"]) (ic := 99) hx hb hst hown (by decide) (by decide) (hts (.classLink RX3 95 "java/lang/IllegalArgumentException") (by decide +kernel)) (hts (.initialized "java/lang/IllegalArgumentException") (by decide +kernel)) hsa9 (vx_hat (B := [.declares (Bundle.initS "java/lang/RuntimeException"), .declares (Bundle.initS "java/lang/Exception"), .declares (Bundle.initS Bundle.tN), .castable "java/lang/IllegalArgumentException" "java/lang/IllegalArgumentException"]) (fun w hw => hts w (hin9 w hw)) (fun w hw => by rw [xbad_IA] at hw; exact hw) (vx_c (va_Nw.use rfl g_de_RT) (vx_c (va_Nw.use rfl g_de_EX) (vx_c (va_Nw.use rfl g_de_TH) (vx_c (va_Nw.use rfl g_ca_IA) vx_n))))) (by decide +kernel) g_zU g_zN hS (by rw [hml]; exact hl.1) dX3_run_19 dX3_run_22 dX3_run_23 dX3_run_25 dX3_run_28 (fun x hx9 => (ht9 x hx9).elim) (Nat.le_of_ble_eq_true rfl) (Nat.le_of_ble_eq_true rfl) (Nat.le_of_ble_eq_true rfl) (Nat.le_of_ble_eq_true rfl) hlocks (fun t ha hz hk => ⟨(), trivial, ⟨rfl, hP.kept (fun k q hq => hk _ (vx_lt hP hq)), va_K.moved ha hK, hD⟩, Nat.le_trans hS.1 hz, fun q h1 h2 => (hk q (Nat.lt_of_lt_of_le h1 hS.1)).trans (hS.2.1 q h1 h2)⟩) hS.2.2 (Nat.le_refl _) (Nat.le_refl _)
set_option maxHeartbeats 4000000 in
set_option maxRecDepth 100000 in
theorem kx_L_run_6 (l : Launch) (hst : l.stackTraces = false) (dC : Nat → ClassId) (dI : Nat → Nat → Nat) (ge5 gea gv5 gva gde gic gi0 : Nat) (h0 : Nat) (z0 : Nat) (z1 : Nat) (z2 : Nat) (z3 : Nat) (z4 : Nat) (z5 : Nat) (z6 : Nat) (sz : Nat) (i0 : Int32) (i0_l : (0 : Int) ≤ i0.toInt) (i0_u : i0.toInt ≤ (3 : Int)) (i1 : Int32) (i1_l : (0 : Int) ≤ i1.toInt) (i1_u : i1.toInt ≤ (2 : Int)) (i2 : Int32) (i2_l : ((-2147483648) : Int) ≤ i2.toInt) (i2_u : i2.toInt ≤ (0 : Int)) : Met l yL_run wsL_run ({ frames := 7, cells := 1, slots := 6, locals := 144 }) (va_Pc [.ref h0, .int i0, .int i1, .int i2, .ref z0] (fun U => U.heap.size = sz ∧ va_P (dC, dI) vwCl [(h0, .inr (7, [.ref z1, .ref z2, .ref z3, .ref z4, .ref z5, .ref z6, .int 0, .int 0, .int 0]))] U.heap ∧ va_K (dC, dI) vwCl [] U ∧ va_D (fun _ => True) [(h0, .inr (7, [.ref z1, .ref z2, .ref z3, .ref z4, .ref z5, .ref z6, .int 0, .int 0, .int 0]))] ∧ gv ge5 gea gv5 gva gde gic gi0 (va_A [(h0, .inr (7, [.ref z1, .ref z2, .ref z3, .ref z4, .ref z5, .ref z6, .int 0, .int 0, .int 0]))] sz) U U.heap)) (va_Qi (fun (r : Int32) (_ : Unit) => r = 2) (fun (_ : Unit) (t : State) => va_P (dC, dI) vwCl [(h0, .inr (7, [.ref z1, .ref z2, .ref z3, .ref z4, .ref z5, .ref z6, .int 0, .int 0, .int 0]))] t.heap ∧ va_K (dC, dI) vwCl [] t ∧ va_D (va_A [(h0, .inr (7, [.ref z1, .ref z2, .ref z3, .ref z4, .ref z5, .ref z6, .int 0, .int 0, .int 0]))] sz) [(h0, .inr (7, [.ref z1, .ref z2, .ref z3, .ref z4, .ref z5, .ref z6, .int 0, .int 0, .int 0]))]) (va_A [(h0, .inr (7, [.ref z1, .ref z2, .ref z3, .ref z4, .ref z5, .ref z6, .int 0, .int 0, .int 0]))] sz)) 1 6 (va_A [(h0, .inr (7, [.ref z1, .ref z2, .ref z3, .ref z4, .ref z5, .ref z6, .int 0, .int 0, .int 0]))] sz) := by
  refine kz_ofWH (cc := cL_run) (maxL := 6) (ret := (some .int)) (hh := [(0, 13, 16, 19), (0, 13, 20, 21)]) (by decide) rfl ?_
  intro p e s m args below meth c s₁ B hml hv
  obtain ⟨rfl, hsz, hP, hK, hD0, hG⟩ := hv
  have hx := B.exec
  have hb := B.bytes
  have hr := B.returns
  have hts := atoms_spec (ws := wsL_run) B.pre
  have hown : s.vm.findClass RL = some m.cls := findClass_of_methodNamed B.named
  have htab := vx_table (x := yL_run) B (hts (.codeWith yL_run cL_run 6 (some .int) [(0, 13, 16, 19), (0, 13, 20, 21)]) (by decide +kernel))
  have hlocks := B.notSynchronized
  subst hsz
  have hD := hD0.self (sz := s.heap.size)
  generalize hAe : va_A [(h0, .inr (7, [.ref z1, .ref z2, .ref z3, .ref z4, .ref z5, .ref z6, .int 0, .int 0, .int 0]))] s.heap.size = A at hD hG ⊢
  obtain ⟨⟨g_AO_Text, g_AO_String, g_AO_Object, g_nm_RX1_20, g_nm_RX0_17, g_nm_RX3_31, g_nm_RX2_44, g_nm_RL_121, g_nf_RL_13, g_nf_RL_47, g_ca_IO, g_ca_IA, g_ca_IS, g_ca_IntObj, g_ca_StrObj, g_de_RT, g_de_EX, g_de_TH, g_nc_IA_IO, g_nc_IS_IO, g_nc_IS_IA⟩, ⟨g_s3, g_s5, g_sa, g_x278, g_x280, g_x282, g_x284, g_x286, g_x180, g_x238, g_x250⟩, ⟨g_o5, g_c5, g_v5, g_t5, g_oa, g_ca, g_va, g_ta, g_zc, g_zd, g_td, g_zf, g_zU, g_zN, g_zh, g_zk, g_tk, g_oi, g_vi⟩⟩ := id hG
  have hA : ∀ q : Nat, s.heap.size ≤ q → A q := fun q h => by rw [← hAe]; exact Or.inr h
  have hS : va_S A s.heap s.heap [] := va_S.rf
  have hP : va_P (dC, dI) vwCl [(h0, .inr (7, [.ref z1, .ref z2, .ref z3, .ref z4, .ref z5, .ref z6, .int 0, .int 0, .int 0]))] s.heap := hP
  have hl := lv_entry ([.ref h0, .int i0, .int i1, .int i2, .ref z0]) (n := 6) (Nat.le_of_ble_eq_true rfl)
  rw [lg_entry_eq]
  generalize (lg_sl ([.ref h0, .int i0, .int i1, .int i2, .ref z0]) ++ List.replicate (6 - (lg_sl ([.ref h0, .int i0, .int i1, .int i2, .ref z0])).length) Slot.unset).toArray = ls at hl ⊢
  have hl : lv_has ls 6 [(0, .ref h0), (1, .int i0), (2, .int i1), (3, .int i2), (4, .ref z0)] := hl
  refine lv_aload hx hb dL_run_0 (lv_at hl 4 rfl) ?_
  refine lv_aload_n hx hb dL_run_2 rfl (lv_at hl 0 rfl) ?_
  refine lv_iload_n hx hb dL_run_3 rfl (lv_at hl 1 rfl) ?_
  refine lv_iload_n hx hb dL_run_4 rfl (lv_at hl 2 rfl) ?_
  refine lv_iload_n hx hb dL_run_5 rfl (lv_at hl 3 rfl) ?_
  have hPc := hP.sub (ws' := [(h0, .inr (7, [.ref z1, .ref z2, .ref z3, .ref z4, .ref z5, .ref z6, .int 0, .int 0, .int 0]))]) [0] rfl
  have hDc := hD.sub (ws' := [(h0, .inr (7, [.ref z1, .ref z2, .ref z3, .ref z4, .ref z5, .ref z6, .int 0, .int 0, .int 0]))]) [0] (by decide) rfl
  have hKc := hK.sub (tys' := []) [] rfl
  have hFc := va_free (wc := [(h0, .inr (7, [.ref z1, .ref z2, .ref z3, .ref z4, .ref z5, .ref z6, .int 0, .int 0, .int 0]))]) hD hS hA [0] rfl
  refine vx_calli (vx_runV (As := [.int i0, .int i1, .int i2]) (rest := [.ref z0]) ⟨hx, hb, hml, hown, hts⟩ (kx_X3_run_6 l hst dC dI ge5 gea gv5 gva gde gic gi0 h0 z1 z2 z3 z4 z5 z6 s.heap.size i0 i0_l i0_u i1 i1_l i1_u i2 i2_l i2_u) (cwV 3 hts gL_run_X3_run rfl rfl rfl (by decide +kernel) ⟨Nat.le_of_ble_eq_true rfl, Nat.le_of_ble_eq_true rfl⟩) ⟨fun a U g mk q => by obtain ⟨q0, q1, qP, qK, qD, qG⟩ := q; exact ⟨q0, q1, qP, va_K.moved (u := U) (U := U.calling g mk a) (Vm.Alike.refl U.vm) qK, qD, gv.fb qG⟩, va_recv hKc hPc (ci := 7) (q0 := 0) rfl rfl, fun U hU hW => ⟨rfl, by rw [hU], by rw [hU]; exact hPc, va_K.moved hW.alike hKc, hDc.weaken (fun _ _ _ _ => trivial), gv.pass hW hU hS hFc hG⟩⟩ rfl rfl hl.1 rfl (lv_room (Nat.le_of_ble_eq_true rfl)) dL_run_6 ⟨Nat.le_of_ble_eq_true rfl, Nat.le_of_ble_eq_true rfl⟩) hS (fun q _ h => hFc q h) hFc (fun q _ h => hFc q h) (fun E ce q9 u t H1 locs ht hvm hpx hB hz1 hk1 hS hce hcv hcl => ?_) (fun r9 u t H1 locs ht hvm hw hB hz1 hk1 hS => hw.elim)
  obtain ⟨rfl, hP1, hK1, hD1⟩ := hB
  rw [ht] at hP1
  have hK1 := va_K.moved hvm.symm hK1
  obtain ⟨hP, hD⟩ := va_join (wr := []) (w1 := [(h0, .inr (7, [.ref z1, .ref z2, .ref z3, .ref z4, .ref z5, .ref z6, .int 0, .int 0, .int 0]))]) hP hD [0] [] rfl rfl (by decide) (by decide) hk1 hFc hP1 hD1
  generalize H1 = H at hP hS hce ⊢
  have hP : va_P (dC, dI) vwCl [(h0, .inr (7, [.ref z1, .ref z2, .ref z3, .ref z4, .ref z5, .ref z6, .int 0, .int 0, .int 0]))] H := hP
  have hD : va_D A [(h0, .inr (7, [.ref z1, .ref z2, .ref z3, .ref z4, .ref z5, .ref z6, .int 0, .int 0, .int 0]))] := hD
  refine vx_catch (own := RL) (name := "java/lang/IllegalArgumentException") hown (tableOf [(0, 13, 16, 19)]) ⟨0, 13, 20, 21⟩ (tableOf []) (by rw [htab]; rfl) (fun z hz => by
      simp only [tableOf, List.map_cons, List.map_nil, List.mem_cons, List.not_mem_nil, or_false] at hz
      rcases hz with rfl
      · exact Or.inr ⟨by decide, "java/lang/IndexOutOfBoundsException", hts (.classLink RL 19 "java/lang/IndexOutOfBoundsException") (by decide +kernel), g_nc_IA_IO⟩) (by decide +kernel) (by decide) (hts (.classLink RL 21 "java/lang/IllegalArgumentException") (by decide +kernel)) (va_Nw.use rfl g_ca_IA) hce hcv hcl ?_
  refine W.eq (g2 := F0 m 20 ls [.ref q9]) rfl ?_
  refine lv_astore (lv' := [(5, .ref q9), (0, .ref h0), (1, .int i0), (2, .int i1), (3, .int i2), (4, .ref z0)]) hx hb dL_run_20 hl (by decide) rfl (fun ls hl => ?_)
  refine lv_iconst (v := 2) hx hb dL_run_22 (by decide) ?_
  exact W.iret (v := 2) hx hb hr (fun t ht hW => ⟨⟨2, (), rfl, rfl, by rw [ht]; exact hP, va_K.moved hW.alike hK, hD⟩, hS.F ht⟩) hS.2.2 dL_run_23
set_option maxHeartbeats 4000000 in
set_option maxRecDepth 100000 in
theorem kx_X5_isIn_24 (l : Launch) (dC : Nat → ClassId) (dI : Nat → Nat → Nat) (sz : Nat) (i0 : Int32) (i0_l : ((-2147483648) : Int) ≤ i0.toInt) (i0_u : i0.toInt ≤ (0 : Int)) : Met l yX5_isIn wsX5_isIn ({ frames := 0, cells := 0, slots := 0, locals := 0 }) (va_Pc [.int i0, .int 1, .int 40] (fun U => U.heap.size = sz ∧ va_P (dC, dI) vwCl [] U.heap ∧ va_K (dC, dI) vwCl [] U ∧ va_D (fun _ => True) [])) (va_Qi (fun (r : Int32) (_ : Unit) => r = 0) (fun (_ : Unit) (t : State) => va_P (dC, dI) vwCl [] t.heap ∧ va_K (dC, dI) vwCl [] t ∧ va_D (va_A [] sz) []) (va_A [] sz)) 0 0 (va_A [] sz) := by
  refine Met.ofW (cc := cX5_isIn) (maxL := 3) (ret := (some .boolean)) (by decide) rfl ?_
  intro p e s m args below meth c s₁ B hml hv
  obtain ⟨rfl, hsz, hP, hK, hD0⟩ := hv
  have hx := B.exec
  have hb := B.bytes
  have hr := B.returns
  have hts := atoms_spec (ws := wsX5_isIn) B.pre
  have hown : s.vm.findClass RX5 = some m.cls := findClass_of_methodNamed B.named
  have hlocks := B.notSynchronized
  subst hsz
  have hD := hD0.self (sz := s.heap.size)
  generalize hAe : va_A [] s.heap.size = A at hD ⊢
  have hA : ∀ q : Nat, s.heap.size ≤ q → A q := fun q h => by rw [← hAe]; exact Or.inr h
  have hS : va_S A s.heap s.heap [] := va_S.rf
  have hP : va_P (dC, dI) vwCl [] s.heap := hP
  have hl := lv_entry ([.int i0, .int 1, .int 40]) (n := 3) (Nat.le_of_ble_eq_true rfl)
  rw [lg_entry_eq]
  generalize (lg_sl ([.int i0, .int 1, .int 40]) ++ List.replicate (3 - (lg_sl ([.int i0, .int 1, .int 40])).length) Slot.unset).toArray = ls at hl ⊢
  have hl : lv_has ls 3 [(0, .int i0), (1, .int 1), (2, .int 40)] := hl
  refine lv_iload_n hx hb dX5_isIn_0 rfl (lv_at hl 0 rfl) ?_
  refine lv_iload_n hx hb dX5_isIn_1 rfl (lv_at hl 1 rfl) ?_
  refine lv_icmp_lt (tgt := 14) hx hb dX5_isIn_2 (by decide) (fun _ => ?_) (fun c9 => absurd (Int32.lt_iff_toInt_lt.mpr (by rw [show (1 : Int32).toInt = 1 from by decide]; omega)) c9)
  refine lv_iconst (v := 0) hx hb dX5_isIn_14 (by decide) ?_
  exact W.zret (v := 0) hx hb hr (by decide) (fun t ht hW => ⟨⟨0, (), rfl, rfl, by rw [ht]; exact hP, va_K.moved hW.alike hK, hD⟩, hS.F ht⟩) hS.2.2 dX5_isIn_15
set_option maxHeartbeats 4000000 in
set_option maxRecDepth 100000 in
theorem kx_X5_run_6 (l : Launch) (dC : Nat → ClassId) (dI : Nat → Nat → Nat) (h0 : Nat) (z0 : Nat) (z1 : Nat) (z2 : Nat) (sz : Nat) (i0 : Int32) (i0_l : (0 : Int) ≤ i0.toInt) (i0_u : i0.toInt ≤ (3 : Int)) (i1 : Int32) (i1_l : (0 : Int) ≤ i1.toInt) (i1_u : i1.toInt ≤ (2 : Int)) (i2 : Int32) (i2_l : ((-2147483648) : Int) ≤ i2.toInt) (i2_u : i2.toInt ≤ (0 : Int)) : Met l yX5_run wsX5_run ({ frames := 2, cells := 0, slots := 0, locals := 42 }) (va_Pc [.ref h0, .int i0, .int i1, .int i2] (fun U => U.heap.size = sz ∧ va_P (dC, dI) vwCl [(h0, .inr (9, [.int 0, .ref z0, .ref z1, .ref z2, .int 0, .int 0, .int 0]))] U.heap ∧ va_K (dC, dI) vwCl [] U ∧ va_D (fun _ => True) [(h0, .inr (9, [.int 0, .ref z0, .ref z1, .ref z2, .int 0, .int 0, .int 0]))])) (va_Qi (fun (r : Int32) (_ : Unit) => r = 0) (fun (_ : Unit) (t : State) => va_P (dC, dI) vwCl [(h0, .inr (9, [.int 2, .ref z0, .ref z1, .ref z2, .int 0, .int 0, .int 0]))] t.heap ∧ va_K (dC, dI) vwCl [] t ∧ va_D (va_A [(h0, .inr (9, [.int 0, .ref z0, .ref z1, .ref z2, .int 0, .int 0, .int 0]))] sz) [(h0, .inr (9, [.int 2, .ref z0, .ref z1, .ref z2, .int 0, .int 0, .int 0]))]) (va_A [(h0, .inr (9, [.int 0, .ref z0, .ref z1, .ref z2, .int 0, .int 0, .int 0]))] sz)) 0 0 (va_A [(h0, .inr (9, [.int 0, .ref z0, .ref z1, .ref z2, .int 0, .int 0, .int 0]))] sz) := by
  refine Met.ofW (cc := cX5_run) (maxL := 5) (ret := (some .int)) (by decide) rfl ?_
  intro p e s m args below meth c s₁ B hml hv
  obtain ⟨rfl, hsz, hP, hK, hD0⟩ := hv
  have hx := B.exec
  have hb := B.bytes
  have hr := B.returns
  have hts := atoms_spec (ws := wsX5_run) B.pre
  have hown : s.vm.findClass RX5 = some m.cls := findClass_of_methodNamed B.named
  have hlocks := B.notSynchronized
  subst hsz
  have hD := hD0.self (sz := s.heap.size)
  generalize hAe : va_A [(h0, .inr (9, [.int 0, .ref z0, .ref z1, .ref z2, .int 0, .int 0, .int 0]))] s.heap.size = A at hD ⊢
  have hA : ∀ q : Nat, s.heap.size ≤ q → A q := fun q h => by rw [← hAe]; exact Or.inr h
  have hS : va_S A s.heap s.heap [] := va_S.rf
  have hP : va_P (dC, dI) vwCl [(h0, .inr (9, [.int 0, .ref z0, .ref z1, .ref z2, .int 0, .int 0, .int 0]))] s.heap := hP
  have hl := lv_entry ([.ref h0, .int i0, .int i1, .int i2]) (n := 5) (Nat.le_of_ble_eq_true rfl)
  rw [lg_entry_eq]
  generalize (lg_sl ([.ref h0, .int i0, .int i1, .int i2]) ++ List.replicate (5 - (lg_sl ([.ref h0, .int i0, .int i1, .int i2])).length) Slot.unset).toArray = ls at hl ⊢
  have hl : lv_has ls 5 [(0, .ref h0), (1, .int i0), (2, .int i1), (3, .int i2)] := hl
  refine lv_aload_n hx hb dX5_run_0 rfl (lv_at hl 0 rfl) ?_
  refine lv_iload_n hx hb dX5_run_1 rfl (lv_at hl 1 rfl) ?_
  have hPc := hP.sub (ws' := []) [] rfl
  have hDc := hD.sub (ws' := []) [] (by decide) rfl
  have hKc := hK.sub (tys' := []) [] rfl
  have hFc := va_free (wc := []) hD hS hA [] rfl
  refine va_calli (va_runS (As := [.int i0]) (rest := [.ref h0]) ⟨hx, hb, hml, hown, hts⟩ (kx_X5_isNo_1 l dC dI s.heap.size i0 i0_l i0_u) (cwS 1 hts gX5_run_X5_isNo rfl rfl rfl (by decide +kernel) ⟨Nat.le_of_ble_eq_true rfl, Nat.le_of_ble_eq_true rfl⟩) ⟨fun a U g mk q => by obtain ⟨q0, q1, qP, qK, qD⟩ := q; exact ⟨q0, q1, qP, va_K.moved (u := U) (U := U.calling g mk a) (Vm.Alike.refl U.vm) qK, qD⟩, fun U hU hW => ⟨rfl, by rw [hU], by rw [hU]; exact hPc, va_K.moved hW.alike hKc, hDc.weaken (fun _ _ _ _ => trivial)⟩⟩ rfl rfl hl.1 rfl (lv_room (Nat.le_of_ble_eq_true rfl)) dX5_run_2 ⟨Nat.le_of_ble_eq_true rfl, Nat.le_of_ble_eq_true rfl⟩) hS (fun q _ h => hFc q h) hFc (fun r9 u t H1 locs ht hvm hw hB hz1 hk1 hS => ?_)
  obtain rfl := hw
  obtain ⟨hP1, hK1, hD1⟩ := hB
  rw [ht] at hP1
  have hK1 := va_K.moved hvm.symm hK1
  obtain ⟨hP, hD⟩ := va_join (wr := [(h0, .inr (9, [.int 0, .ref z0, .ref z1, .ref z2, .int 0, .int 0, .int 0]))]) (w1 := []) hP hD [] [0] rfl rfl (by decide) (by decide) hk1 hFc hP1 hD1
  generalize H1 = H at hP hS ⊢
  have hP : va_P (dC, dI) vwCl [(h0, .inr (9, [.int 0, .ref z0, .ref z1, .ref z2, .int 0, .int 0, .int 0]))] H := hP
  have hD : va_D A [(h0, .inr (9, [.int 0, .ref z0, .ref z1, .ref z2, .int 0, .int 0, .int 0]))] := hD
  refine lv_iload_n hx hb dX5_run_5 rfl (lv_at hl 2 rfl) ?_
  refine lv_iconst (v := 0) hx hb dX5_run_6 (by decide) ?_
  refine lv_iconst (v := 2) hx hb dX5_run_7 (by decide) ?_
  have hPc := hP.sub (ws' := []) [] rfl
  have hDc := hD.sub (ws' := []) [] (by decide) rfl
  have hKc := hK.sub (tys' := []) [] rfl
  have hFc := va_free (wc := []) hD hS hA [] rfl
  refine va_calli (va_runS (As := [.int i1, .int 0, .int 2]) (rest := [.int 0, .ref h0]) ⟨hx, hb, hml, hown, hts⟩ (kx_X5_isIn_21 l dC dI H.size i1 i1_l i1_u) (cwS 3 hts gX5_run_X5_isIn rfl rfl rfl (by decide +kernel) ⟨Nat.le_of_ble_eq_true rfl, Nat.le_of_ble_eq_true rfl⟩) ⟨fun a U g mk q => by obtain ⟨q0, q1, qP, qK, qD⟩ := q; exact ⟨q0, q1, qP, va_K.moved (u := U) (U := U.calling g mk a) (Vm.Alike.refl U.vm) qK, qD⟩, fun U hU hW => ⟨rfl, by rw [hU], by rw [hU]; exact hPc, va_K.moved hW.alike hKc, hDc.weaken (fun _ _ _ _ => trivial)⟩⟩ rfl rfl hl.1 rfl (lv_room (Nat.le_of_ble_eq_true rfl)) dX5_run_8 ⟨Nat.le_of_ble_eq_true rfl, Nat.le_of_ble_eq_true rfl⟩) hS (fun q _ h => hFc q h) hFc (fun r9 u t H1 locs ht hvm hw hB hz1 hk1 hS => ?_)
  obtain rfl := hw
  obtain ⟨hP1, hK1, hD1⟩ := hB
  rw [ht] at hP1
  have hK1 := va_K.moved hvm.symm hK1
  obtain ⟨hP, hD⟩ := va_join (wr := [(h0, .inr (9, [.int 0, .ref z0, .ref z1, .ref z2, .int 0, .int 0, .int 0]))]) (w1 := []) hP hD [] [0] rfl rfl (by decide) (by decide) hk1 hFc hP1 hD1
  generalize H1 = H at hP hS ⊢
  have hP : va_P (dC, dI) vwCl [(h0, .inr (9, [.int 0, .ref z0, .ref z1, .ref z2, .int 0, .int 0, .int 0]))] H := hP
  have hD : va_D A [(h0, .inr (9, [.int 0, .ref z0, .ref z1, .ref z2, .int 0, .int 0, .int 0]))] := hD
  refine lv_if_eq (tgt := 24) hx hb dX5_run_11 (by decide) (fun c9 => absurd c9 (by decide)) (fun _ => ?_)
  refine lv_iload_n hx hb dX5_run_14 rfl (lv_at hl 3 rfl) ?_
  refine lv_iconst (v := 1) hx hb dX5_run_15 (by decide) ?_
  refine lv_bipush (v := 40) hx hb dX5_run_16 (by decide) ?_
  have hPc := hP.sub (ws' := []) [] rfl
  have hDc := hD.sub (ws' := []) [] (by decide) rfl
  have hKc := hK.sub (tys' := []) [] rfl
  have hFc := va_free (wc := []) hD hS hA [] rfl
  refine va_calli (va_runS (As := [.int i2, .int 1, .int 40]) (rest := [.int 0, .ref h0]) ⟨hx, hb, hml, hown, hts⟩ (kx_X5_isIn_24 l dC dI H.size i2 i2_l i2_u) (cwS 3 hts gX5_run_X5_isIn rfl rfl rfl (by decide +kernel) ⟨Nat.le_of_ble_eq_true rfl, Nat.le_of_ble_eq_true rfl⟩) ⟨fun a U g mk q => by obtain ⟨q0, q1, qP, qK, qD⟩ := q; exact ⟨q0, q1, qP, va_K.moved (u := U) (U := U.calling g mk a) (Vm.Alike.refl U.vm) qK, qD⟩, fun U hU hW => ⟨rfl, by rw [hU], by rw [hU]; exact hPc, va_K.moved hW.alike hKc, hDc.weaken (fun _ _ _ _ => trivial)⟩⟩ rfl rfl hl.1 rfl (lv_room (Nat.le_of_ble_eq_true rfl)) dX5_run_18 ⟨Nat.le_of_ble_eq_true rfl, Nat.le_of_ble_eq_true rfl⟩) hS (fun q _ h => hFc q h) hFc (fun r9 u t H1 locs ht hvm hw hB hz1 hk1 hS => ?_)
  obtain rfl := hw
  obtain ⟨hP1, hK1, hD1⟩ := hB
  rw [ht] at hP1
  have hK1 := va_K.moved hvm.symm hK1
  obtain ⟨hP, hD⟩ := va_join (wr := [(h0, .inr (9, [.int 0, .ref z0, .ref z1, .ref z2, .int 0, .int 0, .int 0]))]) (w1 := []) hP hD [] [0] rfl rfl (by decide) (by decide) hk1 hFc hP1 hD1
  generalize H1 = H at hP hS ⊢
  have hP : va_P (dC, dI) vwCl [(h0, .inr (9, [.int 0, .ref z0, .ref z1, .ref z2, .int 0, .int 0, .int 0]))] H := hP
  have hD : va_D A [(h0, .inr (9, [.int 0, .ref z0, .ref z1, .ref z2, .int 0, .int 0, .int 0]))] := hD
  refine lv_if_ne (tgt := 28) hx hb dX5_run_21 (by decide) (fun c9 => absurd (by decide) c9) (fun _ => ?_)
  refine lv_iconst (v := 1) hx hb dX5_run_24 (by decide) ?_
  refine lv_goto (tgt := 29) hx hb dX5_run_25 (by decide) ?_
  refine lv_iconst (v := 0) hx hb dX5_run_29 (by decide) ?_
  have hPc := hP.sub (ws' := [(h0, .inr (9, [.int 0, .ref z0, .ref z1, .ref z2, .int 0, .int 0, .int 0]))]) [0] rfl
  have hDc := hD.sub (ws' := [(h0, .inr (9, [.int 0, .ref z0, .ref z1, .ref z2, .int 0, .int 0, .int 0]))]) [0] (by decide) rfl
  have hKc := hK.sub (tys' := []) [] rfl
  have hFc := va_free (wc := [(h0, .inr (9, [.int 0, .ref z0, .ref z1, .ref z2, .int 0, .int 0, .int 0]))]) hD hS hA [0] rfl
  refine va_calli (va_runV (As := [.int 0, .int 1, .int 0]) (rest := []) ⟨hx, hb, hml, hown, hts⟩ (kx_X5_fails_3 l dC dI h0 z0 z1 z2 H.size) (cwV 3 hts gX5_run_X5_fails rfl rfl rfl (by decide +kernel) ⟨Nat.le_of_ble_eq_true rfl, Nat.le_of_ble_eq_true rfl⟩) ⟨fun a U g mk q => by obtain ⟨q0, q1, qP, qK, qD⟩ := q; exact ⟨q0, q1, qP, va_K.moved (u := U) (U := U.calling g mk a) (Vm.Alike.refl U.vm) qK, qD⟩, va_recv hKc hPc (ci := 9) (q0 := 0) rfl rfl, fun U hU hW => ⟨rfl, by rw [hU], by rw [hU]; exact hPc, va_K.moved hW.alike hKc, hDc.weaken (fun _ _ _ _ => trivial)⟩⟩ rfl rfl hl.1 rfl (lv_room (Nat.le_of_ble_eq_true rfl)) dX5_run_30 ⟨Nat.le_of_ble_eq_true rfl, Nat.le_of_ble_eq_true rfl⟩) hS (fun q _ h => hFc q h) hFc (fun r9 u t H1 locs ht hvm hw hB hz1 hk1 hS => ?_)
  obtain rfl := hw
  obtain ⟨hP1, hK1, hD1⟩ := hB
  rw [ht] at hP1
  have hK1 := va_K.moved hvm.symm hK1
  obtain ⟨hP, hD⟩ := va_join (wr := []) (w1 := [(h0, .inr (9, [.int 2, .ref z0, .ref z1, .ref z2, .int 0, .int 0, .int 0]))]) hP hD [0] [] rfl rfl (by decide) (by decide) hk1 hFc hP1 hD1
  generalize H1 = H at hP hS ⊢
  have hP : va_P (dC, dI) vwCl [(h0, .inr (9, [.int 2, .ref z0, .ref z1, .ref z2, .int 0, .int 0, .int 0]))] H := hP
  have hD : va_D A [(h0, .inr (9, [.int 2, .ref z0, .ref z1, .ref z2, .int 0, .int 0, .int 0]))] := hD
  refine lv_if_eq (tgt := 38) hx hb dX5_run_33 (by decide) (fun c9 => absurd c9 (by decide)) (fun _ => ?_)
  refine lv_iconst (v := 0) hx hb dX5_run_36 (by decide) ?_
  exact W.iret (v := 0) hx hb hr (fun t ht hW => ⟨⟨0, (), rfl, rfl, by rw [ht]; exact hP, va_K.moved hW.alike hK, hD⟩, hS.F ht⟩) hS.2.2 dX5_run_37
set_option maxHeartbeats 4000000 in
set_option maxRecDepth 100000 in
theorem kx_X1_rewriteByWay_0 (l : Launch) (dC : Nat → ClassId) (dI : Nat → Nat → Nat) (h0 : Nat) (h1 : Nat) (z0 : Nat) (z1 : Nat) (z2 : Nat) (z3 : Nat) (z4 : Nat) (z5 : Nat) (z6 : Nat) (sz : Nat) (i0 : Int32) (i0_l : (0 : Int) ≤ i0.toInt) (i0_u : i0.toInt ≤ (2 : Int)) (i1 : Int32) (i1_l : (1 : Int) ≤ i1.toInt) (i1_u : i1.toInt ≤ (40 : Int)) : Met l yX1_rewriteByWay wsX1_rewriteByWay ({ frames := 3, cells := 0, slots := 0, locals := 66 }) (va_Pc [.ref h0, .ref h1, .int i0, .int i1] (fun U => U.heap.size = sz ∧ va_P (dC, dI) vwCl [(h0, .inr (5, [.ref z0, .ref z1, .ref z2, .ref z3, .ref z4, .ref z5, .int 0, .int 0])), (h1, .inr (6, [.ref z6, .int 0]))] U.heap ∧ va_K (dC, dI) vwCl [] U ∧ va_D (fun _ => True) [(h0, .inr (5, [.ref z0, .ref z1, .ref z2, .ref z3, .ref z4, .ref z5, .int 0, .int 0])), (h1, .inr (6, [.ref z6, .int 0]))])) (va_Qi (fun (r : Int32) (_ : Unit) => r = 0) (fun (_ : Unit) (t : State) => va_P (dC, dI) vwCl [(h0, .inr (5, [.ref z0, .ref z1, .ref z2, .ref z3, .ref z4, .ref z5, .int 0, .int 0])), (h1, .inr (6, [.ref z6, .int 0]))] t.heap ∧ va_K (dC, dI) vwCl [] t ∧ va_D (va_A [(h0, .inr (5, [.ref z0, .ref z1, .ref z2, .ref z3, .ref z4, .ref z5, .int 0, .int 0])), (h1, .inr (6, [.ref z6, .int 0]))] sz) [(h0, .inr (5, [.ref z0, .ref z1, .ref z2, .ref z3, .ref z4, .ref z5, .int 0, .int 0])), (h1, .inr (6, [.ref z6, .int 0]))]) (va_A [(h0, .inr (5, [.ref z0, .ref z1, .ref z2, .ref z3, .ref z4, .ref z5, .int 0, .int 0])), (h1, .inr (6, [.ref z6, .int 0]))] sz)) 0 0 (va_A [(h0, .inr (5, [.ref z0, .ref z1, .ref z2, .ref z3, .ref z4, .ref z5, .int 0, .int 0])), (h1, .inr (6, [.ref z6, .int 0]))] sz) := by
  refine Met.ofW (cc := cX1_rewriteByWay) (maxL := 6) (ret := (some .int)) (by decide) rfl ?_
  intro p e s m args below meth c s₁ B hml hv
  obtain ⟨rfl, hsz, hP, hK, hD0⟩ := hv
  have hx := B.exec
  have hb := B.bytes
  have hr := B.returns
  have hts := atoms_spec (ws := wsX1_rewriteByWay) B.pre
  have hown : s.vm.findClass RX1 = some m.cls := findClass_of_methodNamed B.named
  have hlocks := B.notSynchronized
  subst hsz
  have hD := hD0.self (sz := s.heap.size)
  generalize hAe : va_A [(h0, .inr (5, [.ref z0, .ref z1, .ref z2, .ref z3, .ref z4, .ref z5, .int 0, .int 0])), (h1, .inr (6, [.ref z6, .int 0]))] s.heap.size = A at hD ⊢
  have hA : ∀ q : Nat, s.heap.size ≤ q → A q := fun q h => by rw [← hAe]; exact Or.inr h
  have hS : va_S A s.heap s.heap [] := va_S.rf
  have hP : va_P (dC, dI) vwCl [(h0, .inr (5, [.ref z0, .ref z1, .ref z2, .ref z3, .ref z4, .ref z5, .int 0, .int 0])), (h1, .inr (6, [.ref z6, .int 0]))] s.heap := hP
  have hl := lv_entry ([.ref h0, .ref h1, .int i0, .int i1]) (n := 6) (Nat.le_of_ble_eq_true rfl)
  rw [lg_entry_eq]
  generalize (lg_sl ([.ref h0, .ref h1, .int i0, .int i1]) ++ List.replicate (6 - (lg_sl ([.ref h0, .ref h1, .int i0, .int i1])).length) Slot.unset).toArray = ls at hl ⊢
  have hl : lv_has ls 6 [(0, .ref h0), (1, .ref h1), (2, .int i0), (3, .int i1)] := hl
  refine lv_iconst (v := 0) hx hb dX1_rewriteByWay_0 (by decide) ?_
  refine lv_istore (lv' := [(4, .int 0), (0, .ref h0), (1, .ref h1), (2, .int i0), (3, .int i1)]) hx hb dX1_rewriteByWay_1 hl (by decide) rfl (fun ls hl => ?_)
  refine lv_iload hx hb dX1_rewriteByWay_3 (lv_at hl 0 rfl) ?_
  refine lv_iload_n hx hb dX1_rewriteByWay_5 rfl (lv_at hl 4 rfl) ?_
  refine lv_icmp_ge (tgt := 49) hx hb dX1_rewriteByWay_6 (by decide) (fun c9 => absurd c9 (fun c8 => absurd (Int32.le_iff_toInt_le.mp c8) (by rw [show (0 : Int32).toInt = 0 from by decide]; omega))) (fun _ => ?_)
  refine lv_aload_n hx hb dX1_rewriteByWay_9 rfl (lv_at hl 1 rfl) ?_
  refine lv_aload_n hx hb dX1_rewriteByWay_10 rfl (lv_at hl 2 rfl) ?_
  refine lv_iload_n hx hb dX1_rewriteByWay_11 rfl (lv_at hl 3 rfl) ?_
  have hPc := hP.sub (ws' := [(h0, .inr (5, [.ref z0, .ref z1, .ref z2, .ref z3, .ref z4, .ref z5, .int 0, .int 0])), (h1, .inr (6, [.ref z6, .int 0]))]) [0, 1] rfl
  have hDc := hD.sub (ws' := [(h0, .inr (5, [.ref z0, .ref z1, .ref z2, .ref z3, .ref z4, .ref z5, .int 0, .int 0])), (h1, .inr (6, [.ref z6, .int 0]))]) [0, 1] (by decide) rfl
  have hKc := hK.sub (tys' := []) [] rfl
  have hFc := va_free (wc := [(h0, .inr (5, [.ref z0, .ref z1, .ref z2, .ref z3, .ref z4, .ref z5, .int 0, .int 0])), (h1, .inr (6, [.ref z6, .int 0]))]) hD hS hA [0, 1] rfl
  refine va_calli (va_runV (As := [.ref h1, .int i0]) (rest := []) ⟨hx, hb, hml, hown, hts⟩ (kx_X1_spotByWay_s0 l dC dI h0 h1 z0 z1 z2 z3 z4 z5 z6 s.heap.size i0 i0_l i0_u) (cwV 2 hts gX1_rewriteByWay_X1_spotByWay rfl rfl rfl (by decide +kernel) ⟨Nat.le_of_ble_eq_true rfl, Nat.le_of_ble_eq_true rfl⟩) ⟨fun a U g mk q => by obtain ⟨q0, q1, qP, qK, qD⟩ := q; exact ⟨q0, q1, qP, va_K.moved (u := U) (U := U.calling g mk a) (Vm.Alike.refl U.vm) qK, qD⟩, va_recv hKc hPc (ci := 5) (q0 := 0) rfl rfl, fun U hU hW => ⟨rfl, by rw [hU], by rw [hU]; exact hPc, va_K.moved hW.alike hKc, hDc.weaken (fun _ _ _ _ => trivial)⟩⟩ rfl rfl hl.1 rfl (lv_room (Nat.le_of_ble_eq_true rfl)) dX1_rewriteByWay_12 ⟨Nat.le_of_ble_eq_true rfl, Nat.le_of_ble_eq_true rfl⟩) hS (fun q _ h => hFc q h) hFc (fun r9 u t H1 locs ht hvm hw hB hz1 hk1 hS => ?_)
  obtain rfl := hw
  obtain ⟨hP1, hK1, hD1⟩ := hB
  rw [ht] at hP1
  have hK1 := va_K.moved hvm.symm hK1
  obtain ⟨hP, hD⟩ := va_join (wr := []) (w1 := [(h0, .inr (5, [.ref z0, .ref z1, .ref z2, .ref z3, .ref z4, .ref z5, .int 0, .int 0])), (h1, .inr (6, [.ref z6, .int 0]))]) hP hD [0, 1] [] rfl rfl (by decide) (by decide) hk1 hFc hP1 hD1
  generalize H1 = H at hP hS ⊢
  have hP : va_P (dC, dI) vwCl [(h0, .inr (5, [.ref z0, .ref z1, .ref z2, .ref z3, .ref z4, .ref z5, .int 0, .int 0])), (h1, .inr (6, [.ref z6, .int 0]))] H := hP
  have hD : va_D A [(h0, .inr (5, [.ref z0, .ref z1, .ref z2, .ref z3, .ref z4, .ref z5, .int 0, .int 0])), (h1, .inr (6, [.ref z6, .int 0]))] := hD
  refine lv_istore (lv' := [(5, .int (-1)), (4, .int 0), (0, .ref h0), (1, .ref h1), (2, .int i0), (3, .int i1)]) hx hb dX1_rewriteByWay_15 hl (by decide) rfl (fun ls hl => ?_)
  refine lv_iload hx hb dX1_rewriteByWay_17 (lv_at hl 0 rfl) ?_
  refine lv_iconst (v := (-1)) hx hb dX1_rewriteByWay_19 (by decide) ?_
  refine lv_icmp_eq (tgt := 33) hx hb dX1_rewriteByWay_20 (by decide) (fun _ => ?_) (fun c9 => absurd (by decide) c9)
  refine lv_iload hx hb dX1_rewriteByWay_33 (lv_at hl 1 rfl) ?_
  exact W.iret (v := 0) hx hb hr (fun t ht hW => ⟨⟨0, (), rfl, rfl, by rw [ht]; exact hP, va_K.moved hW.alike hK, hD⟩, hS.F ht⟩) hS.2.2 dX1_rewriteByWay_35
set_option maxHeartbeats 4000000 in
set_option maxRecDepth 100000 in
theorem kx_X3_run_7 (l : Launch) (dC : Nat → ClassId) (dI : Nat → Nat → Nat) (h0 : Nat) (h1 : Nat) (h2 : Nat) (h3 : Nat) (h4 : Nat) (h5 : Nat) (h6 : Nat) (z0 : Nat) (z1 : Nat) (z2 : Nat) (z3 : Nat) (z4 : Nat) (z5 : Nat) (z6 : Nat) (z7 : Nat) (z8 : Nat) (z9 : Nat) (z10 : Nat) (z11 : Nat) (z12 : Nat) (z13 : Nat) (k0 : ClassId) (sz : Nat) (i0 : Int32) (i0_l : (0 : Int) ≤ i0.toInt) (i0_u : i0.toInt ≤ (2 : Int)) (i1 : Int32) (i1_l : (1 : Int) ≤ i1.toInt) (i1_u : i1.toInt ≤ (40 : Int)) : Met l yX3_run wsX3_run ({ frames := 4, cells := 0, slots := 0, locals := 91 }) (va_Pc [.ref h0, .int 0, .int i0, .int i1] (fun U => U.heap.size = sz ∧ va_P (dC, dI) vwCl [(h0, .inr (7, [.ref h1, .ref h2, .ref z0, .ref z1, .ref z2, .ref z3, .int 0, .int 0, .int 0])), (h1, .inl (k0, 4, .inr (.inr (.inr (.inr (va_up (va_up (va_up (va_up (fun _ => none) 0 (some h3)) 1 (some h4)) 2 (some h5)) 3 (some h6))))))), (h2, .inr (5, [.ref z4, .ref z5, .ref z6, .ref z7, .ref z8, .ref z9, .int 0, .int 0])), (h3, .inr (6, [.ref z10, .int 0])), (h4, .inr (6, [.ref z11, .int 0])), (h5, .inr (6, [.ref z12, .int 0])), (h6, .inr (6, [.ref z13, .int 0]))] U.heap ∧ va_K (dC, dI) vwCl [(k0, .object "Rewriterope$Text")] U ∧ va_D (fun _ => True) [(h0, .inr (7, [.ref h1, .ref h2, .ref z0, .ref z1, .ref z2, .ref z3, .int 0, .int 0, .int 0])), (h1, .inl (k0, 4, .inr (.inr (.inr (.inr (va_up (va_up (va_up (va_up (fun _ => none) 0 (some h3)) 1 (some h4)) 2 (some h5)) 3 (some h6))))))), (h2, .inr (5, [.ref z4, .ref z5, .ref z6, .ref z7, .ref z8, .ref z9, .int 0, .int 0])), (h3, .inr (6, [.ref z10, .int 0])), (h4, .inr (6, [.ref z11, .int 0])), (h5, .inr (6, [.ref z12, .int 0])), (h6, .inr (6, [.ref z13, .int 0]))])) (va_Qi (fun (r : Int32) (_ : Unit) => r = 0) (fun (_ : Unit) (t : State) => va_P (dC, dI) vwCl [(h0, .inr (7, [.ref h1, .ref h2, .ref z0, .ref z1, .ref z2, .ref z3, .int 0, .int 0, .int 0])), (h1, .inl (k0, 4, .inr (.inr (.inr (.inr (va_up (va_up (va_up (va_up (fun _ => none) 0 (some h3)) 1 (some h4)) 2 (some h5)) 3 (some h6))))))), (h2, .inr (5, [.ref z4, .ref z5, .ref z6, .ref z7, .ref z8, .ref z9, .int 0, .int 0])), (h3, .inr (6, [.ref z10, .int 0])), (h4, .inr (6, [.ref z11, .int 0])), (h5, .inr (6, [.ref z12, .int 0])), (h6, .inr (6, [.ref z13, .int 0]))] t.heap ∧ va_K (dC, dI) vwCl [(k0, .object "Rewriterope$Text")] t ∧ va_D (va_A [(h0, .inr (7, [.ref h1, .ref h2, .ref z0, .ref z1, .ref z2, .ref z3, .int 0, .int 0, .int 0])), (h1, .inl (k0, 4, .inr (.inr (.inr (.inr (va_up (va_up (va_up (va_up (fun _ => none) 0 (some h3)) 1 (some h4)) 2 (some h5)) 3 (some h6))))))), (h2, .inr (5, [.ref z4, .ref z5, .ref z6, .ref z7, .ref z8, .ref z9, .int 0, .int 0])), (h3, .inr (6, [.ref z10, .int 0])), (h4, .inr (6, [.ref z11, .int 0])), (h5, .inr (6, [.ref z12, .int 0])), (h6, .inr (6, [.ref z13, .int 0]))] sz) [(h0, .inr (7, [.ref h1, .ref h2, .ref z0, .ref z1, .ref z2, .ref z3, .int 0, .int 0, .int 0])), (h1, .inl (k0, 4, .inr (.inr (.inr (.inr (va_up (va_up (va_up (va_up (fun _ => none) 0 (some h3)) 1 (some h4)) 2 (some h5)) 3 (some h6))))))), (h2, .inr (5, [.ref z4, .ref z5, .ref z6, .ref z7, .ref z8, .ref z9, .int 0, .int 0])), (h3, .inr (6, [.ref z10, .int 0])), (h4, .inr (6, [.ref z11, .int 0])), (h5, .inr (6, [.ref z12, .int 0])), (h6, .inr (6, [.ref z13, .int 0]))]) (va_A [(h0, .inr (7, [.ref h1, .ref h2, .ref z0, .ref z1, .ref z2, .ref z3, .int 0, .int 0, .int 0])), (h1, .inl (k0, 4, .inr (.inr (.inr (.inr (va_up (va_up (va_up (va_up (fun _ => none) 0 (some h3)) 1 (some h4)) 2 (some h5)) 3 (some h6))))))), (h2, .inr (5, [.ref z4, .ref z5, .ref z6, .ref z7, .ref z8, .ref z9, .int 0, .int 0])), (h3, .inr (6, [.ref z10, .int 0])), (h4, .inr (6, [.ref z11, .int 0])), (h5, .inr (6, [.ref z12, .int 0])), (h6, .inr (6, [.ref z13, .int 0]))] sz)) 0 0 (va_A [(h0, .inr (7, [.ref h1, .ref h2, .ref z0, .ref z1, .ref z2, .ref z3, .int 0, .int 0, .int 0])), (h1, .inl (k0, 4, .inr (.inr (.inr (.inr (va_up (va_up (va_up (va_up (fun _ => none) 0 (some h3)) 1 (some h4)) 2 (some h5)) 3 (some h6))))))), (h2, .inr (5, [.ref z4, .ref z5, .ref z6, .ref z7, .ref z8, .ref z9, .int 0, .int 0])), (h3, .inr (6, [.ref z10, .int 0])), (h4, .inr (6, [.ref z11, .int 0])), (h5, .inr (6, [.ref z12, .int 0])), (h6, .inr (6, [.ref z13, .int 0]))] sz) := by
  refine Met.ofW (cc := cX3_run) (maxL := 5) (ret := (some .int)) (by decide) rfl ?_
  intro p e s m args below meth c s₁ B hml hv
  obtain ⟨rfl, hsz, hP, hK, hD0⟩ := hv
  have hx := B.exec
  have hb := B.bytes
  have hr := B.returns
  have hts := atoms_spec (ws := wsX3_run) B.pre
  have hown : s.vm.findClass RX3 = some m.cls := findClass_of_methodNamed B.named
  have hlocks := B.notSynchronized
  subst hsz
  have hD := hD0.self (sz := s.heap.size)
  generalize hAe : va_A [(h0, .inr (7, [.ref h1, .ref h2, .ref z0, .ref z1, .ref z2, .ref z3, .int 0, .int 0, .int 0])), (h1, .inl (k0, 4, .inr (.inr (.inr (.inr (va_up (va_up (va_up (va_up (fun _ => none) 0 (some h3)) 1 (some h4)) 2 (some h5)) 3 (some h6))))))), (h2, .inr (5, [.ref z4, .ref z5, .ref z6, .ref z7, .ref z8, .ref z9, .int 0, .int 0])), (h3, .inr (6, [.ref z10, .int 0])), (h4, .inr (6, [.ref z11, .int 0])), (h5, .inr (6, [.ref z12, .int 0])), (h6, .inr (6, [.ref z13, .int 0]))] s.heap.size = A at hD ⊢
  have hA : ∀ q : Nat, s.heap.size ≤ q → A q := fun q h => by rw [← hAe]; exact Or.inr h
  have hS : va_S A s.heap s.heap [] := va_S.rf
  have hP : va_P (dC, dI) vwCl [(h0, .inr (7, [.ref h1, .ref h2, .ref z0, .ref z1, .ref z2, .ref z3, .int 0, .int 0, .int 0])), (h1, .inl (k0, 4, .inr (.inr (.inr (.inr (va_up (va_up (va_up (va_up (fun _ => none) 0 (some h3)) 1 (some h4)) 2 (some h5)) 3 (some h6))))))), (h2, .inr (5, [.ref z4, .ref z5, .ref z6, .ref z7, .ref z8, .ref z9, .int 0, .int 0])), (h3, .inr (6, [.ref z10, .int 0])), (h4, .inr (6, [.ref z11, .int 0])), (h5, .inr (6, [.ref z12, .int 0])), (h6, .inr (6, [.ref z13, .int 0]))] s.heap := hP
  have hl := lv_entry ([.ref h0, .int 0, .int i0, .int i1]) (n := 5) (Nat.le_of_ble_eq_true rfl)
  rw [lg_entry_eq]
  generalize (lg_sl ([.ref h0, .int 0, .int i0, .int i1]) ++ List.replicate (5 - (lg_sl ([.ref h0, .int 0, .int i0, .int i1])).length) Slot.unset).toArray = ls at hl ⊢
  have hl : lv_has ls 5 [(0, .ref h0), (1, .int 0), (2, .int i0), (3, .int i1)] := hl
  refine lv_iload_n hx hb dX3_run_0 rfl (lv_at hl 1 rfl) ?_
  have hPc := hP.sub (ws' := []) [] rfl
  have hDc := hD.sub (ws' := []) [] (by decide) rfl
  have hKc := hK.sub (tys' := []) [] rfl
  have hFc := va_free (wc := []) hD hS hA [] rfl
  refine va_callv (va_runS (As := [.int 0]) (rest := []) ⟨hx, hb, hml, hown, hts⟩ (kx_X3_needRope_0 l dC dI s.heap.size) (cwS 1 hts gX3_run_X3_needRope rfl rfl rfl (by decide +kernel) ⟨Nat.le_of_ble_eq_true rfl, Nat.le_of_ble_eq_true rfl⟩) ⟨fun a U g mk q => by obtain ⟨q0, q1, qP, qK, qD⟩ := q; exact ⟨q0, q1, qP, va_K.moved (u := U) (U := U.calling g mk a) (Vm.Alike.refl U.vm) qK, qD⟩, fun U hU hW => ⟨rfl, by rw [hU], by rw [hU]; exact hPc, va_K.moved hW.alike hKc, hDc.weaken (fun _ _ _ _ => trivial)⟩⟩ rfl rfl hl.1 rfl (lv_room (Nat.le_of_ble_eq_true rfl)) dX3_run_1 ⟨Nat.le_of_ble_eq_true rfl, Nat.le_of_ble_eq_true rfl⟩) hS (fun q _ h => hFc q h) hFc (fun u t H1 locs ht hvm hw hB hz1 hk1 hS => ?_)
  obtain ⟨hP1, hK1, hD1⟩ := hB
  rw [ht] at hP1
  have hK1 := va_K.moved hvm.symm hK1
  obtain ⟨hP, hD⟩ := va_join (wr := [(h0, .inr (7, [.ref h1, .ref h2, .ref z0, .ref z1, .ref z2, .ref z3, .int 0, .int 0, .int 0])), (h1, .inl (k0, 4, .inr (.inr (.inr (.inr (va_up (va_up (va_up (va_up (fun _ => none) 0 (some h3)) 1 (some h4)) 2 (some h5)) 3 (some h6))))))), (h2, .inr (5, [.ref z4, .ref z5, .ref z6, .ref z7, .ref z8, .ref z9, .int 0, .int 0])), (h3, .inr (6, [.ref z10, .int 0])), (h4, .inr (6, [.ref z11, .int 0])), (h5, .inr (6, [.ref z12, .int 0])), (h6, .inr (6, [.ref z13, .int 0]))]) (w1 := []) hP hD [] [0, 1, 2, 3, 4, 5, 6] rfl rfl (by decide) (by decide) hk1 hFc hP1 hD1
  generalize H1 = H at hP hS ⊢
  have hP : va_P (dC, dI) vwCl [(h0, .inr (7, [.ref h1, .ref h2, .ref z0, .ref z1, .ref z2, .ref z3, .int 0, .int 0, .int 0])), (h1, .inl (k0, 4, .inr (.inr (.inr (.inr (va_up (va_up (va_up (va_up (fun _ => none) 0 (some h3)) 1 (some h4)) 2 (some h5)) 3 (some h6))))))), (h2, .inr (5, [.ref z4, .ref z5, .ref z6, .ref z7, .ref z8, .ref z9, .int 0, .int 0])), (h3, .inr (6, [.ref z10, .int 0])), (h4, .inr (6, [.ref z11, .int 0])), (h5, .inr (6, [.ref z12, .int 0])), (h6, .inr (6, [.ref z13, .int 0]))] H := hP
  have hD : va_D A [(h0, .inr (7, [.ref h1, .ref h2, .ref z0, .ref z1, .ref z2, .ref z3, .int 0, .int 0, .int 0])), (h1, .inl (k0, 4, .inr (.inr (.inr (.inr (va_up (va_up (va_up (va_up (fun _ => none) 0 (some h3)) 1 (some h4)) 2 (some h5)) 3 (some h6))))))), (h2, .inr (5, [.ref z4, .ref z5, .ref z6, .ref z7, .ref z8, .ref z9, .int 0, .int 0])), (h3, .inr (6, [.ref z10, .int 0])), (h4, .inr (6, [.ref z11, .int 0])), (h5, .inr (6, [.ref z12, .int 0])), (h6, .inr (6, [.ref z13, .int 0]))] := hD
  refine lv_iload_n hx hb dX3_run_4 rfl (lv_at hl 2 rfl) ?_
  have hPc := hP.sub (ws' := []) [] rfl
  have hDc := hD.sub (ws' := []) [] (by decide) rfl
  have hKc := hK.sub (tys' := []) [] rfl
  have hFc := va_free (wc := []) hD hS hA [] rfl
  refine va_callv (va_runS (As := [.int i0]) (rest := []) ⟨hx, hb, hml, hown, hts⟩ (kx_X3_needWay_0 l dC dI H.size i0 i0_l i0_u) (cwS 1 hts gX3_run_X3_needWay rfl rfl rfl (by decide +kernel) ⟨Nat.le_of_ble_eq_true rfl, Nat.le_of_ble_eq_true rfl⟩) ⟨fun a U g mk q => by obtain ⟨q0, q1, qP, qK, qD⟩ := q; exact ⟨q0, q1, qP, va_K.moved (u := U) (U := U.calling g mk a) (Vm.Alike.refl U.vm) qK, qD⟩, fun U hU hW => ⟨rfl, by rw [hU], by rw [hU]; exact hPc, va_K.moved hW.alike hKc, hDc.weaken (fun _ _ _ _ => trivial)⟩⟩ rfl rfl hl.1 rfl (lv_room (Nat.le_of_ble_eq_true rfl)) dX3_run_5 ⟨Nat.le_of_ble_eq_true rfl, Nat.le_of_ble_eq_true rfl⟩) hS (fun q _ h => hFc q h) hFc (fun u t H1 locs ht hvm hw hB hz1 hk1 hS => ?_)
  obtain ⟨hP1, hK1, hD1⟩ := hB
  rw [ht] at hP1
  have hK1 := va_K.moved hvm.symm hK1
  obtain ⟨hP, hD⟩ := va_join (wr := [(h0, .inr (7, [.ref h1, .ref h2, .ref z0, .ref z1, .ref z2, .ref z3, .int 0, .int 0, .int 0])), (h1, .inl (k0, 4, .inr (.inr (.inr (.inr (va_up (va_up (va_up (va_up (fun _ => none) 0 (some h3)) 1 (some h4)) 2 (some h5)) 3 (some h6))))))), (h2, .inr (5, [.ref z4, .ref z5, .ref z6, .ref z7, .ref z8, .ref z9, .int 0, .int 0])), (h3, .inr (6, [.ref z10, .int 0])), (h4, .inr (6, [.ref z11, .int 0])), (h5, .inr (6, [.ref z12, .int 0])), (h6, .inr (6, [.ref z13, .int 0]))]) (w1 := []) hP hD [] [0, 1, 2, 3, 4, 5, 6] rfl rfl (by decide) (by decide) hk1 hFc hP1 hD1
  generalize H1 = H at hP hS ⊢
  have hP : va_P (dC, dI) vwCl [(h0, .inr (7, [.ref h1, .ref h2, .ref z0, .ref z1, .ref z2, .ref z3, .int 0, .int 0, .int 0])), (h1, .inl (k0, 4, .inr (.inr (.inr (.inr (va_up (va_up (va_up (va_up (fun _ => none) 0 (some h3)) 1 (some h4)) 2 (some h5)) 3 (some h6))))))), (h2, .inr (5, [.ref z4, .ref z5, .ref z6, .ref z7, .ref z8, .ref z9, .int 0, .int 0])), (h3, .inr (6, [.ref z10, .int 0])), (h4, .inr (6, [.ref z11, .int 0])), (h5, .inr (6, [.ref z12, .int 0])), (h6, .inr (6, [.ref z13, .int 0]))] H := hP
  have hD : va_D A [(h0, .inr (7, [.ref h1, .ref h2, .ref z0, .ref z1, .ref z2, .ref z3, .int 0, .int 0, .int 0])), (h1, .inl (k0, 4, .inr (.inr (.inr (.inr (va_up (va_up (va_up (va_up (fun _ => none) 0 (some h3)) 1 (some h4)) 2 (some h5)) 3 (some h6))))))), (h2, .inr (5, [.ref z4, .ref z5, .ref z6, .ref z7, .ref z8, .ref z9, .int 0, .int 0])), (h3, .inr (6, [.ref z10, .int 0])), (h4, .inr (6, [.ref z11, .int 0])), (h5, .inr (6, [.ref z12, .int 0])), (h6, .inr (6, [.ref z13, .int 0]))] := hD
  refine lv_iload_n hx hb dX3_run_8 rfl (lv_at hl 3 rfl) ?_
  refine lv_iconst (v := 1) hx hb dX3_run_9 (by decide) ?_
  refine lv_icmp_lt (tgt := 19) hx hb dX3_run_10 (by decide) (fun c9 => absurd c9 (fun c8 => absurd (Int32.lt_iff_toInt_lt.mp c8) (by rw [show (1 : Int32).toInt = 1 from by decide]; omega))) (fun _ => ?_)
  refine lv_iload_n hx hb dX3_run_13 rfl (lv_at hl 3 rfl) ?_
  refine lv_bipush (v := 40) hx hb dX3_run_14 (by decide) ?_
  refine lv_icmp_le (tgt := 29) hx hb dX3_run_16 (by decide) (fun _ => ?_) (fun c9 => absurd (Int32.le_iff_toInt_le.mpr (by rw [show (40 : Int32).toInt = 40 from by decide]; omega)) c9)
  refine lv_aload_n hx hb dX3_run_29 rfl (lv_at hl 0 rfl) ?_
  refine va_get (D := (dC, dI)) (ci := 7) (v := .ref h2) (C := RX3) (T := TX3) (N := 9) hx hb hts (by decide +kernel) hown hK hP 0 rfl rfl 1 (by decide) (hts (.fieldLink RX3 18 "Rewriterope" "book" "LRewriterope$RuleBook;") (by decide +kernel)) (fun _ h9 => h9) rfl dX3_run_30 ?_
  refine lv_aload_n hx hb dX3_run_33 rfl (lv_at hl 0 rfl) ?_
  refine va_get (D := (dC, dI)) (ci := 7) (v := .ref h1) (C := RX3) (T := TX3) (N := 9) hx hb hts (by decide +kernel) hown hK hP 0 rfl rfl 0 (by decide) (hts (.fieldLink RX3 11 "Rewriterope" "ropes" "[LRewriterope$Text;") (by decide +kernel)) (fun _ h9 => h9) rfl dX3_run_34 ?_
  refine lv_iload_n hx hb dX3_run_37 rfl (lv_at hl 1 rfl) ?_
  refine va_aldq (D := (dC, dI)) hx hb hK hP 1 0 rfl rfl (by unfold vp_in; decide) dX3_run_38 ?_
  refine W.eq (g2 := F0 m 39 ls [.ref h3, .ref h2]) rfl ?_
  refine lv_iload_n hx hb dX3_run_39 rfl (lv_at hl 2 rfl) ?_
  refine lv_iload_n hx hb dX3_run_40 rfl (lv_at hl 3 rfl) ?_
  have hPc := hP.sub (ws' := [(h2, .inr (5, [.ref z4, .ref z5, .ref z6, .ref z7, .ref z8, .ref z9, .int 0, .int 0])), (h3, .inr (6, [.ref z10, .int 0]))]) [2, 3] rfl
  have hDc := hD.sub (ws' := [(h2, .inr (5, [.ref z4, .ref z5, .ref z6, .ref z7, .ref z8, .ref z9, .int 0, .int 0])), (h3, .inr (6, [.ref z10, .int 0]))]) [2, 3] (by decide) rfl
  have hKc := hK.sub (tys' := []) [] rfl
  have hFc := va_free (wc := [(h2, .inr (5, [.ref z4, .ref z5, .ref z6, .ref z7, .ref z8, .ref z9, .int 0, .int 0])), (h3, .inr (6, [.ref z10, .int 0]))]) hD hS hA [2, 3] rfl
  refine va_calli (va_runV (As := [.ref h3, .int i0, .int i1]) (rest := []) ⟨hx, hb, hml, hown, hts⟩ (kx_X1_rewriteByWay_0 l dC dI h2 h3 z4 z5 z6 z7 z8 z9 z10 H.size i0 i0_l i0_u i1 i1_l i1_u) (cwV 3 hts gX3_run_X1_rewriteByWay rfl rfl rfl (by decide +kernel) ⟨Nat.le_of_ble_eq_true rfl, Nat.le_of_ble_eq_true rfl⟩) ⟨fun a U g mk q => by obtain ⟨q0, q1, qP, qK, qD⟩ := q; exact ⟨q0, q1, qP, va_K.moved (u := U) (U := U.calling g mk a) (Vm.Alike.refl U.vm) qK, qD⟩, va_recv hKc hPc (ci := 5) (q0 := 0) rfl rfl, fun U hU hW => ⟨rfl, by rw [hU], by rw [hU]; exact hPc, va_K.moved hW.alike hKc, hDc.weaken (fun _ _ _ _ => trivial)⟩⟩ rfl rfl hl.1 rfl (lv_room (Nat.le_of_ble_eq_true rfl)) dX3_run_41 ⟨Nat.le_of_ble_eq_true rfl, Nat.le_of_ble_eq_true rfl⟩) hS (fun q _ h => hFc q h) hFc (fun r9 u t H1 locs ht hvm hw hB hz1 hk1 hS => ?_)
  obtain rfl := hw
  obtain ⟨hP1, hK1, hD1⟩ := hB
  rw [ht] at hP1
  have hK1 := va_K.moved hvm.symm hK1
  obtain ⟨hP, hD⟩ := va_join (wr := [(h0, .inr (7, [.ref h1, .ref h2, .ref z0, .ref z1, .ref z2, .ref z3, .int 0, .int 0, .int 0])), (h1, .inl (k0, 4, .inr (.inr (.inr (.inr (va_up (va_up (va_up (va_up (fun _ => none) 0 (some h3)) 1 (some h4)) 2 (some h5)) 3 (some h6))))))), (h4, .inr (6, [.ref z11, .int 0])), (h5, .inr (6, [.ref z12, .int 0])), (h6, .inr (6, [.ref z13, .int 0]))]) (w1 := [(h2, .inr (5, [.ref z4, .ref z5, .ref z6, .ref z7, .ref z8, .ref z9, .int 0, .int 0])), (h3, .inr (6, [.ref z10, .int 0]))]) hP hD [2, 3] [0, 1, 4, 5, 6] rfl rfl (by decide) (by decide) hk1 hFc hP1 hD1
  generalize H1 = H at hP hS ⊢
  have hP : va_P (dC, dI) vwCl [(h0, .inr (7, [.ref h1, .ref h2, .ref z0, .ref z1, .ref z2, .ref z3, .int 0, .int 0, .int 0])), (h1, .inl (k0, 4, .inr (.inr (.inr (.inr (va_up (va_up (va_up (va_up (fun _ => none) 0 (some h3)) 1 (some h4)) 2 (some h5)) 3 (some h6))))))), (h4, .inr (6, [.ref z11, .int 0])), (h5, .inr (6, [.ref z12, .int 0])), (h6, .inr (6, [.ref z13, .int 0])), (h2, .inr (5, [.ref z4, .ref z5, .ref z6, .ref z7, .ref z8, .ref z9, .int 0, .int 0])), (h3, .inr (6, [.ref z10, .int 0]))] H := hP
  have hD : va_D A [(h0, .inr (7, [.ref h1, .ref h2, .ref z0, .ref z1, .ref z2, .ref z3, .int 0, .int 0, .int 0])), (h1, .inl (k0, 4, .inr (.inr (.inr (.inr (va_up (va_up (va_up (va_up (fun _ => none) 0 (some h3)) 1 (some h4)) 2 (some h5)) 3 (some h6))))))), (h4, .inr (6, [.ref z11, .int 0])), (h5, .inr (6, [.ref z12, .int 0])), (h6, .inr (6, [.ref z13, .int 0])), (h2, .inr (5, [.ref z4, .ref z5, .ref z6, .ref z7, .ref z8, .ref z9, .int 0, .int 0])), (h3, .inr (6, [.ref z10, .int 0]))] := hD
  refine lv_istore (lv' := [(4, .int 0), (0, .ref h0), (1, .int 0), (2, .int i0), (3, .int i1)]) hx hb dX3_run_44 hl (by decide) rfl (fun ls hl => ?_)
  refine lv_aload_n hx hb dX3_run_46 rfl (lv_at hl 1 rfl) ?_
  refine lv_dup hx hb dX3_run_47 rfl ?_
  refine va_get (D := (dC, dI)) (ci := 7) (v := .int 0) (C := RX3) (T := TX3) (N := 9) hx hb hts (by decide +kernel) hown hK hP 0 rfl rfl 8 (by decide) (hts (.fieldLink RX3 49 "Rewriterope" "stepsMade" "I") (by decide +kernel)) (fun _ h9 => h9) rfl dX3_run_48 ?_
  refine lv_iload hx hb dX3_run_51 (lv_at hl 0 rfl) ?_
  refine lv_iadd hx hb dX3_run_53 ?_
  refine lv_topi (fun y1 ey1 => ?_)
  obtain rfl : y1 = 0 := ey1.trans (by decide)
  refine va_put (D := (dC, dI)) (ci := 7) (v := .int 0) (ty := .int) (C := RX3) (T := TX3) (N := 9) hx hb hts (by decide +kernel) tyX3 tyX3_ok nmX3 hown hK hP hD hS 0 rfl rfl 8 (by decide) (hts (.fieldLink RX3 49 "Rewriterope" "stepsMade" "I") (by decide +kernel)) (fun _ h9 => h9) rfl (by decide +kernel) rfl rfl (Nat.le_of_ble_eq_true rfl) dX3_run_54 (fun H locs hP hD hS => ?_)
  have hP : va_P (dC, dI) vwCl [(h0, .inr (7, [.ref h1, .ref h2, .ref z0, .ref z1, .ref z2, .ref z3, .int 0, .int 0, .int 0])), (h1, .inl (k0, 4, .inr (.inr (.inr (.inr (va_up (va_up (va_up (va_up (fun _ => none) 0 (some h3)) 1 (some h4)) 2 (some h5)) 3 (some h6))))))), (h4, .inr (6, [.ref z11, .int 0])), (h5, .inr (6, [.ref z12, .int 0])), (h6, .inr (6, [.ref z13, .int 0])), (h2, .inr (5, [.ref z4, .ref z5, .ref z6, .ref z7, .ref z8, .ref z9, .int 0, .int 0])), (h3, .inr (6, [.ref z10, .int 0]))] H := hP
  have hD : va_D A [(h0, .inr (7, [.ref h1, .ref h2, .ref z0, .ref z1, .ref z2, .ref z3, .int 0, .int 0, .int 0])), (h1, .inl (k0, 4, .inr (.inr (.inr (.inr (va_up (va_up (va_up (va_up (fun _ => none) 0 (some h3)) 1 (some h4)) 2 (some h5)) 3 (some h6))))))), (h4, .inr (6, [.ref z11, .int 0])), (h5, .inr (6, [.ref z12, .int 0])), (h6, .inr (6, [.ref z13, .int 0])), (h2, .inr (5, [.ref z4, .ref z5, .ref z6, .ref z7, .ref z8, .ref z9, .int 0, .int 0])), (h3, .inr (6, [.ref z10, .int 0]))] := hD
  refine lv_iload hx hb dX3_run_57 (lv_at hl 0 rfl) ?_
  have hP := hP.sub (ws' := [(h0, .inr (7, [.ref h1, .ref h2, .ref z0, .ref z1, .ref z2, .ref z3, .int 0, .int 0, .int 0])), (h1, .inl (k0, 4, .inr (.inr (.inr (.inr (va_up (va_up (va_up (va_up (fun _ => none) 0 (some h3)) 1 (some h4)) 2 (some h5)) 3 (some h6))))))), (h2, .inr (5, [.ref z4, .ref z5, .ref z6, .ref z7, .ref z8, .ref z9, .int 0, .int 0])), (h3, .inr (6, [.ref z10, .int 0])), (h4, .inr (6, [.ref z11, .int 0])), (h5, .inr (6, [.ref z12, .int 0])), (h6, .inr (6, [.ref z13, .int 0]))]) [0, 1, 5, 6, 2, 3, 4] rfl
  have hD := hD.sub (ws' := [(h0, .inr (7, [.ref h1, .ref h2, .ref z0, .ref z1, .ref z2, .ref z3, .int 0, .int 0, .int 0])), (h1, .inl (k0, 4, .inr (.inr (.inr (.inr (va_up (va_up (va_up (va_up (fun _ => none) 0 (some h3)) 1 (some h4)) 2 (some h5)) 3 (some h6))))))), (h2, .inr (5, [.ref z4, .ref z5, .ref z6, .ref z7, .ref z8, .ref z9, .int 0, .int 0])), (h3, .inr (6, [.ref z10, .int 0])), (h4, .inr (6, [.ref z11, .int 0])), (h5, .inr (6, [.ref z12, .int 0])), (h6, .inr (6, [.ref z13, .int 0]))]) [0, 1, 5, 6, 2, 3, 4] (by decide) rfl
  exact W.iret (v := 0) hx hb hr (fun t ht hW => ⟨⟨0, (), rfl, rfl, by rw [ht]; exact hP, va_K.moved hW.alike hK, hD⟩, hS.F ht⟩) hS.2.2 dX3_run_59
set_option maxHeartbeats 4000000 in
set_option maxRecDepth 100000 in
theorem kx_X3_run_8 (l : Launch) (dC : Nat → ClassId) (dI : Nat → Nat → Nat) (h0 : Nat) (h1 : Nat) (h2 : Nat) (h3 : Nat) (h4 : Nat) (h5 : Nat) (h6 : Nat) (z0 : Nat) (z1 : Nat) (z2 : Nat) (z3 : Nat) (z4 : Nat) (z5 : Nat) (z6 : Nat) (z7 : Nat) (z8 : Nat) (z9 : Nat) (z10 : Nat) (z11 : Nat) (z12 : Nat) (z13 : Nat) (k0 : ClassId) (sz : Nat) (i0 : Int32) (i0_l : (0 : Int) ≤ i0.toInt) (i0_u : i0.toInt ≤ (2 : Int)) (i1 : Int32) (i1_l : (1 : Int) ≤ i1.toInt) (i1_u : i1.toInt ≤ (40 : Int)) : Met l yX3_run wsX3_run ({ frames := 4, cells := 0, slots := 0, locals := 91 }) (va_Pc [.ref h0, .int 1, .int i0, .int i1] (fun U => U.heap.size = sz ∧ va_P (dC, dI) vwCl [(h0, .inr (7, [.ref h1, .ref h2, .ref z0, .ref z1, .ref z2, .ref z3, .int 0, .int 0, .int 0])), (h1, .inl (k0, 4, .inr (.inr (.inr (.inr (va_up (va_up (va_up (va_up (fun _ => none) 0 (some h3)) 1 (some h4)) 2 (some h5)) 3 (some h6))))))), (h2, .inr (5, [.ref z4, .ref z5, .ref z6, .ref z7, .ref z8, .ref z9, .int 0, .int 0])), (h3, .inr (6, [.ref z10, .int 0])), (h4, .inr (6, [.ref z11, .int 0])), (h5, .inr (6, [.ref z12, .int 0])), (h6, .inr (6, [.ref z13, .int 0]))] U.heap ∧ va_K (dC, dI) vwCl [(k0, .object "Rewriterope$Text")] U ∧ va_D (fun _ => True) [(h0, .inr (7, [.ref h1, .ref h2, .ref z0, .ref z1, .ref z2, .ref z3, .int 0, .int 0, .int 0])), (h1, .inl (k0, 4, .inr (.inr (.inr (.inr (va_up (va_up (va_up (va_up (fun _ => none) 0 (some h3)) 1 (some h4)) 2 (some h5)) 3 (some h6))))))), (h2, .inr (5, [.ref z4, .ref z5, .ref z6, .ref z7, .ref z8, .ref z9, .int 0, .int 0])), (h3, .inr (6, [.ref z10, .int 0])), (h4, .inr (6, [.ref z11, .int 0])), (h5, .inr (6, [.ref z12, .int 0])), (h6, .inr (6, [.ref z13, .int 0]))])) (va_Qi (fun (r : Int32) (_ : Unit) => r = 0) (fun (_ : Unit) (t : State) => va_P (dC, dI) vwCl [(h0, .inr (7, [.ref h1, .ref h2, .ref z0, .ref z1, .ref z2, .ref z3, .int 0, .int 0, .int 0])), (h1, .inl (k0, 4, .inr (.inr (.inr (.inr (va_up (va_up (va_up (va_up (fun _ => none) 0 (some h3)) 1 (some h4)) 2 (some h5)) 3 (some h6))))))), (h2, .inr (5, [.ref z4, .ref z5, .ref z6, .ref z7, .ref z8, .ref z9, .int 0, .int 0])), (h3, .inr (6, [.ref z10, .int 0])), (h4, .inr (6, [.ref z11, .int 0])), (h5, .inr (6, [.ref z12, .int 0])), (h6, .inr (6, [.ref z13, .int 0]))] t.heap ∧ va_K (dC, dI) vwCl [(k0, .object "Rewriterope$Text")] t ∧ va_D (va_A [(h0, .inr (7, [.ref h1, .ref h2, .ref z0, .ref z1, .ref z2, .ref z3, .int 0, .int 0, .int 0])), (h1, .inl (k0, 4, .inr (.inr (.inr (.inr (va_up (va_up (va_up (va_up (fun _ => none) 0 (some h3)) 1 (some h4)) 2 (some h5)) 3 (some h6))))))), (h2, .inr (5, [.ref z4, .ref z5, .ref z6, .ref z7, .ref z8, .ref z9, .int 0, .int 0])), (h3, .inr (6, [.ref z10, .int 0])), (h4, .inr (6, [.ref z11, .int 0])), (h5, .inr (6, [.ref z12, .int 0])), (h6, .inr (6, [.ref z13, .int 0]))] sz) [(h0, .inr (7, [.ref h1, .ref h2, .ref z0, .ref z1, .ref z2, .ref z3, .int 0, .int 0, .int 0])), (h1, .inl (k0, 4, .inr (.inr (.inr (.inr (va_up (va_up (va_up (va_up (fun _ => none) 0 (some h3)) 1 (some h4)) 2 (some h5)) 3 (some h6))))))), (h2, .inr (5, [.ref z4, .ref z5, .ref z6, .ref z7, .ref z8, .ref z9, .int 0, .int 0])), (h3, .inr (6, [.ref z10, .int 0])), (h4, .inr (6, [.ref z11, .int 0])), (h5, .inr (6, [.ref z12, .int 0])), (h6, .inr (6, [.ref z13, .int 0]))]) (va_A [(h0, .inr (7, [.ref h1, .ref h2, .ref z0, .ref z1, .ref z2, .ref z3, .int 0, .int 0, .int 0])), (h1, .inl (k0, 4, .inr (.inr (.inr (.inr (va_up (va_up (va_up (va_up (fun _ => none) 0 (some h3)) 1 (some h4)) 2 (some h5)) 3 (some h6))))))), (h2, .inr (5, [.ref z4, .ref z5, .ref z6, .ref z7, .ref z8, .ref z9, .int 0, .int 0])), (h3, .inr (6, [.ref z10, .int 0])), (h4, .inr (6, [.ref z11, .int 0])), (h5, .inr (6, [.ref z12, .int 0])), (h6, .inr (6, [.ref z13, .int 0]))] sz)) 0 0 (va_A [(h0, .inr (7, [.ref h1, .ref h2, .ref z0, .ref z1, .ref z2, .ref z3, .int 0, .int 0, .int 0])), (h1, .inl (k0, 4, .inr (.inr (.inr (.inr (va_up (va_up (va_up (va_up (fun _ => none) 0 (some h3)) 1 (some h4)) 2 (some h5)) 3 (some h6))))))), (h2, .inr (5, [.ref z4, .ref z5, .ref z6, .ref z7, .ref z8, .ref z9, .int 0, .int 0])), (h3, .inr (6, [.ref z10, .int 0])), (h4, .inr (6, [.ref z11, .int 0])), (h5, .inr (6, [.ref z12, .int 0])), (h6, .inr (6, [.ref z13, .int 0]))] sz) := by
  refine Met.ofW (cc := cX3_run) (maxL := 5) (ret := (some .int)) (by decide) rfl ?_
  intro p e s m args below meth c s₁ B hml hv
  obtain ⟨rfl, hsz, hP, hK, hD0⟩ := hv
  have hx := B.exec
  have hb := B.bytes
  have hr := B.returns
  have hts := atoms_spec (ws := wsX3_run) B.pre
  have hown : s.vm.findClass RX3 = some m.cls := findClass_of_methodNamed B.named
  have hlocks := B.notSynchronized
  subst hsz
  have hD := hD0.self (sz := s.heap.size)
  generalize hAe : va_A [(h0, .inr (7, [.ref h1, .ref h2, .ref z0, .ref z1, .ref z2, .ref z3, .int 0, .int 0, .int 0])), (h1, .inl (k0, 4, .inr (.inr (.inr (.inr (va_up (va_up (va_up (va_up (fun _ => none) 0 (some h3)) 1 (some h4)) 2 (some h5)) 3 (some h6))))))), (h2, .inr (5, [.ref z4, .ref z5, .ref z6, .ref z7, .ref z8, .ref z9, .int 0, .int 0])), (h3, .inr (6, [.ref z10, .int 0])), (h4, .inr (6, [.ref z11, .int 0])), (h5, .inr (6, [.ref z12, .int 0])), (h6, .inr (6, [.ref z13, .int 0]))] s.heap.size = A at hD ⊢
  have hA : ∀ q : Nat, s.heap.size ≤ q → A q := fun q h => by rw [← hAe]; exact Or.inr h
  have hS : va_S A s.heap s.heap [] := va_S.rf
  have hP : va_P (dC, dI) vwCl [(h0, .inr (7, [.ref h1, .ref h2, .ref z0, .ref z1, .ref z2, .ref z3, .int 0, .int 0, .int 0])), (h1, .inl (k0, 4, .inr (.inr (.inr (.inr (va_up (va_up (va_up (va_up (fun _ => none) 0 (some h3)) 1 (some h4)) 2 (some h5)) 3 (some h6))))))), (h2, .inr (5, [.ref z4, .ref z5, .ref z6, .ref z7, .ref z8, .ref z9, .int 0, .int 0])), (h3, .inr (6, [.ref z10, .int 0])), (h4, .inr (6, [.ref z11, .int 0])), (h5, .inr (6, [.ref z12, .int 0])), (h6, .inr (6, [.ref z13, .int 0]))] s.heap := hP
  have hl := lv_entry ([.ref h0, .int 1, .int i0, .int i1]) (n := 5) (Nat.le_of_ble_eq_true rfl)
  rw [lg_entry_eq]
  generalize (lg_sl ([.ref h0, .int 1, .int i0, .int i1]) ++ List.replicate (5 - (lg_sl ([.ref h0, .int 1, .int i0, .int i1])).length) Slot.unset).toArray = ls at hl ⊢
  have hl : lv_has ls 5 [(0, .ref h0), (1, .int 1), (2, .int i0), (3, .int i1)] := hl
  refine lv_iload_n hx hb dX3_run_0 rfl (lv_at hl 1 rfl) ?_
  have hPc := hP.sub (ws' := []) [] rfl
  have hDc := hD.sub (ws' := []) [] (by decide) rfl
  have hKc := hK.sub (tys' := []) [] rfl
  have hFc := va_free (wc := []) hD hS hA [] rfl
  refine va_callv (va_runS (As := [.int 1]) (rest := []) ⟨hx, hb, hml, hown, hts⟩ (kx_X3_needRope_1 l dC dI s.heap.size) (cwS 1 hts gX3_run_X3_needRope rfl rfl rfl (by decide +kernel) ⟨Nat.le_of_ble_eq_true rfl, Nat.le_of_ble_eq_true rfl⟩) ⟨fun a U g mk q => by obtain ⟨q0, q1, qP, qK, qD⟩ := q; exact ⟨q0, q1, qP, va_K.moved (u := U) (U := U.calling g mk a) (Vm.Alike.refl U.vm) qK, qD⟩, fun U hU hW => ⟨rfl, by rw [hU], by rw [hU]; exact hPc, va_K.moved hW.alike hKc, hDc.weaken (fun _ _ _ _ => trivial)⟩⟩ rfl rfl hl.1 rfl (lv_room (Nat.le_of_ble_eq_true rfl)) dX3_run_1 ⟨Nat.le_of_ble_eq_true rfl, Nat.le_of_ble_eq_true rfl⟩) hS (fun q _ h => hFc q h) hFc (fun u t H1 locs ht hvm hw hB hz1 hk1 hS => ?_)
  obtain ⟨hP1, hK1, hD1⟩ := hB
  rw [ht] at hP1
  have hK1 := va_K.moved hvm.symm hK1
  obtain ⟨hP, hD⟩ := va_join (wr := [(h0, .inr (7, [.ref h1, .ref h2, .ref z0, .ref z1, .ref z2, .ref z3, .int 0, .int 0, .int 0])), (h1, .inl (k0, 4, .inr (.inr (.inr (.inr (va_up (va_up (va_up (va_up (fun _ => none) 0 (some h3)) 1 (some h4)) 2 (some h5)) 3 (some h6))))))), (h2, .inr (5, [.ref z4, .ref z5, .ref z6, .ref z7, .ref z8, .ref z9, .int 0, .int 0])), (h3, .inr (6, [.ref z10, .int 0])), (h4, .inr (6, [.ref z11, .int 0])), (h5, .inr (6, [.ref z12, .int 0])), (h6, .inr (6, [.ref z13, .int 0]))]) (w1 := []) hP hD [] [0, 1, 2, 3, 4, 5, 6] rfl rfl (by decide) (by decide) hk1 hFc hP1 hD1
  generalize H1 = H at hP hS ⊢
  have hP : va_P (dC, dI) vwCl [(h0, .inr (7, [.ref h1, .ref h2, .ref z0, .ref z1, .ref z2, .ref z3, .int 0, .int 0, .int 0])), (h1, .inl (k0, 4, .inr (.inr (.inr (.inr (va_up (va_up (va_up (va_up (fun _ => none) 0 (some h3)) 1 (some h4)) 2 (some h5)) 3 (some h6))))))), (h2, .inr (5, [.ref z4, .ref z5, .ref z6, .ref z7, .ref z8, .ref z9, .int 0, .int 0])), (h3, .inr (6, [.ref z10, .int 0])), (h4, .inr (6, [.ref z11, .int 0])), (h5, .inr (6, [.ref z12, .int 0])), (h6, .inr (6, [.ref z13, .int 0]))] H := hP
  have hD : va_D A [(h0, .inr (7, [.ref h1, .ref h2, .ref z0, .ref z1, .ref z2, .ref z3, .int 0, .int 0, .int 0])), (h1, .inl (k0, 4, .inr (.inr (.inr (.inr (va_up (va_up (va_up (va_up (fun _ => none) 0 (some h3)) 1 (some h4)) 2 (some h5)) 3 (some h6))))))), (h2, .inr (5, [.ref z4, .ref z5, .ref z6, .ref z7, .ref z8, .ref z9, .int 0, .int 0])), (h3, .inr (6, [.ref z10, .int 0])), (h4, .inr (6, [.ref z11, .int 0])), (h5, .inr (6, [.ref z12, .int 0])), (h6, .inr (6, [.ref z13, .int 0]))] := hD
  refine lv_iload_n hx hb dX3_run_4 rfl (lv_at hl 2 rfl) ?_
  have hPc := hP.sub (ws' := []) [] rfl
  have hDc := hD.sub (ws' := []) [] (by decide) rfl
  have hKc := hK.sub (tys' := []) [] rfl
  have hFc := va_free (wc := []) hD hS hA [] rfl
  refine va_callv (va_runS (As := [.int i0]) (rest := []) ⟨hx, hb, hml, hown, hts⟩ (kx_X3_needWay_0 l dC dI H.size i0 i0_l i0_u) (cwS 1 hts gX3_run_X3_needWay rfl rfl rfl (by decide +kernel) ⟨Nat.le_of_ble_eq_true rfl, Nat.le_of_ble_eq_true rfl⟩) ⟨fun a U g mk q => by obtain ⟨q0, q1, qP, qK, qD⟩ := q; exact ⟨q0, q1, qP, va_K.moved (u := U) (U := U.calling g mk a) (Vm.Alike.refl U.vm) qK, qD⟩, fun U hU hW => ⟨rfl, by rw [hU], by rw [hU]; exact hPc, va_K.moved hW.alike hKc, hDc.weaken (fun _ _ _ _ => trivial)⟩⟩ rfl rfl hl.1 rfl (lv_room (Nat.le_of_ble_eq_true rfl)) dX3_run_5 ⟨Nat.le_of_ble_eq_true rfl, Nat.le_of_ble_eq_true rfl⟩) hS (fun q _ h => hFc q h) hFc (fun u t H1 locs ht hvm hw hB hz1 hk1 hS => ?_)
  obtain ⟨hP1, hK1, hD1⟩ := hB
  rw [ht] at hP1
  have hK1 := va_K.moved hvm.symm hK1
  obtain ⟨hP, hD⟩ := va_join (wr := [(h0, .inr (7, [.ref h1, .ref h2, .ref z0, .ref z1, .ref z2, .ref z3, .int 0, .int 0, .int 0])), (h1, .inl (k0, 4, .inr (.inr (.inr (.inr (va_up (va_up (va_up (va_up (fun _ => none) 0 (some h3)) 1 (some h4)) 2 (some h5)) 3 (some h6))))))), (h2, .inr (5, [.ref z4, .ref z5, .ref z6, .ref z7, .ref z8, .ref z9, .int 0, .int 0])), (h3, .inr (6, [.ref z10, .int 0])), (h4, .inr (6, [.ref z11, .int 0])), (h5, .inr (6, [.ref z12, .int 0])), (h6, .inr (6, [.ref z13, .int 0]))]) (w1 := []) hP hD [] [0, 1, 2, 3, 4, 5, 6] rfl rfl (by decide) (by decide) hk1 hFc hP1 hD1
  generalize H1 = H at hP hS ⊢
  have hP : va_P (dC, dI) vwCl [(h0, .inr (7, [.ref h1, .ref h2, .ref z0, .ref z1, .ref z2, .ref z3, .int 0, .int 0, .int 0])), (h1, .inl (k0, 4, .inr (.inr (.inr (.inr (va_up (va_up (va_up (va_up (fun _ => none) 0 (some h3)) 1 (some h4)) 2 (some h5)) 3 (some h6))))))), (h2, .inr (5, [.ref z4, .ref z5, .ref z6, .ref z7, .ref z8, .ref z9, .int 0, .int 0])), (h3, .inr (6, [.ref z10, .int 0])), (h4, .inr (6, [.ref z11, .int 0])), (h5, .inr (6, [.ref z12, .int 0])), (h6, .inr (6, [.ref z13, .int 0]))] H := hP
  have hD : va_D A [(h0, .inr (7, [.ref h1, .ref h2, .ref z0, .ref z1, .ref z2, .ref z3, .int 0, .int 0, .int 0])), (h1, .inl (k0, 4, .inr (.inr (.inr (.inr (va_up (va_up (va_up (va_up (fun _ => none) 0 (some h3)) 1 (some h4)) 2 (some h5)) 3 (some h6))))))), (h2, .inr (5, [.ref z4, .ref z5, .ref z6, .ref z7, .ref z8, .ref z9, .int 0, .int 0])), (h3, .inr (6, [.ref z10, .int 0])), (h4, .inr (6, [.ref z11, .int 0])), (h5, .inr (6, [.ref z12, .int 0])), (h6, .inr (6, [.ref z13, .int 0]))] := hD
  refine lv_iload_n hx hb dX3_run_8 rfl (lv_at hl 3 rfl) ?_
  refine lv_iconst (v := 1) hx hb dX3_run_9 (by decide) ?_
  refine lv_icmp_lt (tgt := 19) hx hb dX3_run_10 (by decide) (fun c9 => absurd c9 (fun c8 => absurd (Int32.lt_iff_toInt_lt.mp c8) (by rw [show (1 : Int32).toInt = 1 from by decide]; omega))) (fun _ => ?_)
  refine lv_iload_n hx hb dX3_run_13 rfl (lv_at hl 3 rfl) ?_
  refine lv_bipush (v := 40) hx hb dX3_run_14 (by decide) ?_
  refine lv_icmp_le (tgt := 29) hx hb dX3_run_16 (by decide) (fun _ => ?_) (fun c9 => absurd (Int32.le_iff_toInt_le.mpr (by rw [show (40 : Int32).toInt = 40 from by decide]; omega)) c9)
  refine lv_aload_n hx hb dX3_run_29 rfl (lv_at hl 0 rfl) ?_
  refine va_get (D := (dC, dI)) (ci := 7) (v := .ref h2) (C := RX3) (T := TX3) (N := 9) hx hb hts (by decide +kernel) hown hK hP 0 rfl rfl 1 (by decide) (hts (.fieldLink RX3 18 "Rewriterope" "book" "LRewriterope$RuleBook;") (by decide +kernel)) (fun _ h9 => h9) rfl dX3_run_30 ?_
  refine lv_aload_n hx hb dX3_run_33 rfl (lv_at hl 0 rfl) ?_
  refine va_get (D := (dC, dI)) (ci := 7) (v := .ref h1) (C := RX3) (T := TX3) (N := 9) hx hb hts (by decide +kernel) hown hK hP 0 rfl rfl 0 (by decide) (hts (.fieldLink RX3 11 "Rewriterope" "ropes" "[LRewriterope$Text;") (by decide +kernel)) (fun _ h9 => h9) rfl dX3_run_34 ?_
  refine lv_iload_n hx hb dX3_run_37 rfl (lv_at hl 1 rfl) ?_
  refine va_aldq (D := (dC, dI)) hx hb hK hP 1 0 rfl rfl (by unfold vp_in; decide) dX3_run_38 ?_
  refine W.eq (g2 := F0 m 39 ls [.ref h4, .ref h2]) rfl ?_
  refine lv_iload_n hx hb dX3_run_39 rfl (lv_at hl 2 rfl) ?_
  refine lv_iload_n hx hb dX3_run_40 rfl (lv_at hl 3 rfl) ?_
  have hPc := hP.sub (ws' := [(h2, .inr (5, [.ref z4, .ref z5, .ref z6, .ref z7, .ref z8, .ref z9, .int 0, .int 0])), (h4, .inr (6, [.ref z11, .int 0]))]) [2, 4] rfl
  have hDc := hD.sub (ws' := [(h2, .inr (5, [.ref z4, .ref z5, .ref z6, .ref z7, .ref z8, .ref z9, .int 0, .int 0])), (h4, .inr (6, [.ref z11, .int 0]))]) [2, 4] (by decide) rfl
  have hKc := hK.sub (tys' := []) [] rfl
  have hFc := va_free (wc := [(h2, .inr (5, [.ref z4, .ref z5, .ref z6, .ref z7, .ref z8, .ref z9, .int 0, .int 0])), (h4, .inr (6, [.ref z11, .int 0]))]) hD hS hA [2, 4] rfl
  refine va_calli (va_runV (As := [.ref h4, .int i0, .int i1]) (rest := []) ⟨hx, hb, hml, hown, hts⟩ (kx_X1_rewriteByWay_0 l dC dI h2 h4 z4 z5 z6 z7 z8 z9 z11 H.size i0 i0_l i0_u i1 i1_l i1_u) (cwV 3 hts gX3_run_X1_rewriteByWay rfl rfl rfl (by decide +kernel) ⟨Nat.le_of_ble_eq_true rfl, Nat.le_of_ble_eq_true rfl⟩) ⟨fun a U g mk q => by obtain ⟨q0, q1, qP, qK, qD⟩ := q; exact ⟨q0, q1, qP, va_K.moved (u := U) (U := U.calling g mk a) (Vm.Alike.refl U.vm) qK, qD⟩, va_recv hKc hPc (ci := 5) (q0 := 0) rfl rfl, fun U hU hW => ⟨rfl, by rw [hU], by rw [hU]; exact hPc, va_K.moved hW.alike hKc, hDc.weaken (fun _ _ _ _ => trivial)⟩⟩ rfl rfl hl.1 rfl (lv_room (Nat.le_of_ble_eq_true rfl)) dX3_run_41 ⟨Nat.le_of_ble_eq_true rfl, Nat.le_of_ble_eq_true rfl⟩) hS (fun q _ h => hFc q h) hFc (fun r9 u t H1 locs ht hvm hw hB hz1 hk1 hS => ?_)
  obtain rfl := hw
  obtain ⟨hP1, hK1, hD1⟩ := hB
  rw [ht] at hP1
  have hK1 := va_K.moved hvm.symm hK1
  obtain ⟨hP, hD⟩ := va_join (wr := [(h0, .inr (7, [.ref h1, .ref h2, .ref z0, .ref z1, .ref z2, .ref z3, .int 0, .int 0, .int 0])), (h1, .inl (k0, 4, .inr (.inr (.inr (.inr (va_up (va_up (va_up (va_up (fun _ => none) 0 (some h3)) 1 (some h4)) 2 (some h5)) 3 (some h6))))))), (h3, .inr (6, [.ref z10, .int 0])), (h5, .inr (6, [.ref z12, .int 0])), (h6, .inr (6, [.ref z13, .int 0]))]) (w1 := [(h2, .inr (5, [.ref z4, .ref z5, .ref z6, .ref z7, .ref z8, .ref z9, .int 0, .int 0])), (h4, .inr (6, [.ref z11, .int 0]))]) hP hD [2, 4] [0, 1, 3, 5, 6] rfl rfl (by decide) (by decide) hk1 hFc hP1 hD1
  generalize H1 = H at hP hS ⊢
  have hP : va_P (dC, dI) vwCl [(h0, .inr (7, [.ref h1, .ref h2, .ref z0, .ref z1, .ref z2, .ref z3, .int 0, .int 0, .int 0])), (h1, .inl (k0, 4, .inr (.inr (.inr (.inr (va_up (va_up (va_up (va_up (fun _ => none) 0 (some h3)) 1 (some h4)) 2 (some h5)) 3 (some h6))))))), (h3, .inr (6, [.ref z10, .int 0])), (h5, .inr (6, [.ref z12, .int 0])), (h6, .inr (6, [.ref z13, .int 0])), (h2, .inr (5, [.ref z4, .ref z5, .ref z6, .ref z7, .ref z8, .ref z9, .int 0, .int 0])), (h4, .inr (6, [.ref z11, .int 0]))] H := hP
  have hD : va_D A [(h0, .inr (7, [.ref h1, .ref h2, .ref z0, .ref z1, .ref z2, .ref z3, .int 0, .int 0, .int 0])), (h1, .inl (k0, 4, .inr (.inr (.inr (.inr (va_up (va_up (va_up (va_up (fun _ => none) 0 (some h3)) 1 (some h4)) 2 (some h5)) 3 (some h6))))))), (h3, .inr (6, [.ref z10, .int 0])), (h5, .inr (6, [.ref z12, .int 0])), (h6, .inr (6, [.ref z13, .int 0])), (h2, .inr (5, [.ref z4, .ref z5, .ref z6, .ref z7, .ref z8, .ref z9, .int 0, .int 0])), (h4, .inr (6, [.ref z11, .int 0]))] := hD
  refine lv_istore (lv' := [(4, .int 0), (0, .ref h0), (1, .int 1), (2, .int i0), (3, .int i1)]) hx hb dX3_run_44 hl (by decide) rfl (fun ls hl => ?_)
  refine lv_aload_n hx hb dX3_run_46 rfl (lv_at hl 1 rfl) ?_
  refine lv_dup hx hb dX3_run_47 rfl ?_
  refine va_get (D := (dC, dI)) (ci := 7) (v := .int 0) (C := RX3) (T := TX3) (N := 9) hx hb hts (by decide +kernel) hown hK hP 0 rfl rfl 8 (by decide) (hts (.fieldLink RX3 49 "Rewriterope" "stepsMade" "I") (by decide +kernel)) (fun _ h9 => h9) rfl dX3_run_48 ?_
  refine lv_iload hx hb dX3_run_51 (lv_at hl 0 rfl) ?_
  refine lv_iadd hx hb dX3_run_53 ?_
  refine lv_topi (fun y1 ey1 => ?_)
  obtain rfl : y1 = 0 := ey1.trans (by decide)
  refine va_put (D := (dC, dI)) (ci := 7) (v := .int 0) (ty := .int) (C := RX3) (T := TX3) (N := 9) hx hb hts (by decide +kernel) tyX3 tyX3_ok nmX3 hown hK hP hD hS 0 rfl rfl 8 (by decide) (hts (.fieldLink RX3 49 "Rewriterope" "stepsMade" "I") (by decide +kernel)) (fun _ h9 => h9) rfl (by decide +kernel) rfl rfl (Nat.le_of_ble_eq_true rfl) dX3_run_54 (fun H locs hP hD hS => ?_)
  have hP : va_P (dC, dI) vwCl [(h0, .inr (7, [.ref h1, .ref h2, .ref z0, .ref z1, .ref z2, .ref z3, .int 0, .int 0, .int 0])), (h1, .inl (k0, 4, .inr (.inr (.inr (.inr (va_up (va_up (va_up (va_up (fun _ => none) 0 (some h3)) 1 (some h4)) 2 (some h5)) 3 (some h6))))))), (h3, .inr (6, [.ref z10, .int 0])), (h5, .inr (6, [.ref z12, .int 0])), (h6, .inr (6, [.ref z13, .int 0])), (h2, .inr (5, [.ref z4, .ref z5, .ref z6, .ref z7, .ref z8, .ref z9, .int 0, .int 0])), (h4, .inr (6, [.ref z11, .int 0]))] H := hP
  have hD : va_D A [(h0, .inr (7, [.ref h1, .ref h2, .ref z0, .ref z1, .ref z2, .ref z3, .int 0, .int 0, .int 0])), (h1, .inl (k0, 4, .inr (.inr (.inr (.inr (va_up (va_up (va_up (va_up (fun _ => none) 0 (some h3)) 1 (some h4)) 2 (some h5)) 3 (some h6))))))), (h3, .inr (6, [.ref z10, .int 0])), (h5, .inr (6, [.ref z12, .int 0])), (h6, .inr (6, [.ref z13, .int 0])), (h2, .inr (5, [.ref z4, .ref z5, .ref z6, .ref z7, .ref z8, .ref z9, .int 0, .int 0])), (h4, .inr (6, [.ref z11, .int 0]))] := hD
  refine lv_iload hx hb dX3_run_57 (lv_at hl 0 rfl) ?_
  have hP := hP.sub (ws' := [(h0, .inr (7, [.ref h1, .ref h2, .ref z0, .ref z1, .ref z2, .ref z3, .int 0, .int 0, .int 0])), (h1, .inl (k0, 4, .inr (.inr (.inr (.inr (va_up (va_up (va_up (va_up (fun _ => none) 0 (some h3)) 1 (some h4)) 2 (some h5)) 3 (some h6))))))), (h2, .inr (5, [.ref z4, .ref z5, .ref z6, .ref z7, .ref z8, .ref z9, .int 0, .int 0])), (h3, .inr (6, [.ref z10, .int 0])), (h4, .inr (6, [.ref z11, .int 0])), (h5, .inr (6, [.ref z12, .int 0])), (h6, .inr (6, [.ref z13, .int 0]))]) [0, 1, 5, 2, 6, 3, 4] rfl
  have hD := hD.sub (ws' := [(h0, .inr (7, [.ref h1, .ref h2, .ref z0, .ref z1, .ref z2, .ref z3, .int 0, .int 0, .int 0])), (h1, .inl (k0, 4, .inr (.inr (.inr (.inr (va_up (va_up (va_up (va_up (fun _ => none) 0 (some h3)) 1 (some h4)) 2 (some h5)) 3 (some h6))))))), (h2, .inr (5, [.ref z4, .ref z5, .ref z6, .ref z7, .ref z8, .ref z9, .int 0, .int 0])), (h3, .inr (6, [.ref z10, .int 0])), (h4, .inr (6, [.ref z11, .int 0])), (h5, .inr (6, [.ref z12, .int 0])), (h6, .inr (6, [.ref z13, .int 0]))]) [0, 1, 5, 2, 6, 3, 4] (by decide) rfl
  exact W.iret (v := 0) hx hb hr (fun t ht hW => ⟨⟨0, (), rfl, rfl, by rw [ht]; exact hP, va_K.moved hW.alike hK, hD⟩, hS.F ht⟩) hS.2.2 dX3_run_59
set_option maxHeartbeats 4000000 in
set_option maxRecDepth 100000 in
theorem kx_X3_run_9 (l : Launch) (dC : Nat → ClassId) (dI : Nat → Nat → Nat) (h0 : Nat) (h1 : Nat) (h2 : Nat) (h3 : Nat) (h4 : Nat) (h5 : Nat) (h6 : Nat) (z0 : Nat) (z1 : Nat) (z2 : Nat) (z3 : Nat) (z4 : Nat) (z5 : Nat) (z6 : Nat) (z7 : Nat) (z8 : Nat) (z9 : Nat) (z10 : Nat) (z11 : Nat) (z12 : Nat) (z13 : Nat) (k0 : ClassId) (sz : Nat) (i0 : Int32) (i0_l : (0 : Int) ≤ i0.toInt) (i0_u : i0.toInt ≤ (2 : Int)) (i1 : Int32) (i1_l : (1 : Int) ≤ i1.toInt) (i1_u : i1.toInt ≤ (40 : Int)) : Met l yX3_run wsX3_run ({ frames := 4, cells := 0, slots := 0, locals := 91 }) (va_Pc [.ref h0, .int 2, .int i0, .int i1] (fun U => U.heap.size = sz ∧ va_P (dC, dI) vwCl [(h0, .inr (7, [.ref h1, .ref h2, .ref z0, .ref z1, .ref z2, .ref z3, .int 0, .int 0, .int 0])), (h1, .inl (k0, 4, .inr (.inr (.inr (.inr (va_up (va_up (va_up (va_up (fun _ => none) 0 (some h3)) 1 (some h4)) 2 (some h5)) 3 (some h6))))))), (h2, .inr (5, [.ref z4, .ref z5, .ref z6, .ref z7, .ref z8, .ref z9, .int 0, .int 0])), (h3, .inr (6, [.ref z10, .int 0])), (h4, .inr (6, [.ref z11, .int 0])), (h5, .inr (6, [.ref z12, .int 0])), (h6, .inr (6, [.ref z13, .int 0]))] U.heap ∧ va_K (dC, dI) vwCl [(k0, .object "Rewriterope$Text")] U ∧ va_D (fun _ => True) [(h0, .inr (7, [.ref h1, .ref h2, .ref z0, .ref z1, .ref z2, .ref z3, .int 0, .int 0, .int 0])), (h1, .inl (k0, 4, .inr (.inr (.inr (.inr (va_up (va_up (va_up (va_up (fun _ => none) 0 (some h3)) 1 (some h4)) 2 (some h5)) 3 (some h6))))))), (h2, .inr (5, [.ref z4, .ref z5, .ref z6, .ref z7, .ref z8, .ref z9, .int 0, .int 0])), (h3, .inr (6, [.ref z10, .int 0])), (h4, .inr (6, [.ref z11, .int 0])), (h5, .inr (6, [.ref z12, .int 0])), (h6, .inr (6, [.ref z13, .int 0]))])) (va_Qi (fun (r : Int32) (_ : Unit) => r = 0) (fun (_ : Unit) (t : State) => va_P (dC, dI) vwCl [(h0, .inr (7, [.ref h1, .ref h2, .ref z0, .ref z1, .ref z2, .ref z3, .int 0, .int 0, .int 0])), (h1, .inl (k0, 4, .inr (.inr (.inr (.inr (va_up (va_up (va_up (va_up (fun _ => none) 0 (some h3)) 1 (some h4)) 2 (some h5)) 3 (some h6))))))), (h2, .inr (5, [.ref z4, .ref z5, .ref z6, .ref z7, .ref z8, .ref z9, .int 0, .int 0])), (h3, .inr (6, [.ref z10, .int 0])), (h4, .inr (6, [.ref z11, .int 0])), (h5, .inr (6, [.ref z12, .int 0])), (h6, .inr (6, [.ref z13, .int 0]))] t.heap ∧ va_K (dC, dI) vwCl [(k0, .object "Rewriterope$Text")] t ∧ va_D (va_A [(h0, .inr (7, [.ref h1, .ref h2, .ref z0, .ref z1, .ref z2, .ref z3, .int 0, .int 0, .int 0])), (h1, .inl (k0, 4, .inr (.inr (.inr (.inr (va_up (va_up (va_up (va_up (fun _ => none) 0 (some h3)) 1 (some h4)) 2 (some h5)) 3 (some h6))))))), (h2, .inr (5, [.ref z4, .ref z5, .ref z6, .ref z7, .ref z8, .ref z9, .int 0, .int 0])), (h3, .inr (6, [.ref z10, .int 0])), (h4, .inr (6, [.ref z11, .int 0])), (h5, .inr (6, [.ref z12, .int 0])), (h6, .inr (6, [.ref z13, .int 0]))] sz) [(h0, .inr (7, [.ref h1, .ref h2, .ref z0, .ref z1, .ref z2, .ref z3, .int 0, .int 0, .int 0])), (h1, .inl (k0, 4, .inr (.inr (.inr (.inr (va_up (va_up (va_up (va_up (fun _ => none) 0 (some h3)) 1 (some h4)) 2 (some h5)) 3 (some h6))))))), (h2, .inr (5, [.ref z4, .ref z5, .ref z6, .ref z7, .ref z8, .ref z9, .int 0, .int 0])), (h3, .inr (6, [.ref z10, .int 0])), (h4, .inr (6, [.ref z11, .int 0])), (h5, .inr (6, [.ref z12, .int 0])), (h6, .inr (6, [.ref z13, .int 0]))]) (va_A [(h0, .inr (7, [.ref h1, .ref h2, .ref z0, .ref z1, .ref z2, .ref z3, .int 0, .int 0, .int 0])), (h1, .inl (k0, 4, .inr (.inr (.inr (.inr (va_up (va_up (va_up (va_up (fun _ => none) 0 (some h3)) 1 (some h4)) 2 (some h5)) 3 (some h6))))))), (h2, .inr (5, [.ref z4, .ref z5, .ref z6, .ref z7, .ref z8, .ref z9, .int 0, .int 0])), (h3, .inr (6, [.ref z10, .int 0])), (h4, .inr (6, [.ref z11, .int 0])), (h5, .inr (6, [.ref z12, .int 0])), (h6, .inr (6, [.ref z13, .int 0]))] sz)) 0 0 (va_A [(h0, .inr (7, [.ref h1, .ref h2, .ref z0, .ref z1, .ref z2, .ref z3, .int 0, .int 0, .int 0])), (h1, .inl (k0, 4, .inr (.inr (.inr (.inr (va_up (va_up (va_up (va_up (fun _ => none) 0 (some h3)) 1 (some h4)) 2 (some h5)) 3 (some h6))))))), (h2, .inr (5, [.ref z4, .ref z5, .ref z6, .ref z7, .ref z8, .ref z9, .int 0, .int 0])), (h3, .inr (6, [.ref z10, .int 0])), (h4, .inr (6, [.ref z11, .int 0])), (h5, .inr (6, [.ref z12, .int 0])), (h6, .inr (6, [.ref z13, .int 0]))] sz) := by
  refine Met.ofW (cc := cX3_run) (maxL := 5) (ret := (some .int)) (by decide) rfl ?_
  intro p e s m args below meth c s₁ B hml hv
  obtain ⟨rfl, hsz, hP, hK, hD0⟩ := hv
  have hx := B.exec
  have hb := B.bytes
  have hr := B.returns
  have hts := atoms_spec (ws := wsX3_run) B.pre
  have hown : s.vm.findClass RX3 = some m.cls := findClass_of_methodNamed B.named
  have hlocks := B.notSynchronized
  subst hsz
  have hD := hD0.self (sz := s.heap.size)
  generalize hAe : va_A [(h0, .inr (7, [.ref h1, .ref h2, .ref z0, .ref z1, .ref z2, .ref z3, .int 0, .int 0, .int 0])), (h1, .inl (k0, 4, .inr (.inr (.inr (.inr (va_up (va_up (va_up (va_up (fun _ => none) 0 (some h3)) 1 (some h4)) 2 (some h5)) 3 (some h6))))))), (h2, .inr (5, [.ref z4, .ref z5, .ref z6, .ref z7, .ref z8, .ref z9, .int 0, .int 0])), (h3, .inr (6, [.ref z10, .int 0])), (h4, .inr (6, [.ref z11, .int 0])), (h5, .inr (6, [.ref z12, .int 0])), (h6, .inr (6, [.ref z13, .int 0]))] s.heap.size = A at hD ⊢
  have hA : ∀ q : Nat, s.heap.size ≤ q → A q := fun q h => by rw [← hAe]; exact Or.inr h
  have hS : va_S A s.heap s.heap [] := va_S.rf
  have hP : va_P (dC, dI) vwCl [(h0, .inr (7, [.ref h1, .ref h2, .ref z0, .ref z1, .ref z2, .ref z3, .int 0, .int 0, .int 0])), (h1, .inl (k0, 4, .inr (.inr (.inr (.inr (va_up (va_up (va_up (va_up (fun _ => none) 0 (some h3)) 1 (some h4)) 2 (some h5)) 3 (some h6))))))), (h2, .inr (5, [.ref z4, .ref z5, .ref z6, .ref z7, .ref z8, .ref z9, .int 0, .int 0])), (h3, .inr (6, [.ref z10, .int 0])), (h4, .inr (6, [.ref z11, .int 0])), (h5, .inr (6, [.ref z12, .int 0])), (h6, .inr (6, [.ref z13, .int 0]))] s.heap := hP
  have hl := lv_entry ([.ref h0, .int 2, .int i0, .int i1]) (n := 5) (Nat.le_of_ble_eq_true rfl)
  rw [lg_entry_eq]
  generalize (lg_sl ([.ref h0, .int 2, .int i0, .int i1]) ++ List.replicate (5 - (lg_sl ([.ref h0, .int 2, .int i0, .int i1])).length) Slot.unset).toArray = ls at hl ⊢
  have hl : lv_has ls 5 [(0, .ref h0), (1, .int 2), (2, .int i0), (3, .int i1)] := hl
  refine lv_iload_n hx hb dX3_run_0 rfl (lv_at hl 1 rfl) ?_
  have hPc := hP.sub (ws' := []) [] rfl
  have hDc := hD.sub (ws' := []) [] (by decide) rfl
  have hKc := hK.sub (tys' := []) [] rfl
  have hFc := va_free (wc := []) hD hS hA [] rfl
  refine va_callv (va_runS (As := [.int 2]) (rest := []) ⟨hx, hb, hml, hown, hts⟩ (kx_X3_needRope_2 l dC dI s.heap.size) (cwS 1 hts gX3_run_X3_needRope rfl rfl rfl (by decide +kernel) ⟨Nat.le_of_ble_eq_true rfl, Nat.le_of_ble_eq_true rfl⟩) ⟨fun a U g mk q => by obtain ⟨q0, q1, qP, qK, qD⟩ := q; exact ⟨q0, q1, qP, va_K.moved (u := U) (U := U.calling g mk a) (Vm.Alike.refl U.vm) qK, qD⟩, fun U hU hW => ⟨rfl, by rw [hU], by rw [hU]; exact hPc, va_K.moved hW.alike hKc, hDc.weaken (fun _ _ _ _ => trivial)⟩⟩ rfl rfl hl.1 rfl (lv_room (Nat.le_of_ble_eq_true rfl)) dX3_run_1 ⟨Nat.le_of_ble_eq_true rfl, Nat.le_of_ble_eq_true rfl⟩) hS (fun q _ h => hFc q h) hFc (fun u t H1 locs ht hvm hw hB hz1 hk1 hS => ?_)
  obtain ⟨hP1, hK1, hD1⟩ := hB
  rw [ht] at hP1
  have hK1 := va_K.moved hvm.symm hK1
  obtain ⟨hP, hD⟩ := va_join (wr := [(h0, .inr (7, [.ref h1, .ref h2, .ref z0, .ref z1, .ref z2, .ref z3, .int 0, .int 0, .int 0])), (h1, .inl (k0, 4, .inr (.inr (.inr (.inr (va_up (va_up (va_up (va_up (fun _ => none) 0 (some h3)) 1 (some h4)) 2 (some h5)) 3 (some h6))))))), (h2, .inr (5, [.ref z4, .ref z5, .ref z6, .ref z7, .ref z8, .ref z9, .int 0, .int 0])), (h3, .inr (6, [.ref z10, .int 0])), (h4, .inr (6, [.ref z11, .int 0])), (h5, .inr (6, [.ref z12, .int 0])), (h6, .inr (6, [.ref z13, .int 0]))]) (w1 := []) hP hD [] [0, 1, 2, 3, 4, 5, 6] rfl rfl (by decide) (by decide) hk1 hFc hP1 hD1
  generalize H1 = H at hP hS ⊢
  have hP : va_P (dC, dI) vwCl [(h0, .inr (7, [.ref h1, .ref h2, .ref z0, .ref z1, .ref z2, .ref z3, .int 0, .int 0, .int 0])), (h1, .inl (k0, 4, .inr (.inr (.inr (.inr (va_up (va_up (va_up (va_up (fun _ => none) 0 (some h3)) 1 (some h4)) 2 (some h5)) 3 (some h6))))))), (h2, .inr (5, [.ref z4, .ref z5, .ref z6, .ref z7, .ref z8, .ref z9, .int 0, .int 0])), (h3, .inr (6, [.ref z10, .int 0])), (h4, .inr (6, [.ref z11, .int 0])), (h5, .inr (6, [.ref z12, .int 0])), (h6, .inr (6, [.ref z13, .int 0]))] H := hP
  have hD : va_D A [(h0, .inr (7, [.ref h1, .ref h2, .ref z0, .ref z1, .ref z2, .ref z3, .int 0, .int 0, .int 0])), (h1, .inl (k0, 4, .inr (.inr (.inr (.inr (va_up (va_up (va_up (va_up (fun _ => none) 0 (some h3)) 1 (some h4)) 2 (some h5)) 3 (some h6))))))), (h2, .inr (5, [.ref z4, .ref z5, .ref z6, .ref z7, .ref z8, .ref z9, .int 0, .int 0])), (h3, .inr (6, [.ref z10, .int 0])), (h4, .inr (6, [.ref z11, .int 0])), (h5, .inr (6, [.ref z12, .int 0])), (h6, .inr (6, [.ref z13, .int 0]))] := hD
  refine lv_iload_n hx hb dX3_run_4 rfl (lv_at hl 2 rfl) ?_
  have hPc := hP.sub (ws' := []) [] rfl
  have hDc := hD.sub (ws' := []) [] (by decide) rfl
  have hKc := hK.sub (tys' := []) [] rfl
  have hFc := va_free (wc := []) hD hS hA [] rfl
  refine va_callv (va_runS (As := [.int i0]) (rest := []) ⟨hx, hb, hml, hown, hts⟩ (kx_X3_needWay_0 l dC dI H.size i0 i0_l i0_u) (cwS 1 hts gX3_run_X3_needWay rfl rfl rfl (by decide +kernel) ⟨Nat.le_of_ble_eq_true rfl, Nat.le_of_ble_eq_true rfl⟩) ⟨fun a U g mk q => by obtain ⟨q0, q1, qP, qK, qD⟩ := q; exact ⟨q0, q1, qP, va_K.moved (u := U) (U := U.calling g mk a) (Vm.Alike.refl U.vm) qK, qD⟩, fun U hU hW => ⟨rfl, by rw [hU], by rw [hU]; exact hPc, va_K.moved hW.alike hKc, hDc.weaken (fun _ _ _ _ => trivial)⟩⟩ rfl rfl hl.1 rfl (lv_room (Nat.le_of_ble_eq_true rfl)) dX3_run_5 ⟨Nat.le_of_ble_eq_true rfl, Nat.le_of_ble_eq_true rfl⟩) hS (fun q _ h => hFc q h) hFc (fun u t H1 locs ht hvm hw hB hz1 hk1 hS => ?_)
  obtain ⟨hP1, hK1, hD1⟩ := hB
  rw [ht] at hP1
  have hK1 := va_K.moved hvm.symm hK1
  obtain ⟨hP, hD⟩ := va_join (wr := [(h0, .inr (7, [.ref h1, .ref h2, .ref z0, .ref z1, .ref z2, .ref z3, .int 0, .int 0, .int 0])), (h1, .inl (k0, 4, .inr (.inr (.inr (.inr (va_up (va_up (va_up (va_up (fun _ => none) 0 (some h3)) 1 (some h4)) 2 (some h5)) 3 (some h6))))))), (h2, .inr (5, [.ref z4, .ref z5, .ref z6, .ref z7, .ref z8, .ref z9, .int 0, .int 0])), (h3, .inr (6, [.ref z10, .int 0])), (h4, .inr (6, [.ref z11, .int 0])), (h5, .inr (6, [.ref z12, .int 0])), (h6, .inr (6, [.ref z13, .int 0]))]) (w1 := []) hP hD [] [0, 1, 2, 3, 4, 5, 6] rfl rfl (by decide) (by decide) hk1 hFc hP1 hD1
  generalize H1 = H at hP hS ⊢
  have hP : va_P (dC, dI) vwCl [(h0, .inr (7, [.ref h1, .ref h2, .ref z0, .ref z1, .ref z2, .ref z3, .int 0, .int 0, .int 0])), (h1, .inl (k0, 4, .inr (.inr (.inr (.inr (va_up (va_up (va_up (va_up (fun _ => none) 0 (some h3)) 1 (some h4)) 2 (some h5)) 3 (some h6))))))), (h2, .inr (5, [.ref z4, .ref z5, .ref z6, .ref z7, .ref z8, .ref z9, .int 0, .int 0])), (h3, .inr (6, [.ref z10, .int 0])), (h4, .inr (6, [.ref z11, .int 0])), (h5, .inr (6, [.ref z12, .int 0])), (h6, .inr (6, [.ref z13, .int 0]))] H := hP
  have hD : va_D A [(h0, .inr (7, [.ref h1, .ref h2, .ref z0, .ref z1, .ref z2, .ref z3, .int 0, .int 0, .int 0])), (h1, .inl (k0, 4, .inr (.inr (.inr (.inr (va_up (va_up (va_up (va_up (fun _ => none) 0 (some h3)) 1 (some h4)) 2 (some h5)) 3 (some h6))))))), (h2, .inr (5, [.ref z4, .ref z5, .ref z6, .ref z7, .ref z8, .ref z9, .int 0, .int 0])), (h3, .inr (6, [.ref z10, .int 0])), (h4, .inr (6, [.ref z11, .int 0])), (h5, .inr (6, [.ref z12, .int 0])), (h6, .inr (6, [.ref z13, .int 0]))] := hD
  refine lv_iload_n hx hb dX3_run_8 rfl (lv_at hl 3 rfl) ?_
  refine lv_iconst (v := 1) hx hb dX3_run_9 (by decide) ?_
  refine lv_icmp_lt (tgt := 19) hx hb dX3_run_10 (by decide) (fun c9 => absurd c9 (fun c8 => absurd (Int32.lt_iff_toInt_lt.mp c8) (by rw [show (1 : Int32).toInt = 1 from by decide]; omega))) (fun _ => ?_)
  refine lv_iload_n hx hb dX3_run_13 rfl (lv_at hl 3 rfl) ?_
  refine lv_bipush (v := 40) hx hb dX3_run_14 (by decide) ?_
  refine lv_icmp_le (tgt := 29) hx hb dX3_run_16 (by decide) (fun _ => ?_) (fun c9 => absurd (Int32.le_iff_toInt_le.mpr (by rw [show (40 : Int32).toInt = 40 from by decide]; omega)) c9)
  refine lv_aload_n hx hb dX3_run_29 rfl (lv_at hl 0 rfl) ?_
  refine va_get (D := (dC, dI)) (ci := 7) (v := .ref h2) (C := RX3) (T := TX3) (N := 9) hx hb hts (by decide +kernel) hown hK hP 0 rfl rfl 1 (by decide) (hts (.fieldLink RX3 18 "Rewriterope" "book" "LRewriterope$RuleBook;") (by decide +kernel)) (fun _ h9 => h9) rfl dX3_run_30 ?_
  refine lv_aload_n hx hb dX3_run_33 rfl (lv_at hl 0 rfl) ?_
  refine va_get (D := (dC, dI)) (ci := 7) (v := .ref h1) (C := RX3) (T := TX3) (N := 9) hx hb hts (by decide +kernel) hown hK hP 0 rfl rfl 0 (by decide) (hts (.fieldLink RX3 11 "Rewriterope" "ropes" "[LRewriterope$Text;") (by decide +kernel)) (fun _ h9 => h9) rfl dX3_run_34 ?_
  refine lv_iload_n hx hb dX3_run_37 rfl (lv_at hl 1 rfl) ?_
  refine va_aldq (D := (dC, dI)) hx hb hK hP 1 0 rfl rfl (by unfold vp_in; decide) dX3_run_38 ?_
  refine W.eq (g2 := F0 m 39 ls [.ref h5, .ref h2]) rfl ?_
  refine lv_iload_n hx hb dX3_run_39 rfl (lv_at hl 2 rfl) ?_
  refine lv_iload_n hx hb dX3_run_40 rfl (lv_at hl 3 rfl) ?_
  have hPc := hP.sub (ws' := [(h2, .inr (5, [.ref z4, .ref z5, .ref z6, .ref z7, .ref z8, .ref z9, .int 0, .int 0])), (h5, .inr (6, [.ref z12, .int 0]))]) [2, 5] rfl
  have hDc := hD.sub (ws' := [(h2, .inr (5, [.ref z4, .ref z5, .ref z6, .ref z7, .ref z8, .ref z9, .int 0, .int 0])), (h5, .inr (6, [.ref z12, .int 0]))]) [2, 5] (by decide) rfl
  have hKc := hK.sub (tys' := []) [] rfl
  have hFc := va_free (wc := [(h2, .inr (5, [.ref z4, .ref z5, .ref z6, .ref z7, .ref z8, .ref z9, .int 0, .int 0])), (h5, .inr (6, [.ref z12, .int 0]))]) hD hS hA [2, 5] rfl
  refine va_calli (va_runV (As := [.ref h5, .int i0, .int i1]) (rest := []) ⟨hx, hb, hml, hown, hts⟩ (kx_X1_rewriteByWay_0 l dC dI h2 h5 z4 z5 z6 z7 z8 z9 z12 H.size i0 i0_l i0_u i1 i1_l i1_u) (cwV 3 hts gX3_run_X1_rewriteByWay rfl rfl rfl (by decide +kernel) ⟨Nat.le_of_ble_eq_true rfl, Nat.le_of_ble_eq_true rfl⟩) ⟨fun a U g mk q => by obtain ⟨q0, q1, qP, qK, qD⟩ := q; exact ⟨q0, q1, qP, va_K.moved (u := U) (U := U.calling g mk a) (Vm.Alike.refl U.vm) qK, qD⟩, va_recv hKc hPc (ci := 5) (q0 := 0) rfl rfl, fun U hU hW => ⟨rfl, by rw [hU], by rw [hU]; exact hPc, va_K.moved hW.alike hKc, hDc.weaken (fun _ _ _ _ => trivial)⟩⟩ rfl rfl hl.1 rfl (lv_room (Nat.le_of_ble_eq_true rfl)) dX3_run_41 ⟨Nat.le_of_ble_eq_true rfl, Nat.le_of_ble_eq_true rfl⟩) hS (fun q _ h => hFc q h) hFc (fun r9 u t H1 locs ht hvm hw hB hz1 hk1 hS => ?_)
  obtain rfl := hw
  obtain ⟨hP1, hK1, hD1⟩ := hB
  rw [ht] at hP1
  have hK1 := va_K.moved hvm.symm hK1
  obtain ⟨hP, hD⟩ := va_join (wr := [(h0, .inr (7, [.ref h1, .ref h2, .ref z0, .ref z1, .ref z2, .ref z3, .int 0, .int 0, .int 0])), (h1, .inl (k0, 4, .inr (.inr (.inr (.inr (va_up (va_up (va_up (va_up (fun _ => none) 0 (some h3)) 1 (some h4)) 2 (some h5)) 3 (some h6))))))), (h3, .inr (6, [.ref z10, .int 0])), (h4, .inr (6, [.ref z11, .int 0])), (h6, .inr (6, [.ref z13, .int 0]))]) (w1 := [(h2, .inr (5, [.ref z4, .ref z5, .ref z6, .ref z7, .ref z8, .ref z9, .int 0, .int 0])), (h5, .inr (6, [.ref z12, .int 0]))]) hP hD [2, 5] [0, 1, 3, 4, 6] rfl rfl (by decide) (by decide) hk1 hFc hP1 hD1
  generalize H1 = H at hP hS ⊢
  have hP : va_P (dC, dI) vwCl [(h0, .inr (7, [.ref h1, .ref h2, .ref z0, .ref z1, .ref z2, .ref z3, .int 0, .int 0, .int 0])), (h1, .inl (k0, 4, .inr (.inr (.inr (.inr (va_up (va_up (va_up (va_up (fun _ => none) 0 (some h3)) 1 (some h4)) 2 (some h5)) 3 (some h6))))))), (h3, .inr (6, [.ref z10, .int 0])), (h4, .inr (6, [.ref z11, .int 0])), (h6, .inr (6, [.ref z13, .int 0])), (h2, .inr (5, [.ref z4, .ref z5, .ref z6, .ref z7, .ref z8, .ref z9, .int 0, .int 0])), (h5, .inr (6, [.ref z12, .int 0]))] H := hP
  have hD : va_D A [(h0, .inr (7, [.ref h1, .ref h2, .ref z0, .ref z1, .ref z2, .ref z3, .int 0, .int 0, .int 0])), (h1, .inl (k0, 4, .inr (.inr (.inr (.inr (va_up (va_up (va_up (va_up (fun _ => none) 0 (some h3)) 1 (some h4)) 2 (some h5)) 3 (some h6))))))), (h3, .inr (6, [.ref z10, .int 0])), (h4, .inr (6, [.ref z11, .int 0])), (h6, .inr (6, [.ref z13, .int 0])), (h2, .inr (5, [.ref z4, .ref z5, .ref z6, .ref z7, .ref z8, .ref z9, .int 0, .int 0])), (h5, .inr (6, [.ref z12, .int 0]))] := hD
  refine lv_istore (lv' := [(4, .int 0), (0, .ref h0), (1, .int 2), (2, .int i0), (3, .int i1)]) hx hb dX3_run_44 hl (by decide) rfl (fun ls hl => ?_)
  refine lv_aload_n hx hb dX3_run_46 rfl (lv_at hl 1 rfl) ?_
  refine lv_dup hx hb dX3_run_47 rfl ?_
  refine va_get (D := (dC, dI)) (ci := 7) (v := .int 0) (C := RX3) (T := TX3) (N := 9) hx hb hts (by decide +kernel) hown hK hP 0 rfl rfl 8 (by decide) (hts (.fieldLink RX3 49 "Rewriterope" "stepsMade" "I") (by decide +kernel)) (fun _ h9 => h9) rfl dX3_run_48 ?_
  refine lv_iload hx hb dX3_run_51 (lv_at hl 0 rfl) ?_
  refine lv_iadd hx hb dX3_run_53 ?_
  refine lv_topi (fun y1 ey1 => ?_)
  obtain rfl : y1 = 0 := ey1.trans (by decide)
  refine va_put (D := (dC, dI)) (ci := 7) (v := .int 0) (ty := .int) (C := RX3) (T := TX3) (N := 9) hx hb hts (by decide +kernel) tyX3 tyX3_ok nmX3 hown hK hP hD hS 0 rfl rfl 8 (by decide) (hts (.fieldLink RX3 49 "Rewriterope" "stepsMade" "I") (by decide +kernel)) (fun _ h9 => h9) rfl (by decide +kernel) rfl rfl (Nat.le_of_ble_eq_true rfl) dX3_run_54 (fun H locs hP hD hS => ?_)
  have hP : va_P (dC, dI) vwCl [(h0, .inr (7, [.ref h1, .ref h2, .ref z0, .ref z1, .ref z2, .ref z3, .int 0, .int 0, .int 0])), (h1, .inl (k0, 4, .inr (.inr (.inr (.inr (va_up (va_up (va_up (va_up (fun _ => none) 0 (some h3)) 1 (some h4)) 2 (some h5)) 3 (some h6))))))), (h3, .inr (6, [.ref z10, .int 0])), (h4, .inr (6, [.ref z11, .int 0])), (h6, .inr (6, [.ref z13, .int 0])), (h2, .inr (5, [.ref z4, .ref z5, .ref z6, .ref z7, .ref z8, .ref z9, .int 0, .int 0])), (h5, .inr (6, [.ref z12, .int 0]))] H := hP
  have hD : va_D A [(h0, .inr (7, [.ref h1, .ref h2, .ref z0, .ref z1, .ref z2, .ref z3, .int 0, .int 0, .int 0])), (h1, .inl (k0, 4, .inr (.inr (.inr (.inr (va_up (va_up (va_up (va_up (fun _ => none) 0 (some h3)) 1 (some h4)) 2 (some h5)) 3 (some h6))))))), (h3, .inr (6, [.ref z10, .int 0])), (h4, .inr (6, [.ref z11, .int 0])), (h6, .inr (6, [.ref z13, .int 0])), (h2, .inr (5, [.ref z4, .ref z5, .ref z6, .ref z7, .ref z8, .ref z9, .int 0, .int 0])), (h5, .inr (6, [.ref z12, .int 0]))] := hD
  refine lv_iload hx hb dX3_run_57 (lv_at hl 0 rfl) ?_
  have hP := hP.sub (ws' := [(h0, .inr (7, [.ref h1, .ref h2, .ref z0, .ref z1, .ref z2, .ref z3, .int 0, .int 0, .int 0])), (h1, .inl (k0, 4, .inr (.inr (.inr (.inr (va_up (va_up (va_up (va_up (fun _ => none) 0 (some h3)) 1 (some h4)) 2 (some h5)) 3 (some h6))))))), (h2, .inr (5, [.ref z4, .ref z5, .ref z6, .ref z7, .ref z8, .ref z9, .int 0, .int 0])), (h3, .inr (6, [.ref z10, .int 0])), (h4, .inr (6, [.ref z11, .int 0])), (h5, .inr (6, [.ref z12, .int 0])), (h6, .inr (6, [.ref z13, .int 0]))]) [0, 1, 5, 2, 3, 6, 4] rfl
  have hD := hD.sub (ws' := [(h0, .inr (7, [.ref h1, .ref h2, .ref z0, .ref z1, .ref z2, .ref z3, .int 0, .int 0, .int 0])), (h1, .inl (k0, 4, .inr (.inr (.inr (.inr (va_up (va_up (va_up (va_up (fun _ => none) 0 (some h3)) 1 (some h4)) 2 (some h5)) 3 (some h6))))))), (h2, .inr (5, [.ref z4, .ref z5, .ref z6, .ref z7, .ref z8, .ref z9, .int 0, .int 0])), (h3, .inr (6, [.ref z10, .int 0])), (h4, .inr (6, [.ref z11, .int 0])), (h5, .inr (6, [.ref z12, .int 0])), (h6, .inr (6, [.ref z13, .int 0]))]) [0, 1, 5, 2, 3, 6, 4] (by decide) rfl
  exact W.iret (v := 0) hx hb hr (fun t ht hW => ⟨⟨0, (), rfl, rfl, by rw [ht]; exact hP, va_K.moved hW.alike hK, hD⟩, hS.F ht⟩) hS.2.2 dX3_run_59
set_option maxHeartbeats 4000000 in
set_option maxRecDepth 100000 in
theorem kx_X3_run_10 (l : Launch) (dC : Nat → ClassId) (dI : Nat → Nat → Nat) (h0 : Nat) (h1 : Nat) (h2 : Nat) (h3 : Nat) (h4 : Nat) (h5 : Nat) (h6 : Nat) (z0 : Nat) (z1 : Nat) (z2 : Nat) (z3 : Nat) (z4 : Nat) (z5 : Nat) (z6 : Nat) (z7 : Nat) (z8 : Nat) (z9 : Nat) (z10 : Nat) (z11 : Nat) (z12 : Nat) (z13 : Nat) (k0 : ClassId) (sz : Nat) (i0 : Int32) (i0_l : (0 : Int) ≤ i0.toInt) (i0_u : i0.toInt ≤ (2 : Int)) (i1 : Int32) (i1_l : (1 : Int) ≤ i1.toInt) (i1_u : i1.toInt ≤ (40 : Int)) : Met l yX3_run wsX3_run ({ frames := 4, cells := 0, slots := 0, locals := 91 }) (va_Pc [.ref h0, .int 3, .int i0, .int i1] (fun U => U.heap.size = sz ∧ va_P (dC, dI) vwCl [(h0, .inr (7, [.ref h1, .ref h2, .ref z0, .ref z1, .ref z2, .ref z3, .int 0, .int 0, .int 0])), (h1, .inl (k0, 4, .inr (.inr (.inr (.inr (va_up (va_up (va_up (va_up (fun _ => none) 0 (some h3)) 1 (some h4)) 2 (some h5)) 3 (some h6))))))), (h2, .inr (5, [.ref z4, .ref z5, .ref z6, .ref z7, .ref z8, .ref z9, .int 0, .int 0])), (h3, .inr (6, [.ref z10, .int 0])), (h4, .inr (6, [.ref z11, .int 0])), (h5, .inr (6, [.ref z12, .int 0])), (h6, .inr (6, [.ref z13, .int 0]))] U.heap ∧ va_K (dC, dI) vwCl [(k0, .object "Rewriterope$Text")] U ∧ va_D (fun _ => True) [(h0, .inr (7, [.ref h1, .ref h2, .ref z0, .ref z1, .ref z2, .ref z3, .int 0, .int 0, .int 0])), (h1, .inl (k0, 4, .inr (.inr (.inr (.inr (va_up (va_up (va_up (va_up (fun _ => none) 0 (some h3)) 1 (some h4)) 2 (some h5)) 3 (some h6))))))), (h2, .inr (5, [.ref z4, .ref z5, .ref z6, .ref z7, .ref z8, .ref z9, .int 0, .int 0])), (h3, .inr (6, [.ref z10, .int 0])), (h4, .inr (6, [.ref z11, .int 0])), (h5, .inr (6, [.ref z12, .int 0])), (h6, .inr (6, [.ref z13, .int 0]))])) (va_Qi (fun (r : Int32) (_ : Unit) => r = 0) (fun (_ : Unit) (t : State) => va_P (dC, dI) vwCl [(h0, .inr (7, [.ref h1, .ref h2, .ref z0, .ref z1, .ref z2, .ref z3, .int 0, .int 0, .int 0])), (h1, .inl (k0, 4, .inr (.inr (.inr (.inr (va_up (va_up (va_up (va_up (fun _ => none) 0 (some h3)) 1 (some h4)) 2 (some h5)) 3 (some h6))))))), (h2, .inr (5, [.ref z4, .ref z5, .ref z6, .ref z7, .ref z8, .ref z9, .int 0, .int 0])), (h3, .inr (6, [.ref z10, .int 0])), (h4, .inr (6, [.ref z11, .int 0])), (h5, .inr (6, [.ref z12, .int 0])), (h6, .inr (6, [.ref z13, .int 0]))] t.heap ∧ va_K (dC, dI) vwCl [(k0, .object "Rewriterope$Text")] t ∧ va_D (va_A [(h0, .inr (7, [.ref h1, .ref h2, .ref z0, .ref z1, .ref z2, .ref z3, .int 0, .int 0, .int 0])), (h1, .inl (k0, 4, .inr (.inr (.inr (.inr (va_up (va_up (va_up (va_up (fun _ => none) 0 (some h3)) 1 (some h4)) 2 (some h5)) 3 (some h6))))))), (h2, .inr (5, [.ref z4, .ref z5, .ref z6, .ref z7, .ref z8, .ref z9, .int 0, .int 0])), (h3, .inr (6, [.ref z10, .int 0])), (h4, .inr (6, [.ref z11, .int 0])), (h5, .inr (6, [.ref z12, .int 0])), (h6, .inr (6, [.ref z13, .int 0]))] sz) [(h0, .inr (7, [.ref h1, .ref h2, .ref z0, .ref z1, .ref z2, .ref z3, .int 0, .int 0, .int 0])), (h1, .inl (k0, 4, .inr (.inr (.inr (.inr (va_up (va_up (va_up (va_up (fun _ => none) 0 (some h3)) 1 (some h4)) 2 (some h5)) 3 (some h6))))))), (h2, .inr (5, [.ref z4, .ref z5, .ref z6, .ref z7, .ref z8, .ref z9, .int 0, .int 0])), (h3, .inr (6, [.ref z10, .int 0])), (h4, .inr (6, [.ref z11, .int 0])), (h5, .inr (6, [.ref z12, .int 0])), (h6, .inr (6, [.ref z13, .int 0]))]) (va_A [(h0, .inr (7, [.ref h1, .ref h2, .ref z0, .ref z1, .ref z2, .ref z3, .int 0, .int 0, .int 0])), (h1, .inl (k0, 4, .inr (.inr (.inr (.inr (va_up (va_up (va_up (va_up (fun _ => none) 0 (some h3)) 1 (some h4)) 2 (some h5)) 3 (some h6))))))), (h2, .inr (5, [.ref z4, .ref z5, .ref z6, .ref z7, .ref z8, .ref z9, .int 0, .int 0])), (h3, .inr (6, [.ref z10, .int 0])), (h4, .inr (6, [.ref z11, .int 0])), (h5, .inr (6, [.ref z12, .int 0])), (h6, .inr (6, [.ref z13, .int 0]))] sz)) 0 0 (va_A [(h0, .inr (7, [.ref h1, .ref h2, .ref z0, .ref z1, .ref z2, .ref z3, .int 0, .int 0, .int 0])), (h1, .inl (k0, 4, .inr (.inr (.inr (.inr (va_up (va_up (va_up (va_up (fun _ => none) 0 (some h3)) 1 (some h4)) 2 (some h5)) 3 (some h6))))))), (h2, .inr (5, [.ref z4, .ref z5, .ref z6, .ref z7, .ref z8, .ref z9, .int 0, .int 0])), (h3, .inr (6, [.ref z10, .int 0])), (h4, .inr (6, [.ref z11, .int 0])), (h5, .inr (6, [.ref z12, .int 0])), (h6, .inr (6, [.ref z13, .int 0]))] sz) := by
  refine Met.ofW (cc := cX3_run) (maxL := 5) (ret := (some .int)) (by decide) rfl ?_
  intro p e s m args below meth c s₁ B hml hv
  obtain ⟨rfl, hsz, hP, hK, hD0⟩ := hv
  have hx := B.exec
  have hb := B.bytes
  have hr := B.returns
  have hts := atoms_spec (ws := wsX3_run) B.pre
  have hown : s.vm.findClass RX3 = some m.cls := findClass_of_methodNamed B.named
  have hlocks := B.notSynchronized
  subst hsz
  have hD := hD0.self (sz := s.heap.size)
  generalize hAe : va_A [(h0, .inr (7, [.ref h1, .ref h2, .ref z0, .ref z1, .ref z2, .ref z3, .int 0, .int 0, .int 0])), (h1, .inl (k0, 4, .inr (.inr (.inr (.inr (va_up (va_up (va_up (va_up (fun _ => none) 0 (some h3)) 1 (some h4)) 2 (some h5)) 3 (some h6))))))), (h2, .inr (5, [.ref z4, .ref z5, .ref z6, .ref z7, .ref z8, .ref z9, .int 0, .int 0])), (h3, .inr (6, [.ref z10, .int 0])), (h4, .inr (6, [.ref z11, .int 0])), (h5, .inr (6, [.ref z12, .int 0])), (h6, .inr (6, [.ref z13, .int 0]))] s.heap.size = A at hD ⊢
  have hA : ∀ q : Nat, s.heap.size ≤ q → A q := fun q h => by rw [← hAe]; exact Or.inr h
  have hS : va_S A s.heap s.heap [] := va_S.rf
  have hP : va_P (dC, dI) vwCl [(h0, .inr (7, [.ref h1, .ref h2, .ref z0, .ref z1, .ref z2, .ref z3, .int 0, .int 0, .int 0])), (h1, .inl (k0, 4, .inr (.inr (.inr (.inr (va_up (va_up (va_up (va_up (fun _ => none) 0 (some h3)) 1 (some h4)) 2 (some h5)) 3 (some h6))))))), (h2, .inr (5, [.ref z4, .ref z5, .ref z6, .ref z7, .ref z8, .ref z9, .int 0, .int 0])), (h3, .inr (6, [.ref z10, .int 0])), (h4, .inr (6, [.ref z11, .int 0])), (h5, .inr (6, [.ref z12, .int 0])), (h6, .inr (6, [.ref z13, .int 0]))] s.heap := hP
  have hl := lv_entry ([.ref h0, .int 3, .int i0, .int i1]) (n := 5) (Nat.le_of_ble_eq_true rfl)
  rw [lg_entry_eq]
  generalize (lg_sl ([.ref h0, .int 3, .int i0, .int i1]) ++ List.replicate (5 - (lg_sl ([.ref h0, .int 3, .int i0, .int i1])).length) Slot.unset).toArray = ls at hl ⊢
  have hl : lv_has ls 5 [(0, .ref h0), (1, .int 3), (2, .int i0), (3, .int i1)] := hl
  refine lv_iload_n hx hb dX3_run_0 rfl (lv_at hl 1 rfl) ?_
  have hPc := hP.sub (ws' := []) [] rfl
  have hDc := hD.sub (ws' := []) [] (by decide) rfl
  have hKc := hK.sub (tys' := []) [] rfl
  have hFc := va_free (wc := []) hD hS hA [] rfl
  refine va_callv (va_runS (As := [.int 3]) (rest := []) ⟨hx, hb, hml, hown, hts⟩ (kx_X3_needRope_3 l dC dI s.heap.size) (cwS 1 hts gX3_run_X3_needRope rfl rfl rfl (by decide +kernel) ⟨Nat.le_of_ble_eq_true rfl, Nat.le_of_ble_eq_true rfl⟩) ⟨fun a U g mk q => by obtain ⟨q0, q1, qP, qK, qD⟩ := q; exact ⟨q0, q1, qP, va_K.moved (u := U) (U := U.calling g mk a) (Vm.Alike.refl U.vm) qK, qD⟩, fun U hU hW => ⟨rfl, by rw [hU], by rw [hU]; exact hPc, va_K.moved hW.alike hKc, hDc.weaken (fun _ _ _ _ => trivial)⟩⟩ rfl rfl hl.1 rfl (lv_room (Nat.le_of_ble_eq_true rfl)) dX3_run_1 ⟨Nat.le_of_ble_eq_true rfl, Nat.le_of_ble_eq_true rfl⟩) hS (fun q _ h => hFc q h) hFc (fun u t H1 locs ht hvm hw hB hz1 hk1 hS => ?_)
  obtain ⟨hP1, hK1, hD1⟩ := hB
  rw [ht] at hP1
  have hK1 := va_K.moved hvm.symm hK1
  obtain ⟨hP, hD⟩ := va_join (wr := [(h0, .inr (7, [.ref h1, .ref h2, .ref z0, .ref z1, .ref z2, .ref z3, .int 0, .int 0, .int 0])), (h1, .inl (k0, 4, .inr (.inr (.inr (.inr (va_up (va_up (va_up (va_up (fun _ => none) 0 (some h3)) 1 (some h4)) 2 (some h5)) 3 (some h6))))))), (h2, .inr (5, [.ref z4, .ref z5, .ref z6, .ref z7, .ref z8, .ref z9, .int 0, .int 0])), (h3, .inr (6, [.ref z10, .int 0])), (h4, .inr (6, [.ref z11, .int 0])), (h5, .inr (6, [.ref z12, .int 0])), (h6, .inr (6, [.ref z13, .int 0]))]) (w1 := []) hP hD [] [0, 1, 2, 3, 4, 5, 6] rfl rfl (by decide) (by decide) hk1 hFc hP1 hD1
  generalize H1 = H at hP hS ⊢
  have hP : va_P (dC, dI) vwCl [(h0, .inr (7, [.ref h1, .ref h2, .ref z0, .ref z1, .ref z2, .ref z3, .int 0, .int 0, .int 0])), (h1, .inl (k0, 4, .inr (.inr (.inr (.inr (va_up (va_up (va_up (va_up (fun _ => none) 0 (some h3)) 1 (some h4)) 2 (some h5)) 3 (some h6))))))), (h2, .inr (5, [.ref z4, .ref z5, .ref z6, .ref z7, .ref z8, .ref z9, .int 0, .int 0])), (h3, .inr (6, [.ref z10, .int 0])), (h4, .inr (6, [.ref z11, .int 0])), (h5, .inr (6, [.ref z12, .int 0])), (h6, .inr (6, [.ref z13, .int 0]))] H := hP
  have hD : va_D A [(h0, .inr (7, [.ref h1, .ref h2, .ref z0, .ref z1, .ref z2, .ref z3, .int 0, .int 0, .int 0])), (h1, .inl (k0, 4, .inr (.inr (.inr (.inr (va_up (va_up (va_up (va_up (fun _ => none) 0 (some h3)) 1 (some h4)) 2 (some h5)) 3 (some h6))))))), (h2, .inr (5, [.ref z4, .ref z5, .ref z6, .ref z7, .ref z8, .ref z9, .int 0, .int 0])), (h3, .inr (6, [.ref z10, .int 0])), (h4, .inr (6, [.ref z11, .int 0])), (h5, .inr (6, [.ref z12, .int 0])), (h6, .inr (6, [.ref z13, .int 0]))] := hD
  refine lv_iload_n hx hb dX3_run_4 rfl (lv_at hl 2 rfl) ?_
  have hPc := hP.sub (ws' := []) [] rfl
  have hDc := hD.sub (ws' := []) [] (by decide) rfl
  have hKc := hK.sub (tys' := []) [] rfl
  have hFc := va_free (wc := []) hD hS hA [] rfl
  refine va_callv (va_runS (As := [.int i0]) (rest := []) ⟨hx, hb, hml, hown, hts⟩ (kx_X3_needWay_0 l dC dI H.size i0 i0_l i0_u) (cwS 1 hts gX3_run_X3_needWay rfl rfl rfl (by decide +kernel) ⟨Nat.le_of_ble_eq_true rfl, Nat.le_of_ble_eq_true rfl⟩) ⟨fun a U g mk q => by obtain ⟨q0, q1, qP, qK, qD⟩ := q; exact ⟨q0, q1, qP, va_K.moved (u := U) (U := U.calling g mk a) (Vm.Alike.refl U.vm) qK, qD⟩, fun U hU hW => ⟨rfl, by rw [hU], by rw [hU]; exact hPc, va_K.moved hW.alike hKc, hDc.weaken (fun _ _ _ _ => trivial)⟩⟩ rfl rfl hl.1 rfl (lv_room (Nat.le_of_ble_eq_true rfl)) dX3_run_5 ⟨Nat.le_of_ble_eq_true rfl, Nat.le_of_ble_eq_true rfl⟩) hS (fun q _ h => hFc q h) hFc (fun u t H1 locs ht hvm hw hB hz1 hk1 hS => ?_)
  obtain ⟨hP1, hK1, hD1⟩ := hB
  rw [ht] at hP1
  have hK1 := va_K.moved hvm.symm hK1
  obtain ⟨hP, hD⟩ := va_join (wr := [(h0, .inr (7, [.ref h1, .ref h2, .ref z0, .ref z1, .ref z2, .ref z3, .int 0, .int 0, .int 0])), (h1, .inl (k0, 4, .inr (.inr (.inr (.inr (va_up (va_up (va_up (va_up (fun _ => none) 0 (some h3)) 1 (some h4)) 2 (some h5)) 3 (some h6))))))), (h2, .inr (5, [.ref z4, .ref z5, .ref z6, .ref z7, .ref z8, .ref z9, .int 0, .int 0])), (h3, .inr (6, [.ref z10, .int 0])), (h4, .inr (6, [.ref z11, .int 0])), (h5, .inr (6, [.ref z12, .int 0])), (h6, .inr (6, [.ref z13, .int 0]))]) (w1 := []) hP hD [] [0, 1, 2, 3, 4, 5, 6] rfl rfl (by decide) (by decide) hk1 hFc hP1 hD1
  generalize H1 = H at hP hS ⊢
  have hP : va_P (dC, dI) vwCl [(h0, .inr (7, [.ref h1, .ref h2, .ref z0, .ref z1, .ref z2, .ref z3, .int 0, .int 0, .int 0])), (h1, .inl (k0, 4, .inr (.inr (.inr (.inr (va_up (va_up (va_up (va_up (fun _ => none) 0 (some h3)) 1 (some h4)) 2 (some h5)) 3 (some h6))))))), (h2, .inr (5, [.ref z4, .ref z5, .ref z6, .ref z7, .ref z8, .ref z9, .int 0, .int 0])), (h3, .inr (6, [.ref z10, .int 0])), (h4, .inr (6, [.ref z11, .int 0])), (h5, .inr (6, [.ref z12, .int 0])), (h6, .inr (6, [.ref z13, .int 0]))] H := hP
  have hD : va_D A [(h0, .inr (7, [.ref h1, .ref h2, .ref z0, .ref z1, .ref z2, .ref z3, .int 0, .int 0, .int 0])), (h1, .inl (k0, 4, .inr (.inr (.inr (.inr (va_up (va_up (va_up (va_up (fun _ => none) 0 (some h3)) 1 (some h4)) 2 (some h5)) 3 (some h6))))))), (h2, .inr (5, [.ref z4, .ref z5, .ref z6, .ref z7, .ref z8, .ref z9, .int 0, .int 0])), (h3, .inr (6, [.ref z10, .int 0])), (h4, .inr (6, [.ref z11, .int 0])), (h5, .inr (6, [.ref z12, .int 0])), (h6, .inr (6, [.ref z13, .int 0]))] := hD
  refine lv_iload_n hx hb dX3_run_8 rfl (lv_at hl 3 rfl) ?_
  refine lv_iconst (v := 1) hx hb dX3_run_9 (by decide) ?_
  refine lv_icmp_lt (tgt := 19) hx hb dX3_run_10 (by decide) (fun c9 => absurd c9 (fun c8 => absurd (Int32.lt_iff_toInt_lt.mp c8) (by rw [show (1 : Int32).toInt = 1 from by decide]; omega))) (fun _ => ?_)
  refine lv_iload_n hx hb dX3_run_13 rfl (lv_at hl 3 rfl) ?_
  refine lv_bipush (v := 40) hx hb dX3_run_14 (by decide) ?_
  refine lv_icmp_le (tgt := 29) hx hb dX3_run_16 (by decide) (fun _ => ?_) (fun c9 => absurd (Int32.le_iff_toInt_le.mpr (by rw [show (40 : Int32).toInt = 40 from by decide]; omega)) c9)
  refine lv_aload_n hx hb dX3_run_29 rfl (lv_at hl 0 rfl) ?_
  refine va_get (D := (dC, dI)) (ci := 7) (v := .ref h2) (C := RX3) (T := TX3) (N := 9) hx hb hts (by decide +kernel) hown hK hP 0 rfl rfl 1 (by decide) (hts (.fieldLink RX3 18 "Rewriterope" "book" "LRewriterope$RuleBook;") (by decide +kernel)) (fun _ h9 => h9) rfl dX3_run_30 ?_
  refine lv_aload_n hx hb dX3_run_33 rfl (lv_at hl 0 rfl) ?_
  refine va_get (D := (dC, dI)) (ci := 7) (v := .ref h1) (C := RX3) (T := TX3) (N := 9) hx hb hts (by decide +kernel) hown hK hP 0 rfl rfl 0 (by decide) (hts (.fieldLink RX3 11 "Rewriterope" "ropes" "[LRewriterope$Text;") (by decide +kernel)) (fun _ h9 => h9) rfl dX3_run_34 ?_
  refine lv_iload_n hx hb dX3_run_37 rfl (lv_at hl 1 rfl) ?_
  refine va_aldq (D := (dC, dI)) hx hb hK hP 1 0 rfl rfl (by unfold vp_in; decide) dX3_run_38 ?_
  refine W.eq (g2 := F0 m 39 ls [.ref h6, .ref h2]) rfl ?_
  refine lv_iload_n hx hb dX3_run_39 rfl (lv_at hl 2 rfl) ?_
  refine lv_iload_n hx hb dX3_run_40 rfl (lv_at hl 3 rfl) ?_
  have hPc := hP.sub (ws' := [(h2, .inr (5, [.ref z4, .ref z5, .ref z6, .ref z7, .ref z8, .ref z9, .int 0, .int 0])), (h6, .inr (6, [.ref z13, .int 0]))]) [2, 6] rfl
  have hDc := hD.sub (ws' := [(h2, .inr (5, [.ref z4, .ref z5, .ref z6, .ref z7, .ref z8, .ref z9, .int 0, .int 0])), (h6, .inr (6, [.ref z13, .int 0]))]) [2, 6] (by decide) rfl
  have hKc := hK.sub (tys' := []) [] rfl
  have hFc := va_free (wc := [(h2, .inr (5, [.ref z4, .ref z5, .ref z6, .ref z7, .ref z8, .ref z9, .int 0, .int 0])), (h6, .inr (6, [.ref z13, .int 0]))]) hD hS hA [2, 6] rfl
  refine va_calli (va_runV (As := [.ref h6, .int i0, .int i1]) (rest := []) ⟨hx, hb, hml, hown, hts⟩ (kx_X1_rewriteByWay_0 l dC dI h2 h6 z4 z5 z6 z7 z8 z9 z13 H.size i0 i0_l i0_u i1 i1_l i1_u) (cwV 3 hts gX3_run_X1_rewriteByWay rfl rfl rfl (by decide +kernel) ⟨Nat.le_of_ble_eq_true rfl, Nat.le_of_ble_eq_true rfl⟩) ⟨fun a U g mk q => by obtain ⟨q0, q1, qP, qK, qD⟩ := q; exact ⟨q0, q1, qP, va_K.moved (u := U) (U := U.calling g mk a) (Vm.Alike.refl U.vm) qK, qD⟩, va_recv hKc hPc (ci := 5) (q0 := 0) rfl rfl, fun U hU hW => ⟨rfl, by rw [hU], by rw [hU]; exact hPc, va_K.moved hW.alike hKc, hDc.weaken (fun _ _ _ _ => trivial)⟩⟩ rfl rfl hl.1 rfl (lv_room (Nat.le_of_ble_eq_true rfl)) dX3_run_41 ⟨Nat.le_of_ble_eq_true rfl, Nat.le_of_ble_eq_true rfl⟩) hS (fun q _ h => hFc q h) hFc (fun r9 u t H1 locs ht hvm hw hB hz1 hk1 hS => ?_)
  obtain rfl := hw
  obtain ⟨hP1, hK1, hD1⟩ := hB
  rw [ht] at hP1
  have hK1 := va_K.moved hvm.symm hK1
  obtain ⟨hP, hD⟩ := va_join (wr := [(h0, .inr (7, [.ref h1, .ref h2, .ref z0, .ref z1, .ref z2, .ref z3, .int 0, .int 0, .int 0])), (h1, .inl (k0, 4, .inr (.inr (.inr (.inr (va_up (va_up (va_up (va_up (fun _ => none) 0 (some h3)) 1 (some h4)) 2 (some h5)) 3 (some h6))))))), (h3, .inr (6, [.ref z10, .int 0])), (h4, .inr (6, [.ref z11, .int 0])), (h5, .inr (6, [.ref z12, .int 0]))]) (w1 := [(h2, .inr (5, [.ref z4, .ref z5, .ref z6, .ref z7, .ref z8, .ref z9, .int 0, .int 0])), (h6, .inr (6, [.ref z13, .int 0]))]) hP hD [2, 6] [0, 1, 3, 4, 5] rfl rfl (by decide) (by decide) hk1 hFc hP1 hD1
  generalize H1 = H at hP hS ⊢
  have hP : va_P (dC, dI) vwCl [(h0, .inr (7, [.ref h1, .ref h2, .ref z0, .ref z1, .ref z2, .ref z3, .int 0, .int 0, .int 0])), (h1, .inl (k0, 4, .inr (.inr (.inr (.inr (va_up (va_up (va_up (va_up (fun _ => none) 0 (some h3)) 1 (some h4)) 2 (some h5)) 3 (some h6))))))), (h3, .inr (6, [.ref z10, .int 0])), (h4, .inr (6, [.ref z11, .int 0])), (h5, .inr (6, [.ref z12, .int 0])), (h2, .inr (5, [.ref z4, .ref z5, .ref z6, .ref z7, .ref z8, .ref z9, .int 0, .int 0])), (h6, .inr (6, [.ref z13, .int 0]))] H := hP
  have hD : va_D A [(h0, .inr (7, [.ref h1, .ref h2, .ref z0, .ref z1, .ref z2, .ref z3, .int 0, .int 0, .int 0])), (h1, .inl (k0, 4, .inr (.inr (.inr (.inr (va_up (va_up (va_up (va_up (fun _ => none) 0 (some h3)) 1 (some h4)) 2 (some h5)) 3 (some h6))))))), (h3, .inr (6, [.ref z10, .int 0])), (h4, .inr (6, [.ref z11, .int 0])), (h5, .inr (6, [.ref z12, .int 0])), (h2, .inr (5, [.ref z4, .ref z5, .ref z6, .ref z7, .ref z8, .ref z9, .int 0, .int 0])), (h6, .inr (6, [.ref z13, .int 0]))] := hD
  refine lv_istore (lv' := [(4, .int 0), (0, .ref h0), (1, .int 3), (2, .int i0), (3, .int i1)]) hx hb dX3_run_44 hl (by decide) rfl (fun ls hl => ?_)
  refine lv_aload_n hx hb dX3_run_46 rfl (lv_at hl 1 rfl) ?_
  refine lv_dup hx hb dX3_run_47 rfl ?_
  refine va_get (D := (dC, dI)) (ci := 7) (v := .int 0) (C := RX3) (T := TX3) (N := 9) hx hb hts (by decide +kernel) hown hK hP 0 rfl rfl 8 (by decide) (hts (.fieldLink RX3 49 "Rewriterope" "stepsMade" "I") (by decide +kernel)) (fun _ h9 => h9) rfl dX3_run_48 ?_
  refine lv_iload hx hb dX3_run_51 (lv_at hl 0 rfl) ?_
  refine lv_iadd hx hb dX3_run_53 ?_
  refine lv_topi (fun y1 ey1 => ?_)
  obtain rfl : y1 = 0 := ey1.trans (by decide)
  refine va_put (D := (dC, dI)) (ci := 7) (v := .int 0) (ty := .int) (C := RX3) (T := TX3) (N := 9) hx hb hts (by decide +kernel) tyX3 tyX3_ok nmX3 hown hK hP hD hS 0 rfl rfl 8 (by decide) (hts (.fieldLink RX3 49 "Rewriterope" "stepsMade" "I") (by decide +kernel)) (fun _ h9 => h9) rfl (by decide +kernel) rfl rfl (Nat.le_of_ble_eq_true rfl) dX3_run_54 (fun H locs hP hD hS => ?_)
  have hP : va_P (dC, dI) vwCl [(h0, .inr (7, [.ref h1, .ref h2, .ref z0, .ref z1, .ref z2, .ref z3, .int 0, .int 0, .int 0])), (h1, .inl (k0, 4, .inr (.inr (.inr (.inr (va_up (va_up (va_up (va_up (fun _ => none) 0 (some h3)) 1 (some h4)) 2 (some h5)) 3 (some h6))))))), (h3, .inr (6, [.ref z10, .int 0])), (h4, .inr (6, [.ref z11, .int 0])), (h5, .inr (6, [.ref z12, .int 0])), (h2, .inr (5, [.ref z4, .ref z5, .ref z6, .ref z7, .ref z8, .ref z9, .int 0, .int 0])), (h6, .inr (6, [.ref z13, .int 0]))] H := hP
  have hD : va_D A [(h0, .inr (7, [.ref h1, .ref h2, .ref z0, .ref z1, .ref z2, .ref z3, .int 0, .int 0, .int 0])), (h1, .inl (k0, 4, .inr (.inr (.inr (.inr (va_up (va_up (va_up (va_up (fun _ => none) 0 (some h3)) 1 (some h4)) 2 (some h5)) 3 (some h6))))))), (h3, .inr (6, [.ref z10, .int 0])), (h4, .inr (6, [.ref z11, .int 0])), (h5, .inr (6, [.ref z12, .int 0])), (h2, .inr (5, [.ref z4, .ref z5, .ref z6, .ref z7, .ref z8, .ref z9, .int 0, .int 0])), (h6, .inr (6, [.ref z13, .int 0]))] := hD
  refine lv_iload hx hb dX3_run_57 (lv_at hl 0 rfl) ?_
  have hP := hP.sub (ws' := [(h0, .inr (7, [.ref h1, .ref h2, .ref z0, .ref z1, .ref z2, .ref z3, .int 0, .int 0, .int 0])), (h1, .inl (k0, 4, .inr (.inr (.inr (.inr (va_up (va_up (va_up (va_up (fun _ => none) 0 (some h3)) 1 (some h4)) 2 (some h5)) 3 (some h6))))))), (h2, .inr (5, [.ref z4, .ref z5, .ref z6, .ref z7, .ref z8, .ref z9, .int 0, .int 0])), (h3, .inr (6, [.ref z10, .int 0])), (h4, .inr (6, [.ref z11, .int 0])), (h5, .inr (6, [.ref z12, .int 0])), (h6, .inr (6, [.ref z13, .int 0]))]) [0, 1, 5, 2, 3, 4, 6] rfl
  have hD := hD.sub (ws' := [(h0, .inr (7, [.ref h1, .ref h2, .ref z0, .ref z1, .ref z2, .ref z3, .int 0, .int 0, .int 0])), (h1, .inl (k0, 4, .inr (.inr (.inr (.inr (va_up (va_up (va_up (va_up (fun _ => none) 0 (some h3)) 1 (some h4)) 2 (some h5)) 3 (some h6))))))), (h2, .inr (5, [.ref z4, .ref z5, .ref z6, .ref z7, .ref z8, .ref z9, .int 0, .int 0])), (h3, .inr (6, [.ref z10, .int 0])), (h4, .inr (6, [.ref z11, .int 0])), (h5, .inr (6, [.ref z12, .int 0])), (h6, .inr (6, [.ref z13, .int 0]))]) [0, 1, 5, 2, 3, 4, 6] (by decide) rfl
  exact W.iret (v := 0) hx hb hr (fun t ht hW => ⟨⟨0, (), rfl, rfl, by rw [ht]; exact hP, va_K.moved hW.alike hK, hD⟩, hS.F ht⟩) hS.2.2 dX3_run_59
set_option maxHeartbeats 4000000 in
set_option maxRecDepth 100000 in
theorem kx_X3_run_s0 (l : Launch) (dC : Nat → ClassId) (dI : Nat → Nat → Nat) (h0 : Nat) (h1 : Nat) (h2 : Nat) (h3 : Nat) (h4 : Nat) (h5 : Nat) (h6 : Nat) (z0 : Nat) (z1 : Nat) (z2 : Nat) (z3 : Nat) (z4 : Nat) (z5 : Nat) (z6 : Nat) (z7 : Nat) (z8 : Nat) (z9 : Nat) (z10 : Nat) (z11 : Nat) (z12 : Nat) (z13 : Nat) (k0 : ClassId) (sz : Nat) (i0 : Int32) (i0_l : (0 : Int) ≤ i0.toInt) (i0_u : i0.toInt ≤ (2 : Int)) (i1 : Int32) (i1_l : (1 : Int) ≤ i1.toInt) (i1_u : i1.toInt ≤ (40 : Int)) (j2 : Int32) (j2_l : (0 : Int) ≤ j2.toInt) (j2_u : j2.toInt ≤ (3 : Int)) : Met l yX3_run wsX3_run ({ frames := 4, cells := 0, slots := 0, locals := 91 }) (va_Pc [.ref h0, .int j2, .int i0, .int i1] (fun U => U.heap.size = sz ∧ va_P (dC, dI) vwCl [(h0, .inr (7, [.ref h1, .ref h2, .ref z0, .ref z1, .ref z2, .ref z3, .int 0, .int 0, .int 0])), (h1, .inl (k0, 4, .inr (.inr (.inr (.inr (va_up (va_up (va_up (va_up (fun _ => none) 0 (some h3)) 1 (some h4)) 2 (some h5)) 3 (some h6))))))), (h2, .inr (5, [.ref z4, .ref z5, .ref z6, .ref z7, .ref z8, .ref z9, .int 0, .int 0])), (h3, .inr (6, [.ref z10, .int 0])), (h4, .inr (6, [.ref z11, .int 0])), (h5, .inr (6, [.ref z12, .int 0])), (h6, .inr (6, [.ref z13, .int 0]))] U.heap ∧ va_K (dC, dI) vwCl [(k0, .object "Rewriterope$Text")] U ∧ va_D (fun _ => True) [(h0, .inr (7, [.ref h1, .ref h2, .ref z0, .ref z1, .ref z2, .ref z3, .int 0, .int 0, .int 0])), (h1, .inl (k0, 4, .inr (.inr (.inr (.inr (va_up (va_up (va_up (va_up (fun _ => none) 0 (some h3)) 1 (some h4)) 2 (some h5)) 3 (some h6))))))), (h2, .inr (5, [.ref z4, .ref z5, .ref z6, .ref z7, .ref z8, .ref z9, .int 0, .int 0])), (h3, .inr (6, [.ref z10, .int 0])), (h4, .inr (6, [.ref z11, .int 0])), (h5, .inr (6, [.ref z12, .int 0])), (h6, .inr (6, [.ref z13, .int 0]))])) (va_Qi (fun (r : Int32) (_ : Unit) => r = 0) (fun (_ : Unit) (t : State) => va_P (dC, dI) vwCl [(h0, .inr (7, [.ref h1, .ref h2, .ref z0, .ref z1, .ref z2, .ref z3, .int 0, .int 0, .int 0])), (h1, .inl (k0, 4, .inr (.inr (.inr (.inr (va_up (va_up (va_up (va_up (fun _ => none) 0 (some h3)) 1 (some h4)) 2 (some h5)) 3 (some h6))))))), (h2, .inr (5, [.ref z4, .ref z5, .ref z6, .ref z7, .ref z8, .ref z9, .int 0, .int 0])), (h3, .inr (6, [.ref z10, .int 0])), (h4, .inr (6, [.ref z11, .int 0])), (h5, .inr (6, [.ref z12, .int 0])), (h6, .inr (6, [.ref z13, .int 0]))] t.heap ∧ va_K (dC, dI) vwCl [(k0, .object "Rewriterope$Text")] t ∧ va_D (va_A [(h0, .inr (7, [.ref h1, .ref h2, .ref z0, .ref z1, .ref z2, .ref z3, .int 0, .int 0, .int 0])), (h1, .inl (k0, 4, .inr (.inr (.inr (.inr (va_up (va_up (va_up (va_up (fun _ => none) 0 (some h3)) 1 (some h4)) 2 (some h5)) 3 (some h6))))))), (h2, .inr (5, [.ref z4, .ref z5, .ref z6, .ref z7, .ref z8, .ref z9, .int 0, .int 0])), (h3, .inr (6, [.ref z10, .int 0])), (h4, .inr (6, [.ref z11, .int 0])), (h5, .inr (6, [.ref z12, .int 0])), (h6, .inr (6, [.ref z13, .int 0]))] sz) [(h0, .inr (7, [.ref h1, .ref h2, .ref z0, .ref z1, .ref z2, .ref z3, .int 0, .int 0, .int 0])), (h1, .inl (k0, 4, .inr (.inr (.inr (.inr (va_up (va_up (va_up (va_up (fun _ => none) 0 (some h3)) 1 (some h4)) 2 (some h5)) 3 (some h6))))))), (h2, .inr (5, [.ref z4, .ref z5, .ref z6, .ref z7, .ref z8, .ref z9, .int 0, .int 0])), (h3, .inr (6, [.ref z10, .int 0])), (h4, .inr (6, [.ref z11, .int 0])), (h5, .inr (6, [.ref z12, .int 0])), (h6, .inr (6, [.ref z13, .int 0]))]) (va_A [(h0, .inr (7, [.ref h1, .ref h2, .ref z0, .ref z1, .ref z2, .ref z3, .int 0, .int 0, .int 0])), (h1, .inl (k0, 4, .inr (.inr (.inr (.inr (va_up (va_up (va_up (va_up (fun _ => none) 0 (some h3)) 1 (some h4)) 2 (some h5)) 3 (some h6))))))), (h2, .inr (5, [.ref z4, .ref z5, .ref z6, .ref z7, .ref z8, .ref z9, .int 0, .int 0])), (h3, .inr (6, [.ref z10, .int 0])), (h4, .inr (6, [.ref z11, .int 0])), (h5, .inr (6, [.ref z12, .int 0])), (h6, .inr (6, [.ref z13, .int 0]))] sz)) 0 0 (va_A [(h0, .inr (7, [.ref h1, .ref h2, .ref z0, .ref z1, .ref z2, .ref z3, .int 0, .int 0, .int 0])), (h1, .inl (k0, 4, .inr (.inr (.inr (.inr (va_up (va_up (va_up (va_up (fun _ => none) 0 (some h3)) 1 (some h4)) 2 (some h5)) 3 (some h6))))))), (h2, .inr (5, [.ref z4, .ref z5, .ref z6, .ref z7, .ref z8, .ref z9, .int 0, .int 0])), (h3, .inr (6, [.ref z10, .int 0])), (h4, .inr (6, [.ref z11, .int 0])), (h5, .inr (6, [.ref z12, .int 0])), (h6, .inr (6, [.ref z13, .int 0]))] sz) := by
  have e9 : j2 = 0 ∨ j2 = 1 ∨ j2 = 2 ∨ j2 = 3 := by
    have h9 : j2.toInt = 0 ∨ j2.toInt = 1 ∨ j2.toInt = 2 ∨ j2.toInt = 3 := by omega
    rcases h9 with h9 | h9 | h9 | h9
    · exact Or.inl (Int32.toInt_inj.mp (h9.trans (by decide)))
    · exact Or.inr (Or.inl (Int32.toInt_inj.mp (h9.trans (by decide))))
    · exact Or.inr (Or.inr (Or.inl (Int32.toInt_inj.mp (h9.trans (by decide)))))
    · exact Or.inr (Or.inr (Or.inr (Int32.toInt_inj.mp (h9.trans (by decide)))))
  rcases e9 with rfl | rfl | rfl | rfl
  · exact kx_X3_run_7 l dC dI h0 h1 h2 h3 h4 h5 h6 z0 z1 z2 z3 z4 z5 z6 z7 z8 z9 z10 z11 z12 z13 k0 sz i0 i0_l i0_u i1 i1_l i1_u
  · exact kx_X3_run_8 l dC dI h0 h1 h2 h3 h4 h5 h6 z0 z1 z2 z3 z4 z5 z6 z7 z8 z9 z10 z11 z12 z13 k0 sz i0 i0_l i0_u i1 i1_l i1_u
  · exact kx_X3_run_9 l dC dI h0 h1 h2 h3 h4 h5 h6 z0 z1 z2 z3 z4 z5 z6 z7 z8 z9 z10 z11 z12 z13 k0 sz i0 i0_l i0_u i1 i1_l i1_u
  · exact kx_X3_run_10 l dC dI h0 h1 h2 h3 h4 h5 h6 z0 z1 z2 z3 z4 z5 z6 z7 z8 z9 z10 z11 z12 z13 k0 sz i0 i0_l i0_u i1 i1_l i1_u
set_option maxHeartbeats 4000000 in
set_option maxRecDepth 100000 in
theorem kx_L_run_7 (l : Launch) (dC : Nat → ClassId) (dI : Nat → Nat → Nat) (ge5 gea gv5 gva gde gic gi0 : Nat) (h0 : Nat) (h1 : Nat) (h2 : Nat) (h3 : Nat) (h4 : Nat) (h5 : Nat) (h6 : Nat) (h7 : Nat) (z0 : Nat) (z1 : Nat) (z2 : Nat) (z3 : Nat) (z4 : Nat) (z5 : Nat) (z6 : Nat) (z7 : Nat) (z8 : Nat) (z9 : Nat) (z10 : Nat) (z11 : Nat) (z12 : Nat) (z13 : Nat) (k0 : ClassId) (sz : Nat) (i0 : Int32) (i0_l : (0 : Int) ≤ i0.toInt) (i0_u : i0.toInt ≤ (3 : Int)) (i1 : Int32) (i1_l : (0 : Int) ≤ i1.toInt) (i1_u : i1.toInt ≤ (2 : Int)) (i2 : Int32) (i2_l : (1 : Int) ≤ i2.toInt) (i2_u : i2.toInt ≤ (40 : Int)) : Met l yL_run wsL_run ({ frames := 5, cells := 0, slots := 0, locals := 115 }) (va_Pc [.ref h0, .int i0, .int i1, .int i2, .ref h7] (fun U => U.heap.size = sz ∧ va_P (dC, dI) vwCl [(h0, .inr (7, [.ref h1, .ref h2, .ref z0, .ref z1, .ref z2, .ref z3, .int 0, .int 0, .int 0])), (h1, .inl (k0, 4, .inr (.inr (.inr (.inr (va_up (va_up (va_up (va_up (fun _ => none) 0 (some h3)) 1 (some h4)) 2 (some h5)) 3 (some h6))))))), (h2, .inr (5, [.ref z4, .ref z5, .ref z6, .ref z7, .ref z8, .ref z9, .int 0, .int 0])), (h3, .inr (6, [.ref z10, .int 0])), (h4, .inr (6, [.ref z11, .int 0])), (h5, .inr (6, [.ref z12, .int 0])), (h6, .inr (6, [.ref z13, .int 0])), (h7, .inr (8, [.long 0, .null]))] U.heap ∧ va_K (dC, dI) vwCl [(k0, .object "Rewriterope$Text")] U ∧ va_D (fun _ => True) [(h0, .inr (7, [.ref h1, .ref h2, .ref z0, .ref z1, .ref z2, .ref z3, .int 0, .int 0, .int 0])), (h1, .inl (k0, 4, .inr (.inr (.inr (.inr (va_up (va_up (va_up (va_up (fun _ => none) 0 (some h3)) 1 (some h4)) 2 (some h5)) 3 (some h6))))))), (h2, .inr (5, [.ref z4, .ref z5, .ref z6, .ref z7, .ref z8, .ref z9, .int 0, .int 0])), (h3, .inr (6, [.ref z10, .int 0])), (h4, .inr (6, [.ref z11, .int 0])), (h5, .inr (6, [.ref z12, .int 0])), (h6, .inr (6, [.ref z13, .int 0])), (h7, .inr (8, [.long 0, .null]))] ∧ gv ge5 gea gv5 gva gde gic gi0 (va_A [(h0, .inr (7, [.ref h1, .ref h2, .ref z0, .ref z1, .ref z2, .ref z3, .int 0, .int 0, .int 0])), (h1, .inl (k0, 4, .inr (.inr (.inr (.inr (va_up (va_up (va_up (va_up (fun _ => none) 0 (some h3)) 1 (some h4)) 2 (some h5)) 3 (some h6))))))), (h2, .inr (5, [.ref z4, .ref z5, .ref z6, .ref z7, .ref z8, .ref z9, .int 0, .int 0])), (h3, .inr (6, [.ref z10, .int 0])), (h4, .inr (6, [.ref z11, .int 0])), (h5, .inr (6, [.ref z12, .int 0])), (h6, .inr (6, [.ref z13, .int 0])), (h7, .inr (8, [.long 0, .null]))] sz) U U.heap)) (va_Qi (fun (r : Int32) (_ : Unit) => r = 0) (fun (_ : Unit) (t : State) => va_P (dC, dI) vwCl [(h0, .inr (7, [.ref h1, .ref h2, .ref z0, .ref z1, .ref z2, .ref z3, .int 0, .int 0, .int 0])), (h1, .inl (k0, 4, .inr (.inr (.inr (.inr (va_up (va_up (va_up (va_up (fun _ => none) 0 (some h3)) 1 (some h4)) 2 (some h5)) 3 (some h6))))))), (h2, .inr (5, [.ref z4, .ref z5, .ref z6, .ref z7, .ref z8, .ref z9, .int 0, .int 0])), (h3, .inr (6, [.ref z10, .int 0])), (h4, .inr (6, [.ref z11, .int 0])), (h5, .inr (6, [.ref z12, .int 0])), (h6, .inr (6, [.ref z13, .int 0])), (h7, .inr (8, [.long 0, .null]))] t.heap ∧ va_K (dC, dI) vwCl [(k0, .object "Rewriterope$Text")] t ∧ va_D (va_A [(h0, .inr (7, [.ref h1, .ref h2, .ref z0, .ref z1, .ref z2, .ref z3, .int 0, .int 0, .int 0])), (h1, .inl (k0, 4, .inr (.inr (.inr (.inr (va_up (va_up (va_up (va_up (fun _ => none) 0 (some h3)) 1 (some h4)) 2 (some h5)) 3 (some h6))))))), (h2, .inr (5, [.ref z4, .ref z5, .ref z6, .ref z7, .ref z8, .ref z9, .int 0, .int 0])), (h3, .inr (6, [.ref z10, .int 0])), (h4, .inr (6, [.ref z11, .int 0])), (h5, .inr (6, [.ref z12, .int 0])), (h6, .inr (6, [.ref z13, .int 0])), (h7, .inr (8, [.long 0, .null]))] sz) [(h0, .inr (7, [.ref h1, .ref h2, .ref z0, .ref z1, .ref z2, .ref z3, .int 0, .int 0, .int 0])), (h1, .inl (k0, 4, .inr (.inr (.inr (.inr (va_up (va_up (va_up (va_up (fun _ => none) 0 (some h3)) 1 (some h4)) 2 (some h5)) 3 (some h6))))))), (h2, .inr (5, [.ref z4, .ref z5, .ref z6, .ref z7, .ref z8, .ref z9, .int 0, .int 0])), (h3, .inr (6, [.ref z10, .int 0])), (h4, .inr (6, [.ref z11, .int 0])), (h5, .inr (6, [.ref z12, .int 0])), (h6, .inr (6, [.ref z13, .int 0])), (h7, .inr (8, [.long 0, .null]))]) (va_A [(h0, .inr (7, [.ref h1, .ref h2, .ref z0, .ref z1, .ref z2, .ref z3, .int 0, .int 0, .int 0])), (h1, .inl (k0, 4, .inr (.inr (.inr (.inr (va_up (va_up (va_up (va_up (fun _ => none) 0 (some h3)) 1 (some h4)) 2 (some h5)) 3 (some h6))))))), (h2, .inr (5, [.ref z4, .ref z5, .ref z6, .ref z7, .ref z8, .ref z9, .int 0, .int 0])), (h3, .inr (6, [.ref z10, .int 0])), (h4, .inr (6, [.ref z11, .int 0])), (h5, .inr (6, [.ref z12, .int 0])), (h6, .inr (6, [.ref z13, .int 0])), (h7, .inr (8, [.long 0, .null]))] sz)) 0 0 (va_A [(h0, .inr (7, [.ref h1, .ref h2, .ref z0, .ref z1, .ref z2, .ref z3, .int 0, .int 0, .int 0])), (h1, .inl (k0, 4, .inr (.inr (.inr (.inr (va_up (va_up (va_up (va_up (fun _ => none) 0 (some h3)) 1 (some h4)) 2 (some h5)) 3 (some h6))))))), (h2, .inr (5, [.ref z4, .ref z5, .ref z6, .ref z7, .ref z8, .ref z9, .int 0, .int 0])), (h3, .inr (6, [.ref z10, .int 0])), (h4, .inr (6, [.ref z11, .int 0])), (h5, .inr (6, [.ref z12, .int 0])), (h6, .inr (6, [.ref z13, .int 0])), (h7, .inr (8, [.long 0, .null]))] sz) := by
  refine kz_ofWH (cc := cL_run) (maxL := 6) (ret := (some .int)) (hh := [(0, 13, 16, 19), (0, 13, 20, 21)]) (by decide) rfl ?_
  intro p e s m args below meth c s₁ B hml hv
  obtain ⟨rfl, hsz, hP, hK, hD0, hG⟩ := hv
  have hx := B.exec
  have hb := B.bytes
  have hr := B.returns
  have hts := atoms_spec (ws := wsL_run) B.pre
  have hown : s.vm.findClass RL = some m.cls := findClass_of_methodNamed B.named
  have htab := vx_table (x := yL_run) B (hts (.codeWith yL_run cL_run 6 (some .int) [(0, 13, 16, 19), (0, 13, 20, 21)]) (by decide +kernel))
  have hlocks := B.notSynchronized
  subst hsz
  have hD := hD0.self (sz := s.heap.size)
  generalize hAe : va_A [(h0, .inr (7, [.ref h1, .ref h2, .ref z0, .ref z1, .ref z2, .ref z3, .int 0, .int 0, .int 0])), (h1, .inl (k0, 4, .inr (.inr (.inr (.inr (va_up (va_up (va_up (va_up (fun _ => none) 0 (some h3)) 1 (some h4)) 2 (some h5)) 3 (some h6))))))), (h2, .inr (5, [.ref z4, .ref z5, .ref z6, .ref z7, .ref z8, .ref z9, .int 0, .int 0])), (h3, .inr (6, [.ref z10, .int 0])), (h4, .inr (6, [.ref z11, .int 0])), (h5, .inr (6, [.ref z12, .int 0])), (h6, .inr (6, [.ref z13, .int 0])), (h7, .inr (8, [.long 0, .null]))] s.heap.size = A at hD hG ⊢
  obtain ⟨⟨g_AO_Text, g_AO_String, g_AO_Object, g_nm_RX1_20, g_nm_RX0_17, g_nm_RX3_31, g_nm_RX2_44, g_nm_RL_121, g_nf_RL_13, g_nf_RL_47, g_ca_IO, g_ca_IA, g_ca_IS, g_ca_IntObj, g_ca_StrObj, g_de_RT, g_de_EX, g_de_TH, g_nc_IA_IO, g_nc_IS_IO, g_nc_IS_IA⟩, ⟨g_s3, g_s5, g_sa, g_x278, g_x280, g_x282, g_x284, g_x286, g_x180, g_x238, g_x250⟩, ⟨g_o5, g_c5, g_v5, g_t5, g_oa, g_ca, g_va, g_ta, g_zc, g_zd, g_td, g_zf, g_zU, g_zN, g_zh, g_zk, g_tk, g_oi, g_vi⟩⟩ := id hG
  have hA : ∀ q : Nat, s.heap.size ≤ q → A q := fun q h => by rw [← hAe]; exact Or.inr h
  have hS : va_S A s.heap s.heap [] := va_S.rf
  have hP : va_P (dC, dI) vwCl [(h0, .inr (7, [.ref h1, .ref h2, .ref z0, .ref z1, .ref z2, .ref z3, .int 0, .int 0, .int 0])), (h1, .inl (k0, 4, .inr (.inr (.inr (.inr (va_up (va_up (va_up (va_up (fun _ => none) 0 (some h3)) 1 (some h4)) 2 (some h5)) 3 (some h6))))))), (h2, .inr (5, [.ref z4, .ref z5, .ref z6, .ref z7, .ref z8, .ref z9, .int 0, .int 0])), (h3, .inr (6, [.ref z10, .int 0])), (h4, .inr (6, [.ref z11, .int 0])), (h5, .inr (6, [.ref z12, .int 0])), (h6, .inr (6, [.ref z13, .int 0])), (h7, .inr (8, [.long 0, .null]))] s.heap := hP
  have hl := lv_entry ([.ref h0, .int i0, .int i1, .int i2, .ref h7]) (n := 6) (Nat.le_of_ble_eq_true rfl)
  rw [lg_entry_eq]
  generalize (lg_sl ([.ref h0, .int i0, .int i1, .int i2, .ref h7]) ++ List.replicate (6 - (lg_sl ([.ref h0, .int i0, .int i1, .int i2, .ref h7])).length) Slot.unset).toArray = ls at hl ⊢
  have hl : lv_has ls 6 [(0, .ref h0), (1, .int i0), (2, .int i1), (3, .int i2), (4, .ref h7)] := hl
  refine lv_aload hx hb dL_run_0 (lv_at hl 4 rfl) ?_
  refine lv_aload_n hx hb dL_run_2 rfl (lv_at hl 0 rfl) ?_
  refine lv_iload_n hx hb dL_run_3 rfl (lv_at hl 1 rfl) ?_
  refine lv_iload_n hx hb dL_run_4 rfl (lv_at hl 2 rfl) ?_
  refine lv_iload_n hx hb dL_run_5 rfl (lv_at hl 3 rfl) ?_
  have hPc := hP.sub (ws' := [(h0, .inr (7, [.ref h1, .ref h2, .ref z0, .ref z1, .ref z2, .ref z3, .int 0, .int 0, .int 0])), (h1, .inl (k0, 4, .inr (.inr (.inr (.inr (va_up (va_up (va_up (va_up (fun _ => none) 0 (some h3)) 1 (some h4)) 2 (some h5)) 3 (some h6))))))), (h2, .inr (5, [.ref z4, .ref z5, .ref z6, .ref z7, .ref z8, .ref z9, .int 0, .int 0])), (h3, .inr (6, [.ref z10, .int 0])), (h4, .inr (6, [.ref z11, .int 0])), (h5, .inr (6, [.ref z12, .int 0])), (h6, .inr (6, [.ref z13, .int 0]))]) [0, 1, 2, 3, 4, 5, 6] rfl
  have hDc := hD.sub (ws' := [(h0, .inr (7, [.ref h1, .ref h2, .ref z0, .ref z1, .ref z2, .ref z3, .int 0, .int 0, .int 0])), (h1, .inl (k0, 4, .inr (.inr (.inr (.inr (va_up (va_up (va_up (va_up (fun _ => none) 0 (some h3)) 1 (some h4)) 2 (some h5)) 3 (some h6))))))), (h2, .inr (5, [.ref z4, .ref z5, .ref z6, .ref z7, .ref z8, .ref z9, .int 0, .int 0])), (h3, .inr (6, [.ref z10, .int 0])), (h4, .inr (6, [.ref z11, .int 0])), (h5, .inr (6, [.ref z12, .int 0])), (h6, .inr (6, [.ref z13, .int 0]))]) [0, 1, 2, 3, 4, 5, 6] (by decide) rfl
  have hKc := hK.sub (tys' := [(k0, .object "Rewriterope$Text")]) [0] rfl
  have hFc := va_free (wc := [(h0, .inr (7, [.ref h1, .ref h2, .ref z0, .ref z1, .ref z2, .ref z3, .int 0, .int 0, .int 0])), (h1, .inl (k0, 4, .inr (.inr (.inr (.inr (va_up (va_up (va_up (va_up (fun _ => none) 0 (some h3)) 1 (some h4)) 2 (some h5)) 3 (some h6))))))), (h2, .inr (5, [.ref z4, .ref z5, .ref z6, .ref z7, .ref z8, .ref z9, .int 0, .int 0])), (h3, .inr (6, [.ref z10, .int 0])), (h4, .inr (6, [.ref z11, .int 0])), (h5, .inr (6, [.ref z12, .int 0])), (h6, .inr (6, [.ref z13, .int 0]))]) hD hS hA [0, 1, 2, 3, 4, 5, 6] rfl
  refine va_calli (va_runV (As := [.int i0, .int i1, .int i2]) (rest := [.ref h7]) ⟨hx, hb, hml, hown, hts⟩ (kx_X3_run_s0 l dC dI h0 h1 h2 h3 h4 h5 h6 z0 z1 z2 z3 z4 z5 z6 z7 z8 z9 z10 z11 z12 z13 k0 s.heap.size i1 i1_l i1_u i2 i2_l i2_u i0 i0_l i0_u) (cwV 3 hts gL_run_X3_run rfl rfl rfl (by decide +kernel) ⟨Nat.le_of_ble_eq_true rfl, Nat.le_of_ble_eq_true rfl⟩) ⟨fun a U g mk q => by obtain ⟨q0, q1, qP, qK, qD⟩ := q; exact ⟨q0, q1, qP, va_K.moved (u := U) (U := U.calling g mk a) (Vm.Alike.refl U.vm) qK, qD⟩, va_recv hKc hPc (ci := 7) (q0 := 0) rfl rfl, fun U hU hW => ⟨rfl, by rw [hU], by rw [hU]; exact hPc, va_K.moved hW.alike hKc, hDc.weaken (fun _ _ _ _ => trivial)⟩⟩ rfl rfl hl.1 rfl (lv_room (Nat.le_of_ble_eq_true rfl)) dL_run_6 ⟨Nat.le_of_ble_eq_true rfl, Nat.le_of_ble_eq_true rfl⟩) hS (fun q _ h => hFc q h) hFc (fun r9 u t H1 locs ht hvm hw hB hz1 hk1 hS => ?_)
  obtain rfl := hw
  obtain ⟨hP1, hK1, hD1⟩ := hB
  rw [ht] at hP1
  have hK1 := va_K.moved hvm.symm hK1
  obtain ⟨hP, hD⟩ := va_join (wr := [(h7, .inr (8, [.long 0, .null]))]) (w1 := [(h0, .inr (7, [.ref h1, .ref h2, .ref z0, .ref z1, .ref z2, .ref z3, .int 0, .int 0, .int 0])), (h1, .inl (k0, 4, .inr (.inr (.inr (.inr (va_up (va_up (va_up (va_up (fun _ => none) 0 (some h3)) 1 (some h4)) 2 (some h5)) 3 (some h6))))))), (h2, .inr (5, [.ref z4, .ref z5, .ref z6, .ref z7, .ref z8, .ref z9, .int 0, .int 0])), (h3, .inr (6, [.ref z10, .int 0])), (h4, .inr (6, [.ref z11, .int 0])), (h5, .inr (6, [.ref z12, .int 0])), (h6, .inr (6, [.ref z13, .int 0]))]) hP hD [0, 1, 2, 3, 4, 5, 6] [7] rfl rfl (by decide) (by decide) hk1 hFc hP1 hD1
  generalize H1 = H at hP hS ⊢
  have hP : va_P (dC, dI) vwCl [(h7, .inr (8, [.long 0, .null])), (h0, .inr (7, [.ref h1, .ref h2, .ref z0, .ref z1, .ref z2, .ref z3, .int 0, .int 0, .int 0])), (h1, .inl (k0, 4, .inr (.inr (.inr (.inr (va_up (va_up (va_up (va_up (fun _ => none) 0 (some h3)) 1 (some h4)) 2 (some h5)) 3 (some h6))))))), (h2, .inr (5, [.ref z4, .ref z5, .ref z6, .ref z7, .ref z8, .ref z9, .int 0, .int 0])), (h3, .inr (6, [.ref z10, .int 0])), (h4, .inr (6, [.ref z11, .int 0])), (h5, .inr (6, [.ref z12, .int 0])), (h6, .inr (6, [.ref z13, .int 0]))] H := hP
  have hD : va_D A [(h7, .inr (8, [.long 0, .null])), (h0, .inr (7, [.ref h1, .ref h2, .ref z0, .ref z1, .ref z2, .ref z3, .int 0, .int 0, .int 0])), (h1, .inl (k0, 4, .inr (.inr (.inr (.inr (va_up (va_up (va_up (va_up (fun _ => none) 0 (some h3)) 1 (some h4)) 2 (some h5)) 3 (some h6))))))), (h2, .inr (5, [.ref z4, .ref z5, .ref z6, .ref z7, .ref z8, .ref z9, .int 0, .int 0])), (h3, .inr (6, [.ref z10, .int 0])), (h4, .inr (6, [.ref z11, .int 0])), (h5, .inr (6, [.ref z12, .int 0])), (h6, .inr (6, [.ref z13, .int 0]))] := hD
  refine lv_i2l (v := 0) hx hb dL_run_9 (by decide) ?_
  refine va_putN (D := (dC, dI)) (ci := 8) (v := .long 0) (ty := .long) (C := RX4) (T := TX4) (N := 2) hx hb hts (by decide +kernel) tyX4 tyX4_ok nmX4 hown hK hP hD hS 0 rfl rfl 0 (by decide) (va_Nw.use rfl g_nf_RL_13) (fun _ h9 => h9) rfl (by decide +kernel) rfl rfl (Nat.le_of_ble_eq_true rfl) dL_run_10 (fun H locs hP hD hS => ?_)
  have hP : va_P (dC, dI) vwCl [(h7, .inr (8, [.long 0, .null])), (h0, .inr (7, [.ref h1, .ref h2, .ref z0, .ref z1, .ref z2, .ref z3, .int 0, .int 0, .int 0])), (h1, .inl (k0, 4, .inr (.inr (.inr (.inr (va_up (va_up (va_up (va_up (fun _ => none) 0 (some h3)) 1 (some h4)) 2 (some h5)) 3 (some h6))))))), (h2, .inr (5, [.ref z4, .ref z5, .ref z6, .ref z7, .ref z8, .ref z9, .int 0, .int 0])), (h3, .inr (6, [.ref z10, .int 0])), (h4, .inr (6, [.ref z11, .int 0])), (h5, .inr (6, [.ref z12, .int 0])), (h6, .inr (6, [.ref z13, .int 0]))] H := hP
  have hD : va_D A [(h7, .inr (8, [.long 0, .null])), (h0, .inr (7, [.ref h1, .ref h2, .ref z0, .ref z1, .ref z2, .ref z3, .int 0, .int 0, .int 0])), (h1, .inl (k0, 4, .inr (.inr (.inr (.inr (va_up (va_up (va_up (va_up (fun _ => none) 0 (some h3)) 1 (some h4)) 2 (some h5)) 3 (some h6))))))), (h2, .inr (5, [.ref z4, .ref z5, .ref z6, .ref z7, .ref z8, .ref z9, .int 0, .int 0])), (h3, .inr (6, [.ref z10, .int 0])), (h4, .inr (6, [.ref z11, .int 0])), (h5, .inr (6, [.ref z12, .int 0])), (h6, .inr (6, [.ref z13, .int 0]))] := hD
  refine lv_goto (tgt := 24) hx hb dL_run_13 (by decide) ?_
  refine lv_iconst (v := 0) hx hb dL_run_24 (by decide) ?_
  have hP := hP.sub (ws' := [(h0, .inr (7, [.ref h1, .ref h2, .ref z0, .ref z1, .ref z2, .ref z3, .int 0, .int 0, .int 0])), (h1, .inl (k0, 4, .inr (.inr (.inr (.inr (va_up (va_up (va_up (va_up (fun _ => none) 0 (some h3)) 1 (some h4)) 2 (some h5)) 3 (some h6))))))), (h2, .inr (5, [.ref z4, .ref z5, .ref z6, .ref z7, .ref z8, .ref z9, .int 0, .int 0])), (h3, .inr (6, [.ref z10, .int 0])), (h4, .inr (6, [.ref z11, .int 0])), (h5, .inr (6, [.ref z12, .int 0])), (h6, .inr (6, [.ref z13, .int 0])), (h7, .inr (8, [.long 0, .null]))]) [1, 2, 3, 4, 5, 6, 7, 0] rfl
  have hD := hD.sub (ws' := [(h0, .inr (7, [.ref h1, .ref h2, .ref z0, .ref z1, .ref z2, .ref z3, .int 0, .int 0, .int 0])), (h1, .inl (k0, 4, .inr (.inr (.inr (.inr (va_up (va_up (va_up (va_up (fun _ => none) 0 (some h3)) 1 (some h4)) 2 (some h5)) 3 (some h6))))))), (h2, .inr (5, [.ref z4, .ref z5, .ref z6, .ref z7, .ref z8, .ref z9, .int 0, .int 0])), (h3, .inr (6, [.ref z10, .int 0])), (h4, .inr (6, [.ref z11, .int 0])), (h5, .inr (6, [.ref z12, .int 0])), (h6, .inr (6, [.ref z13, .int 0])), (h7, .inr (8, [.long 0, .null]))]) [1, 2, 3, 4, 5, 6, 7, 0] (by decide) rfl
  exact W.iret (v := 0) hx hb hr (fun t ht hW => ⟨⟨0, (), rfl, rfl, by rw [ht]; exact hP, va_K.moved hW.alike hK, hD⟩, hS.F ht⟩) hS.2.2 dL_run_25
set_option maxHeartbeats 4000000 in
set_option maxRecDepth 100000 in
theorem kx_X5_isIn_25 (l : Launch) (dC : Nat → ClassId) (dI : Nat → Nat → Nat) (sz : Nat) (i0 : Int32) (i0_l : (1 : Int) ≤ i0.toInt) (i0_u : i0.toInt ≤ (40 : Int)) : Met l yX5_isIn wsX5_isIn ({ frames := 0, cells := 0, slots := 0, locals := 0 }) (va_Pc [.int i0, .int 1, .int 40] (fun U => U.heap.size = sz ∧ va_P (dC, dI) vwCl [] U.heap ∧ va_K (dC, dI) vwCl [] U ∧ va_D (fun _ => True) [])) (va_Qi (fun (r : Int32) (_ : Unit) => r = 1) (fun (_ : Unit) (t : State) => va_P (dC, dI) vwCl [] t.heap ∧ va_K (dC, dI) vwCl [] t ∧ va_D (va_A [] sz) []) (va_A [] sz)) 0 0 (va_A [] sz) := by
  refine Met.ofW (cc := cX5_isIn) (maxL := 3) (ret := (some .boolean)) (by decide) rfl ?_
  intro p e s m args below meth c s₁ B hml hv
  obtain ⟨rfl, hsz, hP, hK, hD0⟩ := hv
  have hx := B.exec
  have hb := B.bytes
  have hr := B.returns
  have hts := atoms_spec (ws := wsX5_isIn) B.pre
  have hown : s.vm.findClass RX5 = some m.cls := findClass_of_methodNamed B.named
  have hlocks := B.notSynchronized
  subst hsz
  have hD := hD0.self (sz := s.heap.size)
  generalize hAe : va_A [] s.heap.size = A at hD ⊢
  have hA : ∀ q : Nat, s.heap.size ≤ q → A q := fun q h => by rw [← hAe]; exact Or.inr h
  have hS : va_S A s.heap s.heap [] := va_S.rf
  have hP : va_P (dC, dI) vwCl [] s.heap := hP
  have hl := lv_entry ([.int i0, .int 1, .int 40]) (n := 3) (Nat.le_of_ble_eq_true rfl)
  rw [lg_entry_eq]
  generalize (lg_sl ([.int i0, .int 1, .int 40]) ++ List.replicate (3 - (lg_sl ([.int i0, .int 1, .int 40])).length) Slot.unset).toArray = ls at hl ⊢
  have hl : lv_has ls 3 [(0, .int i0), (1, .int 1), (2, .int 40)] := hl
  refine lv_iload_n hx hb dX5_isIn_0 rfl (lv_at hl 0 rfl) ?_
  refine lv_iload_n hx hb dX5_isIn_1 rfl (lv_at hl 1 rfl) ?_
  refine lv_icmp_lt (tgt := 14) hx hb dX5_isIn_2 (by decide) (fun c9 => absurd c9 (fun c8 => absurd (Int32.lt_iff_toInt_lt.mp c8) (by rw [show (1 : Int32).toInt = 1 from by decide]; omega))) (fun _ => ?_)
  refine lv_iload_n hx hb dX5_isIn_5 rfl (lv_at hl 0 rfl) ?_
  refine lv_iload_n hx hb dX5_isIn_6 rfl (lv_at hl 2 rfl) ?_
  refine lv_icmp_gt (tgt := 14) hx hb dX5_isIn_7 (by decide) (fun c9 => absurd c9 (fun c8 => absurd (Int32.lt_iff_toInt_lt.mp c8) (by rw [show (40 : Int32).toInt = 40 from by decide]; omega))) (fun _ => ?_)
  refine lv_iconst (v := 1) hx hb dX5_isIn_10 (by decide) ?_
  refine lv_goto (tgt := 15) hx hb dX5_isIn_11 (by decide) ?_
  exact W.zret (v := 1) hx hb hr (by decide) (fun t ht hW => ⟨⟨1, (), rfl, rfl, by rw [ht]; exact hP, va_K.moved hW.alike hK, hD⟩, hS.F ht⟩) hS.2.2 dX5_isIn_15
set_option maxHeartbeats 4000000 in
set_option maxRecDepth 100000 in
theorem kx_X5_rewritten_0 (l : Launch) (dC : Nat → ClassId) (dI : Nat → Nat → Nat) (ge5 gea gv5 gva gde gic gi0 : Nat) (h0 : Nat) (h1 : Nat) (z0 : Nat) (z1 : Nat) (z2 : Nat) (sz : Nat) (i0 : Int32) (i0_l : (0 : Int) ≤ i0.toInt) (i0_u : i0.toInt ≤ (2 : Int)) (i1 : Int32) (i1_l : (1 : Int) ≤ i1.toInt) (i1_u : i1.toInt ≤ (40 : Int)) : Met l yX5_rewritten wsX5_rewritten ({ frames := 3, cells := 0, slots := 0, locals := 66 }) (va_Pc [.ref h1, .ref ge5, .int i0, .int i1, .ref z0] (fun U => U.heap.size = sz ∧ va_P (dC, dI) vwCl [(h0, .inr (3, [.int 0, .ref gde, .int 0])), (h1, .inr (9, [.int 0, .ref z1, .ref h0, .ref z2, .int 0, .int 0, .int 0]))] U.heap ∧ va_K (dC, dI) vwCl [] U ∧ va_D (fun _ => True) [(h0, .inr (3, [.int 0, .ref gde, .int 0])), (h1, .inr (9, [.int 0, .ref z1, .ref h0, .ref z2, .int 0, .int 0, .int 0]))] ∧ gv ge5 gea gv5 gva gde gic gi0 (va_A [(h0, .inr (3, [.int 0, .ref gde, .int 0])), (h1, .inr (9, [.int 0, .ref z1, .ref h0, .ref z2, .int 0, .int 0, .int 0]))] sz) U U.heap)) (va_Qr (fun _ : Unit => True) (fun (_ : Unit) (ra : Nat) (t : State) => ra = ge5 ∧ va_P (dC, dI) vwCl [(h0, .inr (3, [.int 0, .ref gde, .int 0])), (h1, .inr (9, [.int 0, .ref z1, .ref h0, .ref z2, .int 0, .int 0, .int 0]))] t.heap ∧ va_K (dC, dI) vwCl [] t ∧ va_D (va_A [(h0, .inr (3, [.int 0, .ref gde, .int 0])), (h1, .inr (9, [.int 0, .ref z1, .ref h0, .ref z2, .int 0, .int 0, .int 0]))] sz) [(h0, .inr (3, [.int 0, .ref gde, .int 0])), (h1, .inr (9, [.int 0, .ref z1, .ref h0, .ref z2, .int 0, .int 0, .int 0]))]) (va_A [(h0, .inr (3, [.int 0, .ref gde, .int 0])), (h1, .inr (9, [.int 0, .ref z1, .ref h0, .ref z2, .int 0, .int 0, .int 0]))] sz)) 0 0 (va_A [(h0, .inr (3, [.int 0, .ref gde, .int 0])), (h1, .inr (9, [.int 0, .ref z1, .ref h0, .ref z2, .int 0, .int 0, .int 0]))] sz) := by
  refine Met.ofW (cc := cX5_rewritten) (maxL := 8) (ret := (some (.object "java/lang/String"))) (by decide) rfl ?_
  intro p e s m args below meth c s₁ B hml hv
  obtain ⟨rfl, hsz, hP, hK, hD0, hG⟩ := hv
  have hx := B.exec
  have hb := B.bytes
  have hr := B.returns
  have hts := atoms_spec (ws := wsX5_rewritten) B.pre
  have hown : s.vm.findClass RX5 = some m.cls := findClass_of_methodNamed B.named
  have hlocks := B.notSynchronized
  subst hsz
  have hD := hD0.self (sz := s.heap.size)
  generalize hAe : va_A [(h0, .inr (3, [.int 0, .ref gde, .int 0])), (h1, .inr (9, [.int 0, .ref z1, .ref h0, .ref z2, .int 0, .int 0, .int 0]))] s.heap.size = A at hD hG ⊢
  obtain ⟨⟨g_AO_Text, g_AO_String, g_AO_Object, g_nm_RX1_20, g_nm_RX0_17, g_nm_RX3_31, g_nm_RX2_44, g_nm_RL_121, g_nf_RL_13, g_nf_RL_47, g_ca_IO, g_ca_IA, g_ca_IS, g_ca_IntObj, g_ca_StrObj, g_de_RT, g_de_EX, g_de_TH, g_nc_IA_IO, g_nc_IS_IO, g_nc_IS_IA⟩, ⟨g_s3, g_s5, g_sa, g_x278, g_x280, g_x282, g_x284, g_x286, g_x180, g_x238, g_x250⟩, ⟨g_o5, g_c5, g_v5, g_t5, g_oa, g_ca, g_va, g_ta, g_zc, g_zd, g_td, g_zf, g_zU, g_zN, g_zh, g_zk, g_tk, g_oi, g_vi⟩⟩ := id hG
  have hA : ∀ q : Nat, s.heap.size ≤ q → A q := fun q h => by rw [← hAe]; exact Or.inr h
  have hS : va_S A s.heap s.heap [] := va_S.rf
  have hP : va_P (dC, dI) vwCl [(h0, .inr (3, [.int 0, .ref gde, .int 0])), (h1, .inr (9, [.int 0, .ref z1, .ref h0, .ref z2, .int 0, .int 0, .int 0]))] s.heap := hP
  have hl := lv_entry ([.ref h1, .ref ge5, .int i0, .int i1, .ref z0]) (n := 8) (Nat.le_of_ble_eq_true rfl)
  rw [lg_entry_eq]
  generalize (lg_sl ([.ref h1, .ref ge5, .int i0, .int i1, .ref z0]) ++ List.replicate (8 - (lg_sl ([.ref h1, .ref ge5, .int i0, .int i1, .ref z0])).length) Slot.unset).toArray = ls at hl ⊢
  have hl : lv_has ls 8 [(0, .ref h1), (1, .ref ge5), (2, .int i0), (3, .int i1), (4, .ref z0)] := hl
  refine lv_aload_n hx hb dX5_rewritten_0 rfl (lv_at hl 1 rfl) ?_
  refine lv_astore (lv' := [(5, .ref ge5), (0, .ref h1), (1, .ref ge5), (2, .int i0), (3, .int i1), (4, .ref z0)]) hx hb dX5_rewritten_1 hl (by decide) rfl (fun ls hl => ?_)
  refine lv_iconst (v := 0) hx hb dX5_rewritten_3 (by decide) ?_
  refine lv_istore (lv' := [(6, .int 0), (5, .ref ge5), (0, .ref h1), (1, .ref ge5), (2, .int i0), (3, .int i1), (4, .ref z0)]) hx hb dX5_rewritten_4 hl (by decide) rfl (fun ls hl => ?_)
  refine lv_iload hx hb dX5_rewritten_6 (lv_at hl 0 rfl) ?_
  refine lv_iload_n hx hb dX5_rewritten_8 rfl (lv_at hl 5 rfl) ?_
  refine lv_icmp_ge (tgt := 69) hx hb dX5_rewritten_9 (by decide) (fun c9 => absurd c9 (fun c8 => absurd (Int32.le_iff_toInt_le.mp c8) (by rw [show (0 : Int32).toInt = 0 from by decide]; omega))) (fun _ => ?_)
  refine lv_aload_n hx hb dX5_rewritten_12 rfl (lv_at hl 2 rfl) ?_
  refine lv_aload hx hb dX5_rewritten_13 (lv_at hl 1 rfl) ?_
  refine lv_iload_n hx hb dX5_rewritten_15 rfl (lv_at hl 4 rfl) ?_
  have hPc := hP.sub (ws' := [(h0, .inr (3, [.int 0, .ref gde, .int 0])), (h1, .inr (9, [.int 0, .ref z1, .ref h0, .ref z2, .int 0, .int 0, .int 0]))]) [0, 1] rfl
  have hDc := hD.sub (ws' := [(h0, .inr (3, [.int 0, .ref gde, .int 0])), (h1, .inr (9, [.int 0, .ref z1, .ref h0, .ref z2, .int 0, .int 0, .int 0]))]) [0, 1] (by decide) rfl
  have hKc := hK.sub (tys' := []) [] rfl
  have hFc := va_free (wc := [(h0, .inr (3, [.int 0, .ref gde, .int 0])), (h1, .inr (9, [.int 0, .ref z1, .ref h0, .ref z2, .int 0, .int 0, .int 0]))]) hD hS hA [0, 1] rfl
  refine va_callq (va_runV (As := [.ref ge5, .int i0]) (rest := []) ⟨hx, hb, hml, hown, hts⟩ (kx_X5_chosen_0 l dC dI ge5 gea gv5 gva gde gic gi0 h0 h1 z1 z2 s.heap.size i0 i0_l i0_u) (cwV 2 hts gX5_rewritten_X5_chosen rfl rfl rfl (by decide +kernel) ⟨Nat.le_of_ble_eq_true rfl, Nat.le_of_ble_eq_true rfl⟩) ⟨fun a U g mk q => by obtain ⟨q0, q1, qP, qK, qD, qG⟩ := q; exact ⟨q0, q1, qP, va_K.moved (u := U) (U := U.calling g mk a) (Vm.Alike.refl U.vm) qK, qD, gv.fb qG⟩, va_recv hKc hPc (ci := 9) (q0 := 1) rfl rfl, fun U hU hW => ⟨rfl, by rw [hU], by rw [hU]; exact hPc, va_K.moved hW.alike hKc, hDc.weaken (fun _ _ _ _ => trivial), gv.pass hW hU hS hFc hG⟩⟩ rfl rfl hl.1 rfl (lv_room (Nat.le_of_ble_eq_true rfl)) dX5_rewritten_16 ⟨Nat.le_of_ble_eq_true rfl, Nat.le_of_ble_eq_true rfl⟩) hS (fun q _ h => hFc q h) hFc (fun r9 u t H1 locs ht hvm hw hB hz1 hk1 hS => ?_)
  obtain rfl := hw
  obtain ⟨hP1, hK1, hD1⟩ := hB
  rw [ht] at hP1
  have hK1 := va_K.moved hvm.symm hK1
  obtain ⟨hP, hD⟩ := va_join (wr := []) (w1 := [(h0, .inr (3, [.int 0, .ref gde, .int 0])), (h1, .inr (9, [.int 0, .ref z1, .ref h0, .ref z2, .int 0, .int 0, .int 0]))]) hP hD [0, 1] [] rfl rfl (by decide) (by decide) hk1 hFc hP1 hD1
  generalize H1 = H at hP hS ⊢
  have hP : va_P (dC, dI) vwCl [(h0, .inr (3, [.int 0, .ref gde, .int 0])), (h1, .inr (9, [.int 0, .ref z1, .ref h0, .ref z2, .int 0, .int 0, .int 0]))] H := hP
  have hD : va_D A [(h0, .inr (3, [.int 0, .ref gde, .int 0])), (h1, .inr (9, [.int 0, .ref z1, .ref h0, .ref z2, .int 0, .int 0, .int 0]))] := hD
  refine lv_astoreN (lv' := [(7, .null), (6, .int 0), (5, .ref ge5), (0, .ref h1), (1, .ref ge5), (2, .int i0), (3, .int i1), (4, .ref z0)]) hx hb dX5_rewritten_19 hl (by decide) rfl (fun ls hl => ?_)
  refine lv_aloadN hx hb dX5_rewritten_21 (lv_at hl 0 rfl) ?_
  refine lv_ifnullN (tgt := 42) hx hb dX5_rewritten_23 (by decide) ?_
  refine lv_aload hx hb dX5_rewritten_42 (lv_at hl 2 rfl) ?_
  exact W.aret (v := .ref ge5) hx hb hr (Or.inl ⟨_, rfl⟩) (Or.inr ⟨_, rfl⟩) (fun t ht hW => ⟨⟨(), ge5, rfl, trivial, rfl, by rw [ht]; exact hP, va_K.moved hW.alike hK, hD⟩, hS.F ht⟩) hS.2.2 dX5_rewritten_44
set_option maxHeartbeats 4000000 in
set_option maxRecDepth 100000 in
theorem kx_X5_run_7 (l : Launch) (dC : Nat → ClassId) (dI : Nat → Nat → Nat) (ge5 gea gv5 gva gde gic gi0 : Nat) (h0 : Nat) (h1 : Nat) (h2 : Nat) (z0 : Nat) (k0 : ClassId) (sz : Nat) (i0 : Int32) (i0_l : (0 : Int) ≤ i0.toInt) (i0_u : i0.toInt ≤ (3 : Int)) (i1 : Int32) (i1_l : (0 : Int) ≤ i1.toInt) (i1_u : i1.toInt ≤ (2 : Int)) (i2 : Int32) (i2_l : (1 : Int) ≤ i2.toInt) (i2_u : i2.toInt ≤ (40 : Int)) : Met l yX5_run wsX5_run ({ frames := 4, cells := 1, slots := 1, locals := 93 }) (va_Pc [.ref h0, .int i0, .int i1, .int i2] (fun U => U.heap.size = sz ∧ va_P (dC, dI) vwCl [(h0, .inr (9, [.int 0, .ref h1, .ref h2, .ref z0, .int 0, .int 0, .int 0])), (h1, .inl (k0, 4, .inr (.inr (.inr (.inr (va_up (va_up (va_up (va_up (fun _ => none) 0 (some ge5)) 1 (some ge5)) 2 (some ge5)) 3 (some ge5))))))), (h2, .inr (3, [.int 0, .ref gde, .int 0]))] U.heap ∧ va_K (dC, dI) vwCl [(k0, .object "java/lang/String")] U ∧ va_D (fun _ => True) [(h0, .inr (9, [.int 0, .ref h1, .ref h2, .ref z0, .int 0, .int 0, .int 0])), (h1, .inl (k0, 4, .inr (.inr (.inr (.inr (va_up (va_up (va_up (va_up (fun _ => none) 0 (some ge5)) 1 (some ge5)) 2 (some ge5)) 3 (some ge5))))))), (h2, .inr (3, [.int 0, .ref gde, .int 0]))] ∧ gv ge5 gea gv5 gva gde gic gi0 (va_A [(h0, .inr (9, [.int 0, .ref h1, .ref h2, .ref z0, .int 0, .int 0, .int 0])), (h1, .inl (k0, 4, .inr (.inr (.inr (.inr (va_up (va_up (va_up (va_up (fun _ => none) 0 (some ge5)) 1 (some ge5)) 2 (some ge5)) 3 (some ge5))))))), (h2, .inr (3, [.int 0, .ref gde, .int 0]))] sz) U U.heap)) (va_Qi (fun (r : Int32) (_ : Unit) => r = 0) (fun (_ : Unit) (t : State) => ∃ q1 : Nat, ∃ cq1 : ClassId, va_P (dC, dI) vwCl [(h0, .inr (9, [.int 0, .ref h1, .ref h2, .ref z0, .int 0, .int 0, .int 0]))] t.heap ∧ va_K (dC, dI) vwCl [(k0, .object "java/lang/String"), (cq1, .int)] t ∧ va_D (va_A [(h0, .inr (9, [.int 0, .ref h1, .ref h2, .ref z0, .int 0, .int 0, .int 0])), (h1, .inl (k0, 4, .inr (.inr (.inr (.inr (va_up (va_up (va_up (va_up (fun _ => none) 0 (some ge5)) 1 (some ge5)) 2 (some ge5)) 3 (some ge5))))))), (h2, .inr (3, [.int 0, .ref gde, .int 0]))] sz) [(h0, .inr (9, [.int 0, .ref h1, .ref h2, .ref z0, .int 0, .int 0, .int 0]))]) (va_A [(h0, .inr (9, [.int 0, .ref h1, .ref h2, .ref z0, .int 0, .int 0, .int 0])), (h1, .inl (k0, 4, .inr (.inr (.inr (.inr (va_up (va_up (va_up (va_up (fun _ => none) 0 (some ge5)) 1 (some ge5)) 2 (some ge5)) 3 (some ge5))))))), (h2, .inr (3, [.int 0, .ref gde, .int 0]))] sz)) 1 1 (va_A [(h0, .inr (9, [.int 0, .ref h1, .ref h2, .ref z0, .int 0, .int 0, .int 0])), (h1, .inl (k0, 4, .inr (.inr (.inr (.inr (va_up (va_up (va_up (va_up (fun _ => none) 0 (some ge5)) 1 (some ge5)) 2 (some ge5)) 3 (some ge5))))))), (h2, .inr (3, [.int 0, .ref gde, .int 0]))] sz) := by
  refine Met.ofW (cc := cX5_run) (maxL := 5) (ret := (some .int)) (by decide) rfl ?_
  intro p e s m args below meth c s₁ B hml hv
  obtain ⟨rfl, hsz, hP, hK, hD0, hG⟩ := hv
  have hx := B.exec
  have hb := B.bytes
  have hr := B.returns
  have hts := atoms_spec (ws := wsX5_run) B.pre
  have hown : s.vm.findClass RX5 = some m.cls := findClass_of_methodNamed B.named
  have hlocks := B.notSynchronized
  subst hsz
  have hD := hD0.self (sz := s.heap.size)
  generalize hAe : va_A [(h0, .inr (9, [.int 0, .ref h1, .ref h2, .ref z0, .int 0, .int 0, .int 0])), (h1, .inl (k0, 4, .inr (.inr (.inr (.inr (va_up (va_up (va_up (va_up (fun _ => none) 0 (some ge5)) 1 (some ge5)) 2 (some ge5)) 3 (some ge5))))))), (h2, .inr (3, [.int 0, .ref gde, .int 0]))] s.heap.size = A at hD hG ⊢
  obtain ⟨⟨g_AO_Text, g_AO_String, g_AO_Object, g_nm_RX1_20, g_nm_RX0_17, g_nm_RX3_31, g_nm_RX2_44, g_nm_RL_121, g_nf_RL_13, g_nf_RL_47, g_ca_IO, g_ca_IA, g_ca_IS, g_ca_IntObj, g_ca_StrObj, g_de_RT, g_de_EX, g_de_TH, g_nc_IA_IO, g_nc_IS_IO, g_nc_IS_IA⟩, ⟨g_s3, g_s5, g_sa, g_x278, g_x280, g_x282, g_x284, g_x286, g_x180, g_x238, g_x250⟩, ⟨g_o5, g_c5, g_v5, g_t5, g_oa, g_ca, g_va, g_ta, g_zc, g_zd, g_td, g_zf, g_zU, g_zN, g_zh, g_zk, g_tk, g_oi, g_vi⟩⟩ := id hG
  have hA : ∀ q : Nat, s.heap.size ≤ q → A q := fun q h => by rw [← hAe]; exact Or.inr h
  have hS : va_S A s.heap s.heap [] := va_S.rf
  have hP : va_P (dC, dI) vwCl [(h0, .inr (9, [.int 0, .ref h1, .ref h2, .ref z0, .int 0, .int 0, .int 0])), (h1, .inl (k0, 4, .inr (.inr (.inr (.inr (va_up (va_up (va_up (va_up (fun _ => none) 0 (some ge5)) 1 (some ge5)) 2 (some ge5)) 3 (some ge5))))))), (h2, .inr (3, [.int 0, .ref gde, .int 0]))] s.heap := hP
  have hl := lv_entry ([.ref h0, .int i0, .int i1, .int i2]) (n := 5) (Nat.le_of_ble_eq_true rfl)
  rw [lg_entry_eq]
  generalize (lg_sl ([.ref h0, .int i0, .int i1, .int i2]) ++ List.replicate (5 - (lg_sl ([.ref h0, .int i0, .int i1, .int i2])).length) Slot.unset).toArray = ls at hl ⊢
  have hl : lv_has ls 5 [(0, .ref h0), (1, .int i0), (2, .int i1), (3, .int i2)] := hl
  refine lv_aload_n hx hb dX5_run_0 rfl (lv_at hl 0 rfl) ?_
  refine lv_iload_n hx hb dX5_run_1 rfl (lv_at hl 1 rfl) ?_
  have hPc := hP.sub (ws' := []) [] rfl
  have hDc := hD.sub (ws' := []) [] (by decide) rfl
  have hKc := hK.sub (tys' := []) [] rfl
  have hFc := va_free (wc := []) hD hS hA [] rfl
  refine va_calli (va_runS (As := [.int i0]) (rest := [.ref h0]) ⟨hx, hb, hml, hown, hts⟩ (kx_X5_isNo_1 l dC dI s.heap.size i0 i0_l i0_u) (cwS 1 hts gX5_run_X5_isNo rfl rfl rfl (by decide +kernel) ⟨Nat.le_of_ble_eq_true rfl, Nat.le_of_ble_eq_true rfl⟩) ⟨fun a U g mk q => by obtain ⟨q0, q1, qP, qK, qD⟩ := q; exact ⟨q0, q1, qP, va_K.moved (u := U) (U := U.calling g mk a) (Vm.Alike.refl U.vm) qK, qD⟩, fun U hU hW => ⟨rfl, by rw [hU], by rw [hU]; exact hPc, va_K.moved hW.alike hKc, hDc.weaken (fun _ _ _ _ => trivial)⟩⟩ rfl rfl hl.1 rfl (lv_room (Nat.le_of_ble_eq_true rfl)) dX5_run_2 ⟨Nat.le_of_ble_eq_true rfl, Nat.le_of_ble_eq_true rfl⟩) hS (fun q _ h => hFc q h) hFc (fun r9 u t H1 locs ht hvm hw hB hz1 hk1 hS => ?_)
  obtain rfl := hw
  obtain ⟨hP1, hK1, hD1⟩ := hB
  rw [ht] at hP1
  have hK1 := va_K.moved hvm.symm hK1
  obtain ⟨hP, hD⟩ := va_join (wr := [(h0, .inr (9, [.int 0, .ref h1, .ref h2, .ref z0, .int 0, .int 0, .int 0])), (h1, .inl (k0, 4, .inr (.inr (.inr (.inr (va_up (va_up (va_up (va_up (fun _ => none) 0 (some ge5)) 1 (some ge5)) 2 (some ge5)) 3 (some ge5))))))), (h2, .inr (3, [.int 0, .ref gde, .int 0]))]) (w1 := []) hP hD [] [0, 1, 2] rfl rfl (by decide) (by decide) hk1 hFc hP1 hD1
  generalize H1 = H at hP hS ⊢
  have hP : va_P (dC, dI) vwCl [(h0, .inr (9, [.int 0, .ref h1, .ref h2, .ref z0, .int 0, .int 0, .int 0])), (h1, .inl (k0, 4, .inr (.inr (.inr (.inr (va_up (va_up (va_up (va_up (fun _ => none) 0 (some ge5)) 1 (some ge5)) 2 (some ge5)) 3 (some ge5))))))), (h2, .inr (3, [.int 0, .ref gde, .int 0]))] H := hP
  have hD : va_D A [(h0, .inr (9, [.int 0, .ref h1, .ref h2, .ref z0, .int 0, .int 0, .int 0])), (h1, .inl (k0, 4, .inr (.inr (.inr (.inr (va_up (va_up (va_up (va_up (fun _ => none) 0 (some ge5)) 1 (some ge5)) 2 (some ge5)) 3 (some ge5))))))), (h2, .inr (3, [.int 0, .ref gde, .int 0]))] := hD
  refine lv_iload_n hx hb dX5_run_5 rfl (lv_at hl 2 rfl) ?_
  refine lv_iconst (v := 0) hx hb dX5_run_6 (by decide) ?_
  refine lv_iconst (v := 2) hx hb dX5_run_7 (by decide) ?_
  have hPc := hP.sub (ws' := []) [] rfl
  have hDc := hD.sub (ws' := []) [] (by decide) rfl
  have hKc := hK.sub (tys' := []) [] rfl
  have hFc := va_free (wc := []) hD hS hA [] rfl
  refine va_calli (va_runS (As := [.int i1, .int 0, .int 2]) (rest := [.int 0, .ref h0]) ⟨hx, hb, hml, hown, hts⟩ (kx_X5_isIn_21 l dC dI H.size i1 i1_l i1_u) (cwS 3 hts gX5_run_X5_isIn rfl rfl rfl (by decide +kernel) ⟨Nat.le_of_ble_eq_true rfl, Nat.le_of_ble_eq_true rfl⟩) ⟨fun a U g mk q => by obtain ⟨q0, q1, qP, qK, qD⟩ := q; exact ⟨q0, q1, qP, va_K.moved (u := U) (U := U.calling g mk a) (Vm.Alike.refl U.vm) qK, qD⟩, fun U hU hW => ⟨rfl, by rw [hU], by rw [hU]; exact hPc, va_K.moved hW.alike hKc, hDc.weaken (fun _ _ _ _ => trivial)⟩⟩ rfl rfl hl.1 rfl (lv_room (Nat.le_of_ble_eq_true rfl)) dX5_run_8 ⟨Nat.le_of_ble_eq_true rfl, Nat.le_of_ble_eq_true rfl⟩) hS (fun q _ h => hFc q h) hFc (fun r9 u t H1 locs ht hvm hw hB hz1 hk1 hS => ?_)
  obtain rfl := hw
  obtain ⟨hP1, hK1, hD1⟩ := hB
  rw [ht] at hP1
  have hK1 := va_K.moved hvm.symm hK1
  obtain ⟨hP, hD⟩ := va_join (wr := [(h0, .inr (9, [.int 0, .ref h1, .ref h2, .ref z0, .int 0, .int 0, .int 0])), (h1, .inl (k0, 4, .inr (.inr (.inr (.inr (va_up (va_up (va_up (va_up (fun _ => none) 0 (some ge5)) 1 (some ge5)) 2 (some ge5)) 3 (some ge5))))))), (h2, .inr (3, [.int 0, .ref gde, .int 0]))]) (w1 := []) hP hD [] [0, 1, 2] rfl rfl (by decide) (by decide) hk1 hFc hP1 hD1
  generalize H1 = H at hP hS ⊢
  have hP : va_P (dC, dI) vwCl [(h0, .inr (9, [.int 0, .ref h1, .ref h2, .ref z0, .int 0, .int 0, .int 0])), (h1, .inl (k0, 4, .inr (.inr (.inr (.inr (va_up (va_up (va_up (va_up (fun _ => none) 0 (some ge5)) 1 (some ge5)) 2 (some ge5)) 3 (some ge5))))))), (h2, .inr (3, [.int 0, .ref gde, .int 0]))] H := hP
  have hD : va_D A [(h0, .inr (9, [.int 0, .ref h1, .ref h2, .ref z0, .int 0, .int 0, .int 0])), (h1, .inl (k0, 4, .inr (.inr (.inr (.inr (va_up (va_up (va_up (va_up (fun _ => none) 0 (some ge5)) 1 (some ge5)) 2 (some ge5)) 3 (some ge5))))))), (h2, .inr (3, [.int 0, .ref gde, .int 0]))] := hD
  refine lv_if_eq (tgt := 24) hx hb dX5_run_11 (by decide) (fun c9 => absurd c9 (by decide)) (fun _ => ?_)
  refine lv_iload_n hx hb dX5_run_14 rfl (lv_at hl 3 rfl) ?_
  refine lv_iconst (v := 1) hx hb dX5_run_15 (by decide) ?_
  refine lv_bipush (v := 40) hx hb dX5_run_16 (by decide) ?_
  have hPc := hP.sub (ws' := []) [] rfl
  have hDc := hD.sub (ws' := []) [] (by decide) rfl
  have hKc := hK.sub (tys' := []) [] rfl
  have hFc := va_free (wc := []) hD hS hA [] rfl
  refine va_calli (va_runS (As := [.int i2, .int 1, .int 40]) (rest := [.int 0, .ref h0]) ⟨hx, hb, hml, hown, hts⟩ (kx_X5_isIn_25 l dC dI H.size i2 i2_l i2_u) (cwS 3 hts gX5_run_X5_isIn rfl rfl rfl (by decide +kernel) ⟨Nat.le_of_ble_eq_true rfl, Nat.le_of_ble_eq_true rfl⟩) ⟨fun a U g mk q => by obtain ⟨q0, q1, qP, qK, qD⟩ := q; exact ⟨q0, q1, qP, va_K.moved (u := U) (U := U.calling g mk a) (Vm.Alike.refl U.vm) qK, qD⟩, fun U hU hW => ⟨rfl, by rw [hU], by rw [hU]; exact hPc, va_K.moved hW.alike hKc, hDc.weaken (fun _ _ _ _ => trivial)⟩⟩ rfl rfl hl.1 rfl (lv_room (Nat.le_of_ble_eq_true rfl)) dX5_run_18 ⟨Nat.le_of_ble_eq_true rfl, Nat.le_of_ble_eq_true rfl⟩) hS (fun q _ h => hFc q h) hFc (fun r9 u t H1 locs ht hvm hw hB hz1 hk1 hS => ?_)
  obtain rfl := hw
  obtain ⟨hP1, hK1, hD1⟩ := hB
  rw [ht] at hP1
  have hK1 := va_K.moved hvm.symm hK1
  obtain ⟨hP, hD⟩ := va_join (wr := [(h0, .inr (9, [.int 0, .ref h1, .ref h2, .ref z0, .int 0, .int 0, .int 0])), (h1, .inl (k0, 4, .inr (.inr (.inr (.inr (va_up (va_up (va_up (va_up (fun _ => none) 0 (some ge5)) 1 (some ge5)) 2 (some ge5)) 3 (some ge5))))))), (h2, .inr (3, [.int 0, .ref gde, .int 0]))]) (w1 := []) hP hD [] [0, 1, 2] rfl rfl (by decide) (by decide) hk1 hFc hP1 hD1
  generalize H1 = H at hP hS ⊢
  have hP : va_P (dC, dI) vwCl [(h0, .inr (9, [.int 0, .ref h1, .ref h2, .ref z0, .int 0, .int 0, .int 0])), (h1, .inl (k0, 4, .inr (.inr (.inr (.inr (va_up (va_up (va_up (va_up (fun _ => none) 0 (some ge5)) 1 (some ge5)) 2 (some ge5)) 3 (some ge5))))))), (h2, .inr (3, [.int 0, .ref gde, .int 0]))] H := hP
  have hD : va_D A [(h0, .inr (9, [.int 0, .ref h1, .ref h2, .ref z0, .int 0, .int 0, .int 0])), (h1, .inl (k0, 4, .inr (.inr (.inr (.inr (va_up (va_up (va_up (va_up (fun _ => none) 0 (some ge5)) 1 (some ge5)) 2 (some ge5)) 3 (some ge5))))))), (h2, .inr (3, [.int 0, .ref gde, .int 0]))] := hD
  refine lv_if_ne (tgt := 28) hx hb dX5_run_21 (by decide) (fun _ => ?_) (fun c9 => absurd c9 (by decide))
  refine lv_iconst (v := 0) hx hb dX5_run_28 (by decide) ?_
  refine lv_iconst (v := 0) hx hb dX5_run_29 (by decide) ?_
  have hPc := hP.sub (ws' := [(h0, .inr (9, [.int 0, .ref h1, .ref h2, .ref z0, .int 0, .int 0, .int 0]))]) [0] rfl
  have hDc := hD.sub (ws' := [(h0, .inr (9, [.int 0, .ref h1, .ref h2, .ref z0, .int 0, .int 0, .int 0]))]) [0] (by decide) rfl
  have hKc := hK.sub (tys' := []) [] rfl
  have hFc := va_free (wc := [(h0, .inr (9, [.int 0, .ref h1, .ref h2, .ref z0, .int 0, .int 0, .int 0]))]) hD hS hA [0] rfl
  refine va_calli (va_runV (As := [.int 0, .int 0, .int 0]) (rest := []) ⟨hx, hb, hml, hown, hts⟩ (kx_X5_fails_1 l dC dI h0 h1 h2 z0 H.size) (cwV 3 hts gX5_run_X5_fails rfl rfl rfl (by decide +kernel) ⟨Nat.le_of_ble_eq_true rfl, Nat.le_of_ble_eq_true rfl⟩) ⟨fun a U g mk q => by obtain ⟨q0, q1, qP, qK, qD⟩ := q; exact ⟨q0, q1, qP, va_K.moved (u := U) (U := U.calling g mk a) (Vm.Alike.refl U.vm) qK, qD⟩, va_recv hKc hPc (ci := 9) (q0 := 0) rfl rfl, fun U hU hW => ⟨rfl, by rw [hU], by rw [hU]; exact hPc, va_K.moved hW.alike hKc, hDc.weaken (fun _ _ _ _ => trivial)⟩⟩ rfl rfl hl.1 rfl (lv_room (Nat.le_of_ble_eq_true rfl)) dX5_run_30 ⟨Nat.le_of_ble_eq_true rfl, Nat.le_of_ble_eq_true rfl⟩) hS (fun q _ h => hFc q h) hFc (fun r9 u t H1 locs ht hvm hw hB hz1 hk1 hS => ?_)
  obtain rfl := hw
  obtain ⟨hP1, hK1, hD1⟩ := hB
  rw [ht] at hP1
  have hK1 := va_K.moved hvm.symm hK1
  obtain ⟨hP, hD⟩ := va_join (wr := [(h1, .inl (k0, 4, .inr (.inr (.inr (.inr (va_up (va_up (va_up (va_up (fun _ => none) 0 (some ge5)) 1 (some ge5)) 2 (some ge5)) 3 (some ge5))))))), (h2, .inr (3, [.int 0, .ref gde, .int 0]))]) (w1 := [(h0, .inr (9, [.int 0, .ref h1, .ref h2, .ref z0, .int 0, .int 0, .int 0]))]) hP hD [0] [1, 2] rfl rfl (by decide) (by decide) hk1 hFc hP1 hD1
  generalize H1 = H at hP hS ⊢
  have hP : va_P (dC, dI) vwCl [(h1, .inl (k0, 4, .inr (.inr (.inr (.inr (va_up (va_up (va_up (va_up (fun _ => none) 0 (some ge5)) 1 (some ge5)) 2 (some ge5)) 3 (some ge5))))))), (h2, .inr (3, [.int 0, .ref gde, .int 0])), (h0, .inr (9, [.int 0, .ref h1, .ref h2, .ref z0, .int 0, .int 0, .int 0]))] H := hP
  have hD : va_D A [(h1, .inl (k0, 4, .inr (.inr (.inr (.inr (va_up (va_up (va_up (va_up (fun _ => none) 0 (some ge5)) 1 (some ge5)) 2 (some ge5)) 3 (some ge5))))))), (h2, .inr (3, [.int 0, .ref gde, .int 0])), (h0, .inr (9, [.int 0, .ref h1, .ref h2, .ref z0, .int 0, .int 0, .int 0]))] := hD
  refine lv_if_eq (tgt := 38) hx hb dX5_run_33 (by decide) (fun _ => ?_) (fun c9 => absurd (by decide) c9)
  refine lv_iconst (v := 1) hx hb dX5_run_38 (by decide) ?_
  refine va_newa (D := (dC, dI)) (atype := .int) (ty := .int) (a0 := (1, .inl (fun _ => 0))) (n := 1) (N' := 1) hx hb (hts (.arrayClass .int) (by decide +kernel)) rfl hK hP hD hS hA (fun _ => rfl) (by decide) (by decide) (Nat.le_of_ble_eq_true rfl) (Nat.le_of_ble_eq_true rfl) (Nat.le_of_ble_eq_true rfl) dX5_run_39 (fun q1 cq1 H hK hP hD hS => ?_)
  have hK : va_K (dC, dI) vwCl [(k0, .object "java/lang/String"), (cq1, .int)] s := hK
  have hP : va_P (dC, dI) vwCl [(h1, .inl (k0, 4, .inr (.inr (.inr (.inr (va_up (va_up (va_up (va_up (fun _ => none) 0 (some ge5)) 1 (some ge5)) 2 (some ge5)) 3 (some ge5))))))), (h2, .inr (3, [.int 0, .ref gde, .int 0])), (h0, .inr (9, [.int 0, .ref h1, .ref h2, .ref z0, .int 0, .int 0, .int 0])), (q1, .inl (cq1, 1, .inl (fun _ => 0)))] H := hP
  have hD : va_D A [(h1, .inl (k0, 4, .inr (.inr (.inr (.inr (va_up (va_up (va_up (va_up (fun _ => none) 0 (some ge5)) 1 (some ge5)) 2 (some ge5)) 3 (some ge5))))))), (h2, .inr (3, [.int 0, .ref gde, .int 0])), (h0, .inr (9, [.int 0, .ref h1, .ref h2, .ref z0, .int 0, .int 0, .int 0])), (q1, .inl (cq1, 1, .inl (fun _ => 0)))] := hD
  refine W.widen (k := 1) (n := 1) (by omega) (by omega) ?_
  refine lv_dup hx hb dX5_run_41 rfl ?_
  refine lv_iconst (v := 0) hx hb dX5_run_42 (by decide) ?_
  refine lv_iconst (v := 0) hx hb dX5_run_43 (by decide) ?_
  refine va_iast (D := (dC, dI)) hx hb hK hP hD hS 3 1 rfl rfl (by unfold vp_in; decide) dX5_run_44 (fun H locs hP hD hS => ?_)
  have hP : va_P (dC, dI) vwCl [(h1, .inl (k0, 4, .inr (.inr (.inr (.inr (va_up (va_up (va_up (va_up (fun _ => none) 0 (some ge5)) 1 (some ge5)) 2 (some ge5)) 3 (some ge5))))))), (h2, .inr (3, [.int 0, .ref gde, .int 0])), (h0, .inr (9, [.int 0, .ref h1, .ref h2, .ref z0, .int 0, .int 0, .int 0])), (q1, .inl (cq1, 1, .inl (upd (fun _ => 0) 0 0)))] H := hP
  have hD : va_D A [(h1, .inl (k0, 4, .inr (.inr (.inr (.inr (va_up (va_up (va_up (va_up (fun _ => none) 0 (some ge5)) 1 (some ge5)) 2 (some ge5)) 3 (some ge5))))))), (h2, .inr (3, [.int 0, .ref gde, .int 0])), (h0, .inr (9, [.int 0, .ref h1, .ref h2, .ref z0, .int 0, .int 0, .int 0])), (q1, .inl (cq1, 1, .inl (upd (fun _ => 0) 0 0)))] := hD
  refine lv_astore (lv' := [(4, .ref q1), (0, .ref h0), (1, .int i0), (2, .int i1), (3, .int i2)]) hx hb dX5_run_45 hl (by decide) rfl (fun ls hl => ?_)
  refine lv_aload_n hx hb dX5_run_47 rfl (lv_at hl 1 rfl) ?_
  refine va_get (D := (dC, dI)) (ci := 9) (v := .ref h1) (C := RX5) (T := TX5) (N := 7) hx hb hts (by decide +kernel) hown hK hP 2 rfl rfl 1 (by decide) (hts (.fieldLink RX5 11 "RewriteropeModel" "ropes" "[Ljava/lang/String;") (by decide +kernel)) (fun _ h9 => h9) rfl dX5_run_48 ?_
  refine lv_iload_n hx hb dX5_run_51 rfl (lv_at hl 2 rfl) ?_
  refine lv_aload_n hx hb dX5_run_52 rfl (lv_at hl 1 rfl) ?_
  refine lv_aload_n hx hb dX5_run_53 rfl (lv_at hl 1 rfl) ?_
  refine va_get (D := (dC, dI)) (ci := 9) (v := .ref h1) (C := RX5) (T := TX5) (N := 7) hx hb hts (by decide +kernel) hown hK hP 2 rfl rfl 1 (by decide) (hts (.fieldLink RX5 11 "RewriteropeModel" "ropes" "[Ljava/lang/String;") (by decide +kernel)) (fun _ h9 => h9) rfl dX5_run_54 ?_
  refine lv_iload_n hx hb dX5_run_57 rfl (lv_at hl 2 rfl) ?_
  refine va_aldq (D := (dC, dI)) hx hb hK hP 0 0 rfl rfl (kz_in4 i0_l i0_u) dX5_run_58 ?_
  rw [show (va_up (va_up (va_up (va_up (fun _ => none) 0 (some ge5)) 1 (some ge5)) 2 (some ge5)) 3 (some ge5)) i0.toNatClampNeg = some ge5 from (kz_ix4 (P := fun z => (va_up (va_up (va_up (va_up (fun _ => none) 0 (some ge5)) 1 (some ge5)) 2 (some ge5)) 3 (some ge5)) z.toNatClampNeg = some ge5) rfl rfl rfl rfl i0_l i0_u)]
  refine W.eq (g2 := F0 m 59 ls [.ref ge5, .ref h0, .int i0, .ref h1]) rfl ?_
  refine lv_iload_n hx hb dX5_run_59 rfl (lv_at hl 3 rfl) ?_
  refine lv_iload_n hx hb dX5_run_60 rfl (lv_at hl 4 rfl) ?_
  refine lv_aload hx hb dX5_run_61 (lv_at hl 0 rfl) ?_
  have hPc := hP.sub (ws' := [(h2, .inr (3, [.int 0, .ref gde, .int 0])), (h0, .inr (9, [.int 0, .ref h1, .ref h2, .ref z0, .int 0, .int 0, .int 0]))]) [1, 2] rfl
  have hDc := hD.sub (ws' := [(h2, .inr (3, [.int 0, .ref gde, .int 0])), (h0, .inr (9, [.int 0, .ref h1, .ref h2, .ref z0, .int 0, .int 0, .int 0]))]) [1, 2] (by decide) rfl
  have hKc := hK.sub (tys' := []) [] rfl
  have hFc := va_free (wc := [(h2, .inr (3, [.int 0, .ref gde, .int 0])), (h0, .inr (9, [.int 0, .ref h1, .ref h2, .ref z0, .int 0, .int 0, .int 0]))]) hD hS hA [1, 2] rfl
  refine va_callr (va_runV (As := [.ref ge5, .int i1, .int i2, .ref q1]) (rest := [.int i0, .ref h1]) ⟨hx, hb, hml, hown, hts⟩ (kx_X5_rewritten_0 l dC dI ge5 gea gv5 gva gde gic gi0 h2 h0 q1 h1 z0 H.size i1 i1_l i1_u i2 i2_l i2_u) (cwV 4 hts gX5_run_X5_rewritten rfl rfl rfl (by decide +kernel) ⟨Nat.le_of_ble_eq_true rfl, Nat.le_of_ble_eq_true rfl⟩) ⟨fun a U g mk q => by obtain ⟨q0, q1, qP, qK, qD, qG⟩ := q; exact ⟨q0, q1, qP, va_K.moved (u := U) (U := U.calling g mk a) (Vm.Alike.refl U.vm) qK, qD, gv.fb qG⟩, va_recv hKc hPc (ci := 9) (q0 := 1) rfl rfl, fun U hU hW => ⟨rfl, by rw [hU], by rw [hU]; exact hPc, va_K.moved hW.alike hKc, hDc.weaken (fun _ _ _ _ => trivial), gv.pass hW hU hS hFc hG⟩⟩ rfl rfl hl.1 rfl (lv_room (Nat.le_of_ble_eq_true rfl)) dX5_run_63 ⟨Nat.le_of_ble_eq_true rfl, Nat.le_of_ble_eq_true rfl⟩) hS (fun q _ h => hFc q h) hFc (fun u ra t H1 locs ht hvm hw hB hz1 hk1 hS => ?_)
  obtain ⟨hra, hP1, hK1, hD1⟩ := hB
  rw [hra]
  rw [ht] at hP1
  have hK1 := va_K.moved hvm.symm hK1
  obtain ⟨hP, hD⟩ := va_join (wr := [(h1, .inl (k0, 4, .inr (.inr (.inr (.inr (va_up (va_up (va_up (va_up (fun _ => none) 0 (some ge5)) 1 (some ge5)) 2 (some ge5)) 3 (some ge5))))))), (q1, .inl (cq1, 1, .inl (upd (fun _ => 0) 0 0)))]) (w1 := [(h2, .inr (3, [.int 0, .ref gde, .int 0])), (h0, .inr (9, [.int 0, .ref h1, .ref h2, .ref z0, .int 0, .int 0, .int 0]))]) hP hD [1, 2] [0, 3] rfl rfl (by decide) (by decide) hk1 hFc hP1 hD1
  generalize H1 = H at hP hS ⊢
  have hP : va_P (dC, dI) vwCl [(h1, .inl (k0, 4, .inr (.inr (.inr (.inr (va_up (va_up (va_up (va_up (fun _ => none) 0 (some ge5)) 1 (some ge5)) 2 (some ge5)) 3 (some ge5))))))), (q1, .inl (cq1, 1, .inl (upd (fun _ => 0) 0 0))), (h2, .inr (3, [.int 0, .ref gde, .int 0])), (h0, .inr (9, [.int 0, .ref h1, .ref h2, .ref z0, .int 0, .int 0, .int 0]))] H := hP
  have hD : va_D A [(h1, .inl (k0, 4, .inr (.inr (.inr (.inr (va_up (va_up (va_up (va_up (fun _ => none) 0 (some ge5)) 1 (some ge5)) 2 (some ge5)) 3 (some ge5))))))), (q1, .inl (cq1, 1, .inl (upd (fun _ => 0) 0 0))), (h2, .inr (3, [.int 0, .ref gde, .int 0])), (h0, .inr (9, [.int 0, .ref h1, .ref h2, .ref z0, .int 0, .int 0, .int 0]))] := hD
  refine vb_astq (D := (dC, dI)) (C := "java/lang/String") hx hb hK hP hD hS 0 0 rfl rfl (by obtain ⟨cell, k1, k2, k3, -⟩ := g_o5.kept hS.2.1; exact ⟨cell, k1, k2, k3⟩) vb_asgS (kz_in4 i0_l i0_u) dX5_run_66 (fun H locs hP hD hS => ?_)
  rw [kz_up (f := (va_up (va_up (va_up (va_up (fun _ => none) 0 (some ge5)) 1 (some ge5)) 2 (some ge5)) 3 (some ge5))) (k := i0.toNatClampNeg) (v := some ge5) (kz_ix4 (P := fun z => (va_up (va_up (va_up (va_up (fun _ => none) 0 (some ge5)) 1 (some ge5)) 2 (some ge5)) 3 (some ge5)) z.toNatClampNeg = some ge5) rfl rfl rfl rfl i0_l i0_u)] at hP hD
  have hP : va_P (dC, dI) vwCl [(h1, .inl (k0, 4, .inr (.inr (.inr (.inr (va_up (va_up (va_up (va_up (fun _ => none) 0 (some ge5)) 1 (some ge5)) 2 (some ge5)) 3 (some ge5))))))), (q1, .inl (cq1, 1, .inl (upd (fun _ => 0) 0 0))), (h2, .inr (3, [.int 0, .ref gde, .int 0])), (h0, .inr (9, [.int 0, .ref h1, .ref h2, .ref z0, .int 0, .int 0, .int 0]))] H := hP
  have hD : va_D A [(h1, .inl (k0, 4, .inr (.inr (.inr (.inr (va_up (va_up (va_up (va_up (fun _ => none) 0 (some ge5)) 1 (some ge5)) 2 (some ge5)) 3 (some ge5))))))), (q1, .inl (cq1, 1, .inl (upd (fun _ => 0) 0 0))), (h2, .inr (3, [.int 0, .ref gde, .int 0])), (h0, .inr (9, [.int 0, .ref h1, .ref h2, .ref z0, .int 0, .int 0, .int 0]))] := hD
  refine lv_aload_n hx hb dX5_run_67 rfl (lv_at hl 1 rfl) ?_
  refine lv_dup hx hb dX5_run_68 rfl ?_
  refine va_get (D := (dC, dI)) (ci := 9) (v := .int 0) (C := RX5) (T := TX5) (N := 7) hx hb hts (by decide +kernel) hown hK hP 3 rfl rfl 6 (by decide) (hts (.fieldLink RX5 177 "RewriteropeModel" "steps" "I") (by decide +kernel)) (fun _ h9 => h9) rfl dX5_run_69 ?_
  refine lv_aload hx hb dX5_run_72 (lv_at hl 0 rfl) ?_
  refine lv_iconst (v := 0) hx hb dX5_run_74 (by decide) ?_
  refine va_iald (D := (dC, dI)) hx hb hK hP 1 1 rfl rfl (by unfold vp_in; decide) dX5_run_75 ?_
  refine lv_topi (fun y2 ey2 => ?_)
  obtain rfl : y2 = 0 := ey2.trans (by decide)
  refine lv_iadd hx hb dX5_run_76 ?_
  refine lv_topi (fun y3 ey3 => ?_)
  obtain rfl : y3 = 0 := ey3.trans (by decide)
  refine va_put (D := (dC, dI)) (ci := 9) (v := .int 0) (ty := .int) (C := RX5) (T := TX5) (N := 7) hx hb hts (by decide +kernel) tyX5 tyX5_ok nmX5 hown hK hP hD hS 3 rfl rfl 6 (by decide) (hts (.fieldLink RX5 177 "RewriteropeModel" "steps" "I") (by decide +kernel)) (fun _ h9 => h9) rfl (by decide +kernel) rfl rfl (Nat.le_of_ble_eq_true rfl) dX5_run_77 (fun H locs hP hD hS => ?_)
  have hP : va_P (dC, dI) vwCl [(h1, .inl (k0, 4, .inr (.inr (.inr (.inr (va_up (va_up (va_up (va_up (fun _ => none) 0 (some ge5)) 1 (some ge5)) 2 (some ge5)) 3 (some ge5))))))), (q1, .inl (cq1, 1, .inl (upd (fun _ => 0) 0 0))), (h2, .inr (3, [.int 0, .ref gde, .int 0])), (h0, .inr (9, [.int 0, .ref h1, .ref h2, .ref z0, .int 0, .int 0, .int 0]))] H := hP
  have hD : va_D A [(h1, .inl (k0, 4, .inr (.inr (.inr (.inr (va_up (va_up (va_up (va_up (fun _ => none) 0 (some ge5)) 1 (some ge5)) 2 (some ge5)) 3 (some ge5))))))), (q1, .inl (cq1, 1, .inl (upd (fun _ => 0) 0 0))), (h2, .inr (3, [.int 0, .ref gde, .int 0])), (h0, .inr (9, [.int 0, .ref h1, .ref h2, .ref z0, .int 0, .int 0, .int 0]))] := hD
  refine lv_aload hx hb dX5_run_80 (lv_at hl 0 rfl) ?_
  refine lv_iconst (v := 0) hx hb dX5_run_82 (by decide) ?_
  refine va_iald (D := (dC, dI)) hx hb hK hP 1 1 rfl rfl (by unfold vp_in; decide) dX5_run_83 ?_
  refine lv_topi (fun y4 ey4 => ?_)
  obtain rfl : y4 = 0 := ey4.trans (by decide)
  have hP := hP.sub (ws' := [(h0, .inr (9, [.int 0, .ref h1, .ref h2, .ref z0, .int 0, .int 0, .int 0])), (h1, .inl (k0, 4, .inr (.inr (.inr (.inr (va_up (va_up (va_up (va_up (fun _ => none) 0 (some ge5)) 1 (some ge5)) 2 (some ge5)) 3 (some ge5))))))), (h2, .inr (3, [.int 0, .ref gde, .int 0])), (q1, .inl (cq1, 1, .inl (upd (fun _ => 0) 0 0)))]) [3, 0, 2, 1] rfl
  have hD := hD.sub (ws' := [(h0, .inr (9, [.int 0, .ref h1, .ref h2, .ref z0, .int 0, .int 0, .int 0])), (h1, .inl (k0, 4, .inr (.inr (.inr (.inr (va_up (va_up (va_up (va_up (fun _ => none) 0 (some ge5)) 1 (some ge5)) 2 (some ge5)) 3 (some ge5))))))), (h2, .inr (3, [.int 0, .ref gde, .int 0])), (q1, .inl (cq1, 1, .inl (upd (fun _ => 0) 0 0)))]) [3, 0, 2, 1] (by decide) rfl
  have hP := hP.sub (ws' := [(h0, .inr (9, [.int 0, .ref h1, .ref h2, .ref z0, .int 0, .int 0, .int 0]))]) [0] rfl
  have hD := hD.sub (ws' := [(h0, .inr (9, [.int 0, .ref h1, .ref h2, .ref z0, .int 0, .int 0, .int 0]))]) [0] (by decide) rfl
  exact W.iret (v := 0) hx hb hr (fun t ht hW => ⟨⟨0, (), rfl, rfl, q1, cq1, by rw [ht]; exact hP, va_K.moved hW.alike hK, hD⟩, hS.F ht⟩) hS.2.2 dX5_run_84
set_option maxHeartbeats 4000000 in
set_option maxRecDepth 100000 in
theorem kx_X3_run_11 (l : Launch) (hst : l.stackTraces = false) (dC : Nat → ClassId) (dI : Nat → Nat → Nat) (ge5 gea gv5 gva gde gic gi0 : Nat) (h0 : Nat) (z0 : Nat) (z1 : Nat) (z2 : Nat) (z3 : Nat) (z4 : Nat) (z5 : Nat) (sz : Nat) (i0 : Int32) (i0_l : (0 : Int) ≤ i0.toInt) (i0_u : i0.toInt ≤ (3 : Int)) (i1 : Int32) (i1_l : (0 : Int) ≤ i1.toInt) (i1_u : i1.toInt ≤ (2 : Int)) (i2 : Int32) (i2_l : (41 : Int) ≤ i2.toInt) (i2_u : i2.toInt ≤ (2147483647 : Int)) : vx_Met l yX3_run wsX3_run ({ frames := 6, cells := 1, slots := 6, locals := 120 }) (va_Pc [.ref h0, .int i0, .int i1, .int i2] (fun U => U.heap.size = sz ∧ va_P (dC, dI) vwCl [(h0, .inr (7, [.ref z0, .ref z1, .ref z2, .ref z3, .ref z4, .ref z5, .int 0, .int 0, .int 0]))] U.heap ∧ va_K (dC, dI) vwCl [] U ∧ va_D (fun _ => True) [(h0, .inr (7, [.ref z0, .ref z1, .ref z2, .ref z3, .ref z4, .ref z5, .int 0, .int 0, .int 0]))] ∧ gv ge5 gea gv5 gva gde gic gi0 (va_A [(h0, .inr (7, [.ref z0, .ref z1, .ref z2, .ref z3, .ref z4, .ref z5, .int 0, .int 0, .int 0]))] sz) U U.heap)) (va_Qi (fun (_ : Int32) (_ : Unit) => False) (fun _ _ => True) (va_A [(h0, .inr (7, [.ref z0, .ref z1, .ref z2, .ref z3, .ref z4, .ref z5, .int 0, .int 0, .int 0]))] sz)) (vx_X (fun _ : Unit => True) (fun (E : String) (_ : Unit) (t : State) => E = "java/lang/IllegalArgumentException" ∧ va_P (dC, dI) vwCl [(h0, .inr (7, [.ref z0, .ref z1, .ref z2, .ref z3, .ref z4, .ref z5, .int 0, .int 0, .int 0]))] t.heap ∧ va_K (dC, dI) vwCl [] t ∧ va_D (va_A [(h0, .inr (7, [.ref z0, .ref z1, .ref z2, .ref z3, .ref z4, .ref z5, .int 0, .int 0, .int 0]))] sz) [(h0, .inr (7, [.ref z0, .ref z1, .ref z2, .ref z3, .ref z4, .ref z5, .int 0, .int 0, .int 0]))]) (va_A [(h0, .inr (7, [.ref z0, .ref z1, .ref z2, .ref z3, .ref z4, .ref z5, .int 0, .int 0, .int 0]))] sz)) 1 6 (va_A [(h0, .inr (7, [.ref z0, .ref z1, .ref z2, .ref z3, .ref z4, .ref z5, .int 0, .int 0, .int 0]))] sz) := by
  refine vx_ofW (cc := cX3_run) (maxL := 5) (ret := (some .int)) (by decide) rfl ?_
  intro p e s m args below meth c s₁ B hml ht9 hv
  obtain ⟨rfl, hsz, hP, hK, hD0, hG⟩ := hv
  have hx := B.exec
  have hb := B.bytes
  have hr := B.returns
  have hts := atoms_spec (ws := wsX3_run) B.pre
  have hown : s.vm.findClass RX3 = some m.cls := findClass_of_methodNamed B.named
  have hlocks := B.notSynchronized
  subst hsz
  have hD := hD0.self (sz := s.heap.size)
  generalize hAe : va_A [(h0, .inr (7, [.ref z0, .ref z1, .ref z2, .ref z3, .ref z4, .ref z5, .int 0, .int 0, .int 0]))] s.heap.size = A at hD hG ⊢
  obtain ⟨⟨g_AO_Text, g_AO_String, g_AO_Object, g_nm_RX1_20, g_nm_RX0_17, g_nm_RX3_31, g_nm_RX2_44, g_nm_RL_121, g_nf_RL_13, g_nf_RL_47, g_ca_IO, g_ca_IA, g_ca_IS, g_ca_IntObj, g_ca_StrObj, g_de_RT, g_de_EX, g_de_TH, g_nc_IA_IO, g_nc_IS_IO, g_nc_IS_IA⟩, ⟨g_s3, g_s5, g_sa, g_x278, g_x280, g_x282, g_x284, g_x286, g_x180, g_x238, g_x250⟩, ⟨g_o5, g_c5, g_v5, g_t5, g_oa, g_ca, g_va, g_ta, g_zc, g_zd, g_td, g_zf, g_zU, g_zN, g_zh, g_zk, g_tk, g_oi, g_vi⟩⟩ := id hG
  have hA : ∀ q : Nat, s.heap.size ≤ q → A q := fun q h => by rw [← hAe]; exact Or.inr h
  have hS : va_S A s.heap s.heap [] := va_S.rf
  have hP : va_P (dC, dI) vwCl [(h0, .inr (7, [.ref z0, .ref z1, .ref z2, .ref z3, .ref z4, .ref z5, .int 0, .int 0, .int 0]))] s.heap := hP
  have hl := lv_entry ([.ref h0, .int i0, .int i1, .int i2]) (n := 5) (Nat.le_of_ble_eq_true rfl)
  rw [lg_entry_eq]
  generalize (lg_sl ([.ref h0, .int i0, .int i1, .int i2]) ++ List.replicate (5 - (lg_sl ([.ref h0, .int i0, .int i1, .int i2])).length) Slot.unset).toArray = ls at hl ⊢
  have hl : lv_has ls 5 [(0, .ref h0), (1, .int i0), (2, .int i1), (3, .int i2)] := hl
  refine lv_iload_n hx hb dX3_run_0 rfl (lv_at hl 1 rfl) ?_
  have hPc := hP.sub (ws' := []) [] rfl
  have hDc := hD.sub (ws' := []) [] (by decide) rfl
  have hKc := hK.sub (tys' := []) [] rfl
  have hFc := va_free (wc := []) hD hS hA [] rfl
  refine va_callv (va_runS (As := [.int i0]) (rest := []) ⟨hx, hb, hml, hown, hts⟩ (kx_X3_needRope_4 l dC dI s.heap.size i0 i0_l i0_u) (cwS 1 hts gX3_run_X3_needRope rfl rfl rfl (by decide +kernel) ⟨Nat.le_of_ble_eq_true rfl, Nat.le_of_ble_eq_true rfl⟩) ⟨fun a U g mk q => by obtain ⟨q0, q1, qP, qK, qD⟩ := q; exact ⟨q0, q1, qP, va_K.moved (u := U) (U := U.calling g mk a) (Vm.Alike.refl U.vm) qK, qD⟩, fun U hU hW => ⟨rfl, by rw [hU], by rw [hU]; exact hPc, va_K.moved hW.alike hKc, hDc.weaken (fun _ _ _ _ => trivial)⟩⟩ rfl rfl hl.1 rfl (lv_room (Nat.le_of_ble_eq_true rfl)) dX3_run_1 ⟨Nat.le_of_ble_eq_true rfl, Nat.le_of_ble_eq_true rfl⟩) hS (fun q _ h => hFc q h) hFc (fun u t H1 locs ht hvm hw hB hz1 hk1 hS => ?_)
  obtain ⟨hP1, hK1, hD1⟩ := hB
  rw [ht] at hP1
  have hK1 := va_K.moved hvm.symm hK1
  obtain ⟨hP, hD⟩ := va_join (wr := [(h0, .inr (7, [.ref z0, .ref z1, .ref z2, .ref z3, .ref z4, .ref z5, .int 0, .int 0, .int 0]))]) (w1 := []) hP hD [] [0] rfl rfl (by decide) (by decide) hk1 hFc hP1 hD1
  generalize H1 = H at hP hS ⊢
  have hP : va_P (dC, dI) vwCl [(h0, .inr (7, [.ref z0, .ref z1, .ref z2, .ref z3, .ref z4, .ref z5, .int 0, .int 0, .int 0]))] H := hP
  have hD : va_D A [(h0, .inr (7, [.ref z0, .ref z1, .ref z2, .ref z3, .ref z4, .ref z5, .int 0, .int 0, .int 0]))] := hD
  refine lv_iload_n hx hb dX3_run_4 rfl (lv_at hl 2 rfl) ?_
  have hPc := hP.sub (ws' := []) [] rfl
  have hDc := hD.sub (ws' := []) [] (by decide) rfl
  have hKc := hK.sub (tys' := []) [] rfl
  have hFc := va_free (wc := []) hD hS hA [] rfl
  refine va_callv (va_runS (As := [.int i1]) (rest := []) ⟨hx, hb, hml, hown, hts⟩ (kx_X3_needWay_0 l dC dI H.size i1 i1_l i1_u) (cwS 1 hts gX3_run_X3_needWay rfl rfl rfl (by decide +kernel) ⟨Nat.le_of_ble_eq_true rfl, Nat.le_of_ble_eq_true rfl⟩) ⟨fun a U g mk q => by obtain ⟨q0, q1, qP, qK, qD⟩ := q; exact ⟨q0, q1, qP, va_K.moved (u := U) (U := U.calling g mk a) (Vm.Alike.refl U.vm) qK, qD⟩, fun U hU hW => ⟨rfl, by rw [hU], by rw [hU]; exact hPc, va_K.moved hW.alike hKc, hDc.weaken (fun _ _ _ _ => trivial)⟩⟩ rfl rfl hl.1 rfl (lv_room (Nat.le_of_ble_eq_true rfl)) dX3_run_5 ⟨Nat.le_of_ble_eq_true rfl, Nat.le_of_ble_eq_true rfl⟩) hS (fun q _ h => hFc q h) hFc (fun u t H1 locs ht hvm hw hB hz1 hk1 hS => ?_)
  obtain ⟨hP1, hK1, hD1⟩ := hB
  rw [ht] at hP1
  have hK1 := va_K.moved hvm.symm hK1
  obtain ⟨hP, hD⟩ := va_join (wr := [(h0, .inr (7, [.ref z0, .ref z1, .ref z2, .ref z3, .ref z4, .ref z5, .int 0, .int 0, .int 0]))]) (w1 := []) hP hD [] [0] rfl rfl (by decide) (by decide) hk1 hFc hP1 hD1
  generalize H1 = H at hP hS ⊢
  have hP : va_P (dC, dI) vwCl [(h0, .inr (7, [.ref z0, .ref z1, .ref z2, .ref z3, .ref z4, .ref z5, .int 0, .int 0, .int 0]))] H := hP
  have hD : va_D A [(h0, .inr (7, [.ref z0, .ref z1, .ref z2, .ref z3, .ref z4, .ref z5, .int 0, .int 0, .int 0]))] := hD
  refine lv_iload_n hx hb dX3_run_8 rfl (lv_at hl 3 rfl) ?_
  refine lv_iconst (v := 1) hx hb dX3_run_9 (by decide) ?_
  refine lv_icmp_lt (tgt := 19) hx hb dX3_run_10 (by decide) (fun c9 => absurd c9 (fun c8 => absurd (Int32.lt_iff_toInt_lt.mp c8) (by rw [show (1 : Int32).toInt = 1 from by decide]; omega))) (fun _ => ?_)
  refine lv_iload_n hx hb dX3_run_13 rfl (lv_at hl 3 rfl) ?_
  refine lv_bipush (v := 40) hx hb dX3_run_14 (by decide) ?_
  refine lv_icmp_le (tgt := 29) hx hb dX3_run_16 (by decide) (fun c9 => absurd c9 (fun c8 => absurd (Int32.le_iff_toInt_le.mp c8) (by rw [show (40 : Int32).toInt = 40 from by decide]; omega))) (fun _ => ?_)
  obtain ⟨sa9, hsa9⟩ := g_x180
  have hin9 : ∀ w ∈ (vx_atS RX3 99 "java/lang/IllegalArgumentException" ["java/lang/RuntimeException", "java/lang/Exception"]).filter goodWord, w ∈ wsX3_run := (by intro w hw; first | exact List.mem_cons_of_mem _ (List.mem_append_right _ hw) | exact List.mem_cons_of_mem _ (List.mem_append_left _ (List.mem_append_right _ hw)))
  exact vx_throwS (cls := "java/lang/IllegalArgumentException") (text := "no such number of steps") (names := ["java/lang/RuntimeException", "java/lang/Exception"]) (ic := 99) hx hb hst hown (by decide) (by decide) (hts (.classLink RX3 95 "java/lang/IllegalArgumentException") (by decide +kernel)) (hts (.initialized "java/lang/IllegalArgumentException") (by decide +kernel)) hsa9 (vx_hat (B := [.declares (Bundle.initS "java/lang/RuntimeException"), .declares (Bundle.initS "java/lang/Exception"), .declares (Bundle.initS Bundle.tN), .castable "java/lang/IllegalArgumentException" "java/lang/IllegalArgumentException"]) (fun w hw => hts w (hin9 w hw)) (fun w hw => by rw [xbad_IA] at hw; exact hw) (vx_c (va_Nw.use rfl g_de_RT) (vx_c (va_Nw.use rfl g_de_EX) (vx_c (va_Nw.use rfl g_de_TH) (vx_c (va_Nw.use rfl g_ca_IA) vx_n))))) (by decide +kernel) g_zU g_zN hS (by rw [hml]; exact hl.1) dX3_run_19 dX3_run_22 dX3_run_23 dX3_run_25 dX3_run_28 (fun x hx9 => (ht9 x hx9).elim) (Nat.le_of_ble_eq_true rfl) (Nat.le_of_ble_eq_true rfl) (Nat.le_of_ble_eq_true rfl) (Nat.le_of_ble_eq_true rfl) hlocks (fun t ha hz hk => ⟨(), trivial, ⟨rfl, hP.kept (fun k q hq => hk _ (vx_lt hP hq)), va_K.moved ha hK, hD⟩, Nat.le_trans hS.1 hz, fun q h1 h2 => (hk q (Nat.lt_of_lt_of_le h1 hS.1)).trans (hS.2.1 q h1 h2)⟩) hS.2.2 (Nat.le_refl _) (Nat.le_refl _)
set_option maxHeartbeats 4000000 in
set_option maxRecDepth 100000 in
theorem kx_L_run_8 (l : Launch) (hst : l.stackTraces = false) (dC : Nat → ClassId) (dI : Nat → Nat → Nat) (ge5 gea gv5 gva gde gic gi0 : Nat) (h0 : Nat) (z0 : Nat) (z1 : Nat) (z2 : Nat) (z3 : Nat) (z4 : Nat) (z5 : Nat) (z6 : Nat) (sz : Nat) (i0 : Int32) (i0_l : (0 : Int) ≤ i0.toInt) (i0_u : i0.toInt ≤ (3 : Int)) (i1 : Int32) (i1_l : (0 : Int) ≤ i1.toInt) (i1_u : i1.toInt ≤ (2 : Int)) (i2 : Int32) (i2_l : (41 : Int) ≤ i2.toInt) (i2_u : i2.toInt ≤ (2147483647 : Int)) : Met l yL_run wsL_run ({ frames := 7, cells := 1, slots := 6, locals := 144 }) (va_Pc [.ref h0, .int i0, .int i1, .int i2, .ref z0] (fun U => U.heap.size = sz ∧ va_P (dC, dI) vwCl [(h0, .inr (7, [.ref z1, .ref z2, .ref z3, .ref z4, .ref z5, .ref z6, .int 0, .int 0, .int 0]))] U.heap ∧ va_K (dC, dI) vwCl [] U ∧ va_D (fun _ => True) [(h0, .inr (7, [.ref z1, .ref z2, .ref z3, .ref z4, .ref z5, .ref z6, .int 0, .int 0, .int 0]))] ∧ gv ge5 gea gv5 gva gde gic gi0 (va_A [(h0, .inr (7, [.ref z1, .ref z2, .ref z3, .ref z4, .ref z5, .ref z6, .int 0, .int 0, .int 0]))] sz) U U.heap)) (va_Qi (fun (r : Int32) (_ : Unit) => r = 2) (fun (_ : Unit) (t : State) => va_P (dC, dI) vwCl [(h0, .inr (7, [.ref z1, .ref z2, .ref z3, .ref z4, .ref z5, .ref z6, .int 0, .int 0, .int 0]))] t.heap ∧ va_K (dC, dI) vwCl [] t ∧ va_D (va_A [(h0, .inr (7, [.ref z1, .ref z2, .ref z3, .ref z4, .ref z5, .ref z6, .int 0, .int 0, .int 0]))] sz) [(h0, .inr (7, [.ref z1, .ref z2, .ref z3, .ref z4, .ref z5, .ref z6, .int 0, .int 0, .int 0]))]) (va_A [(h0, .inr (7, [.ref z1, .ref z2, .ref z3, .ref z4, .ref z5, .ref z6, .int 0, .int 0, .int 0]))] sz)) 1 6 (va_A [(h0, .inr (7, [.ref z1, .ref z2, .ref z3, .ref z4, .ref z5, .ref z6, .int 0, .int 0, .int 0]))] sz) := by
  refine kz_ofWH (cc := cL_run) (maxL := 6) (ret := (some .int)) (hh := [(0, 13, 16, 19), (0, 13, 20, 21)]) (by decide) rfl ?_
  intro p e s m args below meth c s₁ B hml hv
  obtain ⟨rfl, hsz, hP, hK, hD0, hG⟩ := hv
  have hx := B.exec
  have hb := B.bytes
  have hr := B.returns
  have hts := atoms_spec (ws := wsL_run) B.pre
  have hown : s.vm.findClass RL = some m.cls := findClass_of_methodNamed B.named
  have htab := vx_table (x := yL_run) B (hts (.codeWith yL_run cL_run 6 (some .int) [(0, 13, 16, 19), (0, 13, 20, 21)]) (by decide +kernel))
  have hlocks := B.notSynchronized
  subst hsz
  have hD := hD0.self (sz := s.heap.size)
  generalize hAe : va_A [(h0, .inr (7, [.ref z1, .ref z2, .ref z3, .ref z4, .ref z5, .ref z6, .int 0, .int 0, .int 0]))] s.heap.size = A at hD hG ⊢
  obtain ⟨⟨g_AO_Text, g_AO_String, g_AO_Object, g_nm_RX1_20, g_nm_RX0_17, g_nm_RX3_31, g_nm_RX2_44, g_nm_RL_121, g_nf_RL_13, g_nf_RL_47, g_ca_IO, g_ca_IA, g_ca_IS, g_ca_IntObj, g_ca_StrObj, g_de_RT, g_de_EX, g_de_TH, g_nc_IA_IO, g_nc_IS_IO, g_nc_IS_IA⟩, ⟨g_s3, g_s5, g_sa, g_x278, g_x280, g_x282, g_x284, g_x286, g_x180, g_x238, g_x250⟩, ⟨g_o5, g_c5, g_v5, g_t5, g_oa, g_ca, g_va, g_ta, g_zc, g_zd, g_td, g_zf, g_zU, g_zN, g_zh, g_zk, g_tk, g_oi, g_vi⟩⟩ := id hG
  have hA : ∀ q : Nat, s.heap.size ≤ q → A q := fun q h => by rw [← hAe]; exact Or.inr h
  have hS : va_S A s.heap s.heap [] := va_S.rf
  have hP : va_P (dC, dI) vwCl [(h0, .inr (7, [.ref z1, .ref z2, .ref z3, .ref z4, .ref z5, .ref z6, .int 0, .int 0, .int 0]))] s.heap := hP
  have hl := lv_entry ([.ref h0, .int i0, .int i1, .int i2, .ref z0]) (n := 6) (Nat.le_of_ble_eq_true rfl)
  rw [lg_entry_eq]
  generalize (lg_sl ([.ref h0, .int i0, .int i1, .int i2, .ref z0]) ++ List.replicate (6 - (lg_sl ([.ref h0, .int i0, .int i1, .int i2, .ref z0])).length) Slot.unset).toArray = ls at hl ⊢
  have hl : lv_has ls 6 [(0, .ref h0), (1, .int i0), (2, .int i1), (3, .int i2), (4, .ref z0)] := hl
  refine lv_aload hx hb dL_run_0 (lv_at hl 4 rfl) ?_
  refine lv_aload_n hx hb dL_run_2 rfl (lv_at hl 0 rfl) ?_
  refine lv_iload_n hx hb dL_run_3 rfl (lv_at hl 1 rfl) ?_
  refine lv_iload_n hx hb dL_run_4 rfl (lv_at hl 2 rfl) ?_
  refine lv_iload_n hx hb dL_run_5 rfl (lv_at hl 3 rfl) ?_
  have hPc := hP.sub (ws' := [(h0, .inr (7, [.ref z1, .ref z2, .ref z3, .ref z4, .ref z5, .ref z6, .int 0, .int 0, .int 0]))]) [0] rfl
  have hDc := hD.sub (ws' := [(h0, .inr (7, [.ref z1, .ref z2, .ref z3, .ref z4, .ref z5, .ref z6, .int 0, .int 0, .int 0]))]) [0] (by decide) rfl
  have hKc := hK.sub (tys' := []) [] rfl
  have hFc := va_free (wc := [(h0, .inr (7, [.ref z1, .ref z2, .ref z3, .ref z4, .ref z5, .ref z6, .int 0, .int 0, .int 0]))]) hD hS hA [0] rfl
  refine vx_calli (vx_runV (As := [.int i0, .int i1, .int i2]) (rest := [.ref z0]) ⟨hx, hb, hml, hown, hts⟩ (kx_X3_run_11 l hst dC dI ge5 gea gv5 gva gde gic gi0 h0 z1 z2 z3 z4 z5 z6 s.heap.size i0 i0_l i0_u i1 i1_l i1_u i2 i2_l i2_u) (cwV 3 hts gL_run_X3_run rfl rfl rfl (by decide +kernel) ⟨Nat.le_of_ble_eq_true rfl, Nat.le_of_ble_eq_true rfl⟩) ⟨fun a U g mk q => by obtain ⟨q0, q1, qP, qK, qD, qG⟩ := q; exact ⟨q0, q1, qP, va_K.moved (u := U) (U := U.calling g mk a) (Vm.Alike.refl U.vm) qK, qD, gv.fb qG⟩, va_recv hKc hPc (ci := 7) (q0 := 0) rfl rfl, fun U hU hW => ⟨rfl, by rw [hU], by rw [hU]; exact hPc, va_K.moved hW.alike hKc, hDc.weaken (fun _ _ _ _ => trivial), gv.pass hW hU hS hFc hG⟩⟩ rfl rfl hl.1 rfl (lv_room (Nat.le_of_ble_eq_true rfl)) dL_run_6 ⟨Nat.le_of_ble_eq_true rfl, Nat.le_of_ble_eq_true rfl⟩) hS (fun q _ h => hFc q h) hFc (fun q _ h => hFc q h) (fun E ce q9 u t H1 locs ht hvm hpx hB hz1 hk1 hS hce hcv hcl => ?_) (fun r9 u t H1 locs ht hvm hw hB hz1 hk1 hS => hw.elim)
  obtain ⟨rfl, hP1, hK1, hD1⟩ := hB
  rw [ht] at hP1
  have hK1 := va_K.moved hvm.symm hK1
  obtain ⟨hP, hD⟩ := va_join (wr := []) (w1 := [(h0, .inr (7, [.ref z1, .ref z2, .ref z3, .ref z4, .ref z5, .ref z6, .int 0, .int 0, .int 0]))]) hP hD [0] [] rfl rfl (by decide) (by decide) hk1 hFc hP1 hD1
  generalize H1 = H at hP hS hce ⊢
  have hP : va_P (dC, dI) vwCl [(h0, .inr (7, [.ref z1, .ref z2, .ref z3, .ref z4, .ref z5, .ref z6, .int 0, .int 0, .int 0]))] H := hP
  have hD : va_D A [(h0, .inr (7, [.ref z1, .ref z2, .ref z3, .ref z4, .ref z5, .ref z6, .int 0, .int 0, .int 0]))] := hD
  refine vx_catch (own := RL) (name := "java/lang/IllegalArgumentException") hown (tableOf [(0, 13, 16, 19)]) ⟨0, 13, 20, 21⟩ (tableOf []) (by rw [htab]; rfl) (fun z hz => by
      simp only [tableOf, List.map_cons, List.map_nil, List.mem_cons, List.not_mem_nil, or_false] at hz
      rcases hz with rfl
      · exact Or.inr ⟨by decide, "java/lang/IndexOutOfBoundsException", hts (.classLink RL 19 "java/lang/IndexOutOfBoundsException") (by decide +kernel), g_nc_IA_IO⟩) (by decide +kernel) (by decide) (hts (.classLink RL 21 "java/lang/IllegalArgumentException") (by decide +kernel)) (va_Nw.use rfl g_ca_IA) hce hcv hcl ?_
  refine W.eq (g2 := F0 m 20 ls [.ref q9]) rfl ?_
  refine lv_astore (lv' := [(5, .ref q9), (0, .ref h0), (1, .int i0), (2, .int i1), (3, .int i2), (4, .ref z0)]) hx hb dL_run_20 hl (by decide) rfl (fun ls hl => ?_)
  refine lv_iconst (v := 2) hx hb dL_run_22 (by decide) ?_
  exact W.iret (v := 2) hx hb hr (fun t ht hW => ⟨⟨2, (), rfl, rfl, by rw [ht]; exact hP, va_K.moved hW.alike hK, hD⟩, hS.F ht⟩) hS.2.2 dL_run_23
set_option maxHeartbeats 4000000 in
set_option maxRecDepth 100000 in
theorem kx_X5_isIn_26 (l : Launch) (dC : Nat → ClassId) (dI : Nat → Nat → Nat) (sz : Nat) (i0 : Int32) (i0_l : (41 : Int) ≤ i0.toInt) (i0_u : i0.toInt ≤ (2147483647 : Int)) : Met l yX5_isIn wsX5_isIn ({ frames := 0, cells := 0, slots := 0, locals := 0 }) (va_Pc [.int i0, .int 1, .int 40] (fun U => U.heap.size = sz ∧ va_P (dC, dI) vwCl [] U.heap ∧ va_K (dC, dI) vwCl [] U ∧ va_D (fun _ => True) [])) (va_Qi (fun (r : Int32) (_ : Unit) => r = 0) (fun (_ : Unit) (t : State) => va_P (dC, dI) vwCl [] t.heap ∧ va_K (dC, dI) vwCl [] t ∧ va_D (va_A [] sz) []) (va_A [] sz)) 0 0 (va_A [] sz) := by
  refine Met.ofW (cc := cX5_isIn) (maxL := 3) (ret := (some .boolean)) (by decide) rfl ?_
  intro p e s m args below meth c s₁ B hml hv
  obtain ⟨rfl, hsz, hP, hK, hD0⟩ := hv
  have hx := B.exec
  have hb := B.bytes
  have hr := B.returns
  have hts := atoms_spec (ws := wsX5_isIn) B.pre
  have hown : s.vm.findClass RX5 = some m.cls := findClass_of_methodNamed B.named
  have hlocks := B.notSynchronized
  subst hsz
  have hD := hD0.self (sz := s.heap.size)
  generalize hAe : va_A [] s.heap.size = A at hD ⊢
  have hA : ∀ q : Nat, s.heap.size ≤ q → A q := fun q h => by rw [← hAe]; exact Or.inr h
  have hS : va_S A s.heap s.heap [] := va_S.rf
  have hP : va_P (dC, dI) vwCl [] s.heap := hP
  have hl := lv_entry ([.int i0, .int 1, .int 40]) (n := 3) (Nat.le_of_ble_eq_true rfl)
  rw [lg_entry_eq]
  generalize (lg_sl ([.int i0, .int 1, .int 40]) ++ List.replicate (3 - (lg_sl ([.int i0, .int 1, .int 40])).length) Slot.unset).toArray = ls at hl ⊢
  have hl : lv_has ls 3 [(0, .int i0), (1, .int 1), (2, .int 40)] := hl
  refine lv_iload_n hx hb dX5_isIn_0 rfl (lv_at hl 0 rfl) ?_
  refine lv_iload_n hx hb dX5_isIn_1 rfl (lv_at hl 1 rfl) ?_
  refine lv_icmp_lt (tgt := 14) hx hb dX5_isIn_2 (by decide) (fun c9 => absurd c9 (fun c8 => absurd (Int32.lt_iff_toInt_lt.mp c8) (by rw [show (1 : Int32).toInt = 1 from by decide]; omega))) (fun _ => ?_)
  refine lv_iload_n hx hb dX5_isIn_5 rfl (lv_at hl 0 rfl) ?_
  refine lv_iload_n hx hb dX5_isIn_6 rfl (lv_at hl 2 rfl) ?_
  refine lv_icmp_gt (tgt := 14) hx hb dX5_isIn_7 (by decide) (fun _ => ?_) (fun c9 => absurd (Int32.lt_iff_toInt_lt.mpr (by rw [show (40 : Int32).toInt = 40 from by decide]; omega)) c9)
  refine lv_iconst (v := 0) hx hb dX5_isIn_14 (by decide) ?_
  exact W.zret (v := 0) hx hb hr (by decide) (fun t ht hW => ⟨⟨0, (), rfl, rfl, by rw [ht]; exact hP, va_K.moved hW.alike hK, hD⟩, hS.F ht⟩) hS.2.2 dX5_isIn_15
set_option maxHeartbeats 4000000 in
set_option maxRecDepth 100000 in
theorem kx_X5_run_8 (l : Launch) (dC : Nat → ClassId) (dI : Nat → Nat → Nat) (h0 : Nat) (z0 : Nat) (z1 : Nat) (z2 : Nat) (sz : Nat) (i0 : Int32) (i0_l : (0 : Int) ≤ i0.toInt) (i0_u : i0.toInt ≤ (3 : Int)) (i1 : Int32) (i1_l : (0 : Int) ≤ i1.toInt) (i1_u : i1.toInt ≤ (2 : Int)) (i2 : Int32) (i2_l : (41 : Int) ≤ i2.toInt) (i2_u : i2.toInt ≤ (2147483647 : Int)) : Met l yX5_run wsX5_run ({ frames := 2, cells := 0, slots := 0, locals := 42 }) (va_Pc [.ref h0, .int i0, .int i1, .int i2] (fun U => U.heap.size = sz ∧ va_P (dC, dI) vwCl [(h0, .inr (9, [.int 0, .ref z0, .ref z1, .ref z2, .int 0, .int 0, .int 0]))] U.heap ∧ va_K (dC, dI) vwCl [] U ∧ va_D (fun _ => True) [(h0, .inr (9, [.int 0, .ref z0, .ref z1, .ref z2, .int 0, .int 0, .int 0]))])) (va_Qi (fun (r : Int32) (_ : Unit) => r = 0) (fun (_ : Unit) (t : State) => va_P (dC, dI) vwCl [(h0, .inr (9, [.int 2, .ref z0, .ref z1, .ref z2, .int 0, .int 0, .int 0]))] t.heap ∧ va_K (dC, dI) vwCl [] t ∧ va_D (va_A [(h0, .inr (9, [.int 0, .ref z0, .ref z1, .ref z2, .int 0, .int 0, .int 0]))] sz) [(h0, .inr (9, [.int 2, .ref z0, .ref z1, .ref z2, .int 0, .int 0, .int 0]))]) (va_A [(h0, .inr (9, [.int 0, .ref z0, .ref z1, .ref z2, .int 0, .int 0, .int 0]))] sz)) 0 0 (va_A [(h0, .inr (9, [.int 0, .ref z0, .ref z1, .ref z2, .int 0, .int 0, .int 0]))] sz) := by
  refine Met.ofW (cc := cX5_run) (maxL := 5) (ret := (some .int)) (by decide) rfl ?_
  intro p e s m args below meth c s₁ B hml hv
  obtain ⟨rfl, hsz, hP, hK, hD0⟩ := hv
  have hx := B.exec
  have hb := B.bytes
  have hr := B.returns
  have hts := atoms_spec (ws := wsX5_run) B.pre
  have hown : s.vm.findClass RX5 = some m.cls := findClass_of_methodNamed B.named
  have hlocks := B.notSynchronized
  subst hsz
  have hD := hD0.self (sz := s.heap.size)
  generalize hAe : va_A [(h0, .inr (9, [.int 0, .ref z0, .ref z1, .ref z2, .int 0, .int 0, .int 0]))] s.heap.size = A at hD ⊢
  have hA : ∀ q : Nat, s.heap.size ≤ q → A q := fun q h => by rw [← hAe]; exact Or.inr h
  have hS : va_S A s.heap s.heap [] := va_S.rf
  have hP : va_P (dC, dI) vwCl [(h0, .inr (9, [.int 0, .ref z0, .ref z1, .ref z2, .int 0, .int 0, .int 0]))] s.heap := hP
  have hl := lv_entry ([.ref h0, .int i0, .int i1, .int i2]) (n := 5) (Nat.le_of_ble_eq_true rfl)
  rw [lg_entry_eq]
  generalize (lg_sl ([.ref h0, .int i0, .int i1, .int i2]) ++ List.replicate (5 - (lg_sl ([.ref h0, .int i0, .int i1, .int i2])).length) Slot.unset).toArray = ls at hl ⊢
  have hl : lv_has ls 5 [(0, .ref h0), (1, .int i0), (2, .int i1), (3, .int i2)] := hl
  refine lv_aload_n hx hb dX5_run_0 rfl (lv_at hl 0 rfl) ?_
  refine lv_iload_n hx hb dX5_run_1 rfl (lv_at hl 1 rfl) ?_
  have hPc := hP.sub (ws' := []) [] rfl
  have hDc := hD.sub (ws' := []) [] (by decide) rfl
  have hKc := hK.sub (tys' := []) [] rfl
  have hFc := va_free (wc := []) hD hS hA [] rfl
  refine va_calli (va_runS (As := [.int i0]) (rest := [.ref h0]) ⟨hx, hb, hml, hown, hts⟩ (kx_X5_isNo_1 l dC dI s.heap.size i0 i0_l i0_u) (cwS 1 hts gX5_run_X5_isNo rfl rfl rfl (by decide +kernel) ⟨Nat.le_of_ble_eq_true rfl, Nat.le_of_ble_eq_true rfl⟩) ⟨fun a U g mk q => by obtain ⟨q0, q1, qP, qK, qD⟩ := q; exact ⟨q0, q1, qP, va_K.moved (u := U) (U := U.calling g mk a) (Vm.Alike.refl U.vm) qK, qD⟩, fun U hU hW => ⟨rfl, by rw [hU], by rw [hU]; exact hPc, va_K.moved hW.alike hKc, hDc.weaken (fun _ _ _ _ => trivial)⟩⟩ rfl rfl hl.1 rfl (lv_room (Nat.le_of_ble_eq_true rfl)) dX5_run_2 ⟨Nat.le_of_ble_eq_true rfl, Nat.le_of_ble_eq_true rfl⟩) hS (fun q _ h => hFc q h) hFc (fun r9 u t H1 locs ht hvm hw hB hz1 hk1 hS => ?_)
  obtain rfl := hw
  obtain ⟨hP1, hK1, hD1⟩ := hB
  rw [ht] at hP1
  have hK1 := va_K.moved hvm.symm hK1
  obtain ⟨hP, hD⟩ := va_join (wr := [(h0, .inr (9, [.int 0, .ref z0, .ref z1, .ref z2, .int 0, .int 0, .int 0]))]) (w1 := []) hP hD [] [0] rfl rfl (by decide) (by decide) hk1 hFc hP1 hD1
  generalize H1 = H at hP hS ⊢
  have hP : va_P (dC, dI) vwCl [(h0, .inr (9, [.int 0, .ref z0, .ref z1, .ref z2, .int 0, .int 0, .int 0]))] H := hP
  have hD : va_D A [(h0, .inr (9, [.int 0, .ref z0, .ref z1, .ref z2, .int 0, .int 0, .int 0]))] := hD
  refine lv_iload_n hx hb dX5_run_5 rfl (lv_at hl 2 rfl) ?_
  refine lv_iconst (v := 0) hx hb dX5_run_6 (by decide) ?_
  refine lv_iconst (v := 2) hx hb dX5_run_7 (by decide) ?_
  have hPc := hP.sub (ws' := []) [] rfl
  have hDc := hD.sub (ws' := []) [] (by decide) rfl
  have hKc := hK.sub (tys' := []) [] rfl
  have hFc := va_free (wc := []) hD hS hA [] rfl
  refine va_calli (va_runS (As := [.int i1, .int 0, .int 2]) (rest := [.int 0, .ref h0]) ⟨hx, hb, hml, hown, hts⟩ (kx_X5_isIn_21 l dC dI H.size i1 i1_l i1_u) (cwS 3 hts gX5_run_X5_isIn rfl rfl rfl (by decide +kernel) ⟨Nat.le_of_ble_eq_true rfl, Nat.le_of_ble_eq_true rfl⟩) ⟨fun a U g mk q => by obtain ⟨q0, q1, qP, qK, qD⟩ := q; exact ⟨q0, q1, qP, va_K.moved (u := U) (U := U.calling g mk a) (Vm.Alike.refl U.vm) qK, qD⟩, fun U hU hW => ⟨rfl, by rw [hU], by rw [hU]; exact hPc, va_K.moved hW.alike hKc, hDc.weaken (fun _ _ _ _ => trivial)⟩⟩ rfl rfl hl.1 rfl (lv_room (Nat.le_of_ble_eq_true rfl)) dX5_run_8 ⟨Nat.le_of_ble_eq_true rfl, Nat.le_of_ble_eq_true rfl⟩) hS (fun q _ h => hFc q h) hFc (fun r9 u t H1 locs ht hvm hw hB hz1 hk1 hS => ?_)
  obtain rfl := hw
  obtain ⟨hP1, hK1, hD1⟩ := hB
  rw [ht] at hP1
  have hK1 := va_K.moved hvm.symm hK1
  obtain ⟨hP, hD⟩ := va_join (wr := [(h0, .inr (9, [.int 0, .ref z0, .ref z1, .ref z2, .int 0, .int 0, .int 0]))]) (w1 := []) hP hD [] [0] rfl rfl (by decide) (by decide) hk1 hFc hP1 hD1
  generalize H1 = H at hP hS ⊢
  have hP : va_P (dC, dI) vwCl [(h0, .inr (9, [.int 0, .ref z0, .ref z1, .ref z2, .int 0, .int 0, .int 0]))] H := hP
  have hD : va_D A [(h0, .inr (9, [.int 0, .ref z0, .ref z1, .ref z2, .int 0, .int 0, .int 0]))] := hD
  refine lv_if_eq (tgt := 24) hx hb dX5_run_11 (by decide) (fun c9 => absurd c9 (by decide)) (fun _ => ?_)
  refine lv_iload_n hx hb dX5_run_14 rfl (lv_at hl 3 rfl) ?_
  refine lv_iconst (v := 1) hx hb dX5_run_15 (by decide) ?_
  refine lv_bipush (v := 40) hx hb dX5_run_16 (by decide) ?_
  have hPc := hP.sub (ws' := []) [] rfl
  have hDc := hD.sub (ws' := []) [] (by decide) rfl
  have hKc := hK.sub (tys' := []) [] rfl
  have hFc := va_free (wc := []) hD hS hA [] rfl
  refine va_calli (va_runS (As := [.int i2, .int 1, .int 40]) (rest := [.int 0, .ref h0]) ⟨hx, hb, hml, hown, hts⟩ (kx_X5_isIn_26 l dC dI H.size i2 i2_l i2_u) (cwS 3 hts gX5_run_X5_isIn rfl rfl rfl (by decide +kernel) ⟨Nat.le_of_ble_eq_true rfl, Nat.le_of_ble_eq_true rfl⟩) ⟨fun a U g mk q => by obtain ⟨q0, q1, qP, qK, qD⟩ := q; exact ⟨q0, q1, qP, va_K.moved (u := U) (U := U.calling g mk a) (Vm.Alike.refl U.vm) qK, qD⟩, fun U hU hW => ⟨rfl, by rw [hU], by rw [hU]; exact hPc, va_K.moved hW.alike hKc, hDc.weaken (fun _ _ _ _ => trivial)⟩⟩ rfl rfl hl.1 rfl (lv_room (Nat.le_of_ble_eq_true rfl)) dX5_run_18 ⟨Nat.le_of_ble_eq_true rfl, Nat.le_of_ble_eq_true rfl⟩) hS (fun q _ h => hFc q h) hFc (fun r9 u t H1 locs ht hvm hw hB hz1 hk1 hS => ?_)
  obtain rfl := hw
  obtain ⟨hP1, hK1, hD1⟩ := hB
  rw [ht] at hP1
  have hK1 := va_K.moved hvm.symm hK1
  obtain ⟨hP, hD⟩ := va_join (wr := [(h0, .inr (9, [.int 0, .ref z0, .ref z1, .ref z2, .int 0, .int 0, .int 0]))]) (w1 := []) hP hD [] [0] rfl rfl (by decide) (by decide) hk1 hFc hP1 hD1
  generalize H1 = H at hP hS ⊢
  have hP : va_P (dC, dI) vwCl [(h0, .inr (9, [.int 0, .ref z0, .ref z1, .ref z2, .int 0, .int 0, .int 0]))] H := hP
  have hD : va_D A [(h0, .inr (9, [.int 0, .ref z0, .ref z1, .ref z2, .int 0, .int 0, .int 0]))] := hD
  refine lv_if_ne (tgt := 28) hx hb dX5_run_21 (by decide) (fun c9 => absurd (by decide) c9) (fun _ => ?_)
  refine lv_iconst (v := 1) hx hb dX5_run_24 (by decide) ?_
  refine lv_goto (tgt := 29) hx hb dX5_run_25 (by decide) ?_
  refine lv_iconst (v := 0) hx hb dX5_run_29 (by decide) ?_
  have hPc := hP.sub (ws' := [(h0, .inr (9, [.int 0, .ref z0, .ref z1, .ref z2, .int 0, .int 0, .int 0]))]) [0] rfl
  have hDc := hD.sub (ws' := [(h0, .inr (9, [.int 0, .ref z0, .ref z1, .ref z2, .int 0, .int 0, .int 0]))]) [0] (by decide) rfl
  have hKc := hK.sub (tys' := []) [] rfl
  have hFc := va_free (wc := [(h0, .inr (9, [.int 0, .ref z0, .ref z1, .ref z2, .int 0, .int 0, .int 0]))]) hD hS hA [0] rfl
  refine va_calli (va_runV (As := [.int 0, .int 1, .int 0]) (rest := []) ⟨hx, hb, hml, hown, hts⟩ (kx_X5_fails_3 l dC dI h0 z0 z1 z2 H.size) (cwV 3 hts gX5_run_X5_fails rfl rfl rfl (by decide +kernel) ⟨Nat.le_of_ble_eq_true rfl, Nat.le_of_ble_eq_true rfl⟩) ⟨fun a U g mk q => by obtain ⟨q0, q1, qP, qK, qD⟩ := q; exact ⟨q0, q1, qP, va_K.moved (u := U) (U := U.calling g mk a) (Vm.Alike.refl U.vm) qK, qD⟩, va_recv hKc hPc (ci := 9) (q0 := 0) rfl rfl, fun U hU hW => ⟨rfl, by rw [hU], by rw [hU]; exact hPc, va_K.moved hW.alike hKc, hDc.weaken (fun _ _ _ _ => trivial)⟩⟩ rfl rfl hl.1 rfl (lv_room (Nat.le_of_ble_eq_true rfl)) dX5_run_30 ⟨Nat.le_of_ble_eq_true rfl, Nat.le_of_ble_eq_true rfl⟩) hS (fun q _ h => hFc q h) hFc (fun r9 u t H1 locs ht hvm hw hB hz1 hk1 hS => ?_)
  obtain rfl := hw
  obtain ⟨hP1, hK1, hD1⟩ := hB
  rw [ht] at hP1
  have hK1 := va_K.moved hvm.symm hK1
  obtain ⟨hP, hD⟩ := va_join (wr := []) (w1 := [(h0, .inr (9, [.int 2, .ref z0, .ref z1, .ref z2, .int 0, .int 0, .int 0]))]) hP hD [0] [] rfl rfl (by decide) (by decide) hk1 hFc hP1 hD1
  generalize H1 = H at hP hS ⊢
  have hP : va_P (dC, dI) vwCl [(h0, .inr (9, [.int 2, .ref z0, .ref z1, .ref z2, .int 0, .int 0, .int 0]))] H := hP
  have hD : va_D A [(h0, .inr (9, [.int 2, .ref z0, .ref z1, .ref z2, .int 0, .int 0, .int 0]))] := hD
  refine lv_if_eq (tgt := 38) hx hb dX5_run_33 (by decide) (fun c9 => absurd c9 (by decide)) (fun _ => ?_)
  refine lv_iconst (v := 0) hx hb dX5_run_36 (by decide) ?_
  exact W.iret (v := 0) hx hb hr (fun t ht hW => ⟨⟨0, (), rfl, rfl, by rw [ht]; exact hP, va_K.moved hW.alike hK, hD⟩, hS.F ht⟩) hS.2.2 dX5_run_37
set_option maxHeartbeats 4000000 in
set_option maxRecDepth 100000 in
theorem kx_X3_run_12 (l : Launch) (hst : l.stackTraces = false) (dC : Nat → ClassId) (dI : Nat → Nat → Nat) (ge5 gea gv5 gva gde gic gi0 : Nat) (h0 : Nat) (z0 : Nat) (z1 : Nat) (z2 : Nat) (z3 : Nat) (z4 : Nat) (z5 : Nat) (sz : Nat) (i0 : Int32) (i0_l : ((-2147483648) : Int) ≤ i0.toInt) (i0_u : i0.toInt ≤ ((-1) : Int)) (i1 : Int32) (i1_l : (0 : Int) ≤ i1.toInt) (i1_u : i1.toInt ≤ (2 : Int)) (i2 : Int32) (i2_l : ((-2147483648) : Int) ≤ i2.toInt) (i2_u : i2.toInt ≤ (0 : Int)) : vx_Met l yX3_run wsX3_run ({ frames := 7, cells := 1, slots := 6, locals := 140 }) (va_Pc [.ref h0, .int i0, .int i1, .int i2] (fun U => U.heap.size = sz ∧ va_P (dC, dI) vwCl [(h0, .inr (7, [.ref z0, .ref z1, .ref z2, .ref z3, .ref z4, .ref z5, .int 0, .int 0, .int 0]))] U.heap ∧ va_K (dC, dI) vwCl [] U ∧ va_D (fun _ => True) [(h0, .inr (7, [.ref z0, .ref z1, .ref z2, .ref z3, .ref z4, .ref z5, .int 0, .int 0, .int 0]))] ∧ gv ge5 gea gv5 gva gde gic gi0 (va_A [(h0, .inr (7, [.ref z0, .ref z1, .ref z2, .ref z3, .ref z4, .ref z5, .int 0, .int 0, .int 0]))] sz) U U.heap)) (va_Qi (fun (_ : Int32) (_ : Unit) => False) (fun _ _ => True) (va_A [(h0, .inr (7, [.ref z0, .ref z1, .ref z2, .ref z3, .ref z4, .ref z5, .int 0, .int 0, .int 0]))] sz)) (vx_X (fun _ : Unit => True) (fun (E : String) (_ : Unit) (t : State) => E = "java/lang/IndexOutOfBoundsException" ∧ va_P (dC, dI) vwCl [(h0, .inr (7, [.ref z0, .ref z1, .ref z2, .ref z3, .ref z4, .ref z5, .int 0, .int 0, .int 0]))] t.heap ∧ va_K (dC, dI) vwCl [] t ∧ va_D (va_A [(h0, .inr (7, [.ref z0, .ref z1, .ref z2, .ref z3, .ref z4, .ref z5, .int 0, .int 0, .int 0]))] sz) [(h0, .inr (7, [.ref z0, .ref z1, .ref z2, .ref z3, .ref z4, .ref z5, .int 0, .int 0, .int 0]))]) (va_A [(h0, .inr (7, [.ref z0, .ref z1, .ref z2, .ref z3, .ref z4, .ref z5, .int 0, .int 0, .int 0]))] sz)) 1 6 (va_A [(h0, .inr (7, [.ref z0, .ref z1, .ref z2, .ref z3, .ref z4, .ref z5, .int 0, .int 0, .int 0]))] sz) := by
  refine vx_ofW (cc := cX3_run) (maxL := 5) (ret := (some .int)) (by decide) rfl ?_
  intro p e s m args below meth c s₁ B hml ht9 hv
  obtain ⟨rfl, hsz, hP, hK, hD0, hG⟩ := hv
  have hx := B.exec
  have hb := B.bytes
  have hr := B.returns
  have hts := atoms_spec (ws := wsX3_run) B.pre
  have hown : s.vm.findClass RX3 = some m.cls := findClass_of_methodNamed B.named
  have hlocks := B.notSynchronized
  subst hsz
  have hD := hD0.self (sz := s.heap.size)
  generalize hAe : va_A [(h0, .inr (7, [.ref z0, .ref z1, .ref z2, .ref z3, .ref z4, .ref z5, .int 0, .int 0, .int 0]))] s.heap.size = A at hD hG ⊢
  obtain ⟨⟨g_AO_Text, g_AO_String, g_AO_Object, g_nm_RX1_20, g_nm_RX0_17, g_nm_RX3_31, g_nm_RX2_44, g_nm_RL_121, g_nf_RL_13, g_nf_RL_47, g_ca_IO, g_ca_IA, g_ca_IS, g_ca_IntObj, g_ca_StrObj, g_de_RT, g_de_EX, g_de_TH, g_nc_IA_IO, g_nc_IS_IO, g_nc_IS_IA⟩, ⟨g_s3, g_s5, g_sa, g_x278, g_x280, g_x282, g_x284, g_x286, g_x180, g_x238, g_x250⟩, ⟨g_o5, g_c5, g_v5, g_t5, g_oa, g_ca, g_va, g_ta, g_zc, g_zd, g_td, g_zf, g_zU, g_zN, g_zh, g_zk, g_tk, g_oi, g_vi⟩⟩ := id hG
  have hA : ∀ q : Nat, s.heap.size ≤ q → A q := fun q h => by rw [← hAe]; exact Or.inr h
  have hS : va_S A s.heap s.heap [] := va_S.rf
  have hP : va_P (dC, dI) vwCl [(h0, .inr (7, [.ref z0, .ref z1, .ref z2, .ref z3, .ref z4, .ref z5, .int 0, .int 0, .int 0]))] s.heap := hP
  have hl := lv_entry ([.ref h0, .int i0, .int i1, .int i2]) (n := 5) (Nat.le_of_ble_eq_true rfl)
  rw [lg_entry_eq]
  generalize (lg_sl ([.ref h0, .int i0, .int i1, .int i2]) ++ List.replicate (5 - (lg_sl ([.ref h0, .int i0, .int i1, .int i2])).length) Slot.unset).toArray = ls at hl ⊢
  have hl : lv_has ls 5 [(0, .ref h0), (1, .int i0), (2, .int i1), (3, .int i2)] := hl
  refine lv_iload_n hx hb dX3_run_0 rfl (lv_at hl 1 rfl) ?_
  have hPc := hP.sub (ws' := []) [] rfl
  have hDc := hD.sub (ws' := []) [] (by decide) rfl
  have hKc := hK.sub (tys' := []) [] rfl
  have hFc := va_free (wc := []) hD hS hA [] rfl
  refine vx_callv (vx_runS (As := [.int i0]) (rest := []) ⟨hx, hb, hml, hown, hts⟩ (kx_X3_needRope_5 l hst dC dI ge5 gea gv5 gva gde gic gi0 s.heap.size i0 i0_l i0_u) (cwS 1 hts gX3_run_X3_needRope rfl rfl rfl (by decide +kernel) ⟨Nat.le_of_ble_eq_true rfl, Nat.le_of_ble_eq_true rfl⟩) ⟨fun a U g mk q => by obtain ⟨q0, q1, qP, qK, qD, qG⟩ := q; exact ⟨q0, q1, qP, va_K.moved (u := U) (U := U.calling g mk a) (Vm.Alike.refl U.vm) qK, qD, gv.fb qG⟩, fun U hU hW => ⟨rfl, by rw [hU], by rw [hU]; exact hPc, va_K.moved hW.alike hKc, hDc.weaken (fun _ _ _ _ => trivial), gv.pass hW hU hS hFc hG⟩⟩ rfl rfl hl.1 rfl (lv_room (Nat.le_of_ble_eq_true rfl)) dX3_run_1 ⟨Nat.le_of_ble_eq_true rfl, Nat.le_of_ble_eq_true rfl⟩) hS (fun q _ h => hFc q h) hFc (fun q _ h => hFc q h) (fun E ce q9 u t H1 locs ht hvm hpx hB hz1 hk1 hS hce hcv hcl => ?_) (fun u t H1 locs ht hvm hw hB hz1 hk1 hS => hw.elim)
  obtain ⟨rfl, hP1, hK1, hD1⟩ := hB
  rw [ht] at hP1
  have hK1 := va_K.moved hvm.symm hK1
  obtain ⟨hP, hD⟩ := va_join (wr := [(h0, .inr (7, [.ref z0, .ref z1, .ref z2, .ref z3, .ref z4, .ref z5, .int 0, .int 0, .int 0]))]) (w1 := []) hP hD [] [0] rfl rfl (by decide) (by decide) hk1 hFc hP1 hD1
  generalize H1 = H at hP hS hce ⊢
  have hP : va_P (dC, dI) vwCl [(h0, .inr (7, [.ref z0, .ref z1, .ref z2, .ref z3, .ref z4, .ref z5, .int 0, .int 0, .int 0]))] H := hP
  have hD : va_D A [(h0, .inr (7, [.ref z0, .ref z1, .ref z2, .ref z3, .ref z4, .ref z5, .int 0, .int 0, .int 0]))] := hD
  exact vx_out (fun x hx9 => (ht9 x hx9).elim) hlocks hce hcv hcl (fun t ht hW => ⟨(), trivial, ⟨rfl, by rw [ht]; exact hP, va_K.moved hW hK, hD⟩, hS.F ht⟩) hS.2.2 (by omega) (by omega)
set_option maxHeartbeats 4000000 in
set_option maxRecDepth 100000 in
theorem kx_L_run_9 (l : Launch) (hst : l.stackTraces = false) (dC : Nat → ClassId) (dI : Nat → Nat → Nat) (ge5 gea gv5 gva gde gic gi0 : Nat) (h0 : Nat) (z0 : Nat) (z1 : Nat) (z2 : Nat) (z3 : Nat) (z4 : Nat) (z5 : Nat) (z6 : Nat) (sz : Nat) (i0 : Int32) (i0_l : ((-2147483648) : Int) ≤ i0.toInt) (i0_u : i0.toInt ≤ ((-1) : Int)) (i1 : Int32) (i1_l : (0 : Int) ≤ i1.toInt) (i1_u : i1.toInt ≤ (2 : Int)) (i2 : Int32) (i2_l : ((-2147483648) : Int) ≤ i2.toInt) (i2_u : i2.toInt ≤ (0 : Int)) : Met l yL_run wsL_run ({ frames := 8, cells := 1, slots := 6, locals := 164 }) (va_Pc [.ref h0, .int i0, .int i1, .int i2, .ref z0] (fun U => U.heap.size = sz ∧ va_P (dC, dI) vwCl [(h0, .inr (7, [.ref z1, .ref z2, .ref z3, .ref z4, .ref z5, .ref z6, .int 0, .int 0, .int 0]))] U.heap ∧ va_K (dC, dI) vwCl [] U ∧ va_D (fun _ => True) [(h0, .inr (7, [.ref z1, .ref z2, .ref z3, .ref z4, .ref z5, .ref z6, .int 0, .int 0, .int 0]))] ∧ gv ge5 gea gv5 gva gde gic gi0 (va_A [(h0, .inr (7, [.ref z1, .ref z2, .ref z3, .ref z4, .ref z5, .ref z6, .int 0, .int 0, .int 0]))] sz) U U.heap)) (va_Qi (fun (r : Int32) (_ : Unit) => r = 1) (fun (_ : Unit) (t : State) => va_P (dC, dI) vwCl [(h0, .inr (7, [.ref z1, .ref z2, .ref z3, .ref z4, .ref z5, .ref z6, .int 0, .int 0, .int 0]))] t.heap ∧ va_K (dC, dI) vwCl [] t ∧ va_D (va_A [(h0, .inr (7, [.ref z1, .ref z2, .ref z3, .ref z4, .ref z5, .ref z6, .int 0, .int 0, .int 0]))] sz) [(h0, .inr (7, [.ref z1, .ref z2, .ref z3, .ref z4, .ref z5, .ref z6, .int 0, .int 0, .int 0]))]) (va_A [(h0, .inr (7, [.ref z1, .ref z2, .ref z3, .ref z4, .ref z5, .ref z6, .int 0, .int 0, .int 0]))] sz)) 1 6 (va_A [(h0, .inr (7, [.ref z1, .ref z2, .ref z3, .ref z4, .ref z5, .ref z6, .int 0, .int 0, .int 0]))] sz) := by
  refine kz_ofWH (cc := cL_run) (maxL := 6) (ret := (some .int)) (hh := [(0, 13, 16, 19), (0, 13, 20, 21)]) (by decide) rfl ?_
  intro p e s m args below meth c s₁ B hml hv
  obtain ⟨rfl, hsz, hP, hK, hD0, hG⟩ := hv
  have hx := B.exec
  have hb := B.bytes
  have hr := B.returns
  have hts := atoms_spec (ws := wsL_run) B.pre
  have hown : s.vm.findClass RL = some m.cls := findClass_of_methodNamed B.named
  have htab := vx_table (x := yL_run) B (hts (.codeWith yL_run cL_run 6 (some .int) [(0, 13, 16, 19), (0, 13, 20, 21)]) (by decide +kernel))
  have hlocks := B.notSynchronized
  subst hsz
  have hD := hD0.self (sz := s.heap.size)
  generalize hAe : va_A [(h0, .inr (7, [.ref z1, .ref z2, .ref z3, .ref z4, .ref z5, .ref z6, .int 0, .int 0, .int 0]))] s.heap.size = A at hD hG ⊢
  obtain ⟨⟨g_AO_Text, g_AO_String, g_AO_Object, g_nm_RX1_20, g_nm_RX0_17, g_nm_RX3_31, g_nm_RX2_44, g_nm_RL_121, g_nf_RL_13, g_nf_RL_47, g_ca_IO, g_ca_IA, g_ca_IS, g_ca_IntObj, g_ca_StrObj, g_de_RT, g_de_EX, g_de_TH, g_nc_IA_IO, g_nc_IS_IO, g_nc_IS_IA⟩, ⟨g_s3, g_s5, g_sa, g_x278, g_x280, g_x282, g_x284, g_x286, g_x180, g_x238, g_x250⟩, ⟨g_o5, g_c5, g_v5, g_t5, g_oa, g_ca, g_va, g_ta, g_zc, g_zd, g_td, g_zf, g_zU, g_zN, g_zh, g_zk, g_tk, g_oi, g_vi⟩⟩ := id hG
  have hA : ∀ q : Nat, s.heap.size ≤ q → A q := fun q h => by rw [← hAe]; exact Or.inr h
  have hS : va_S A s.heap s.heap [] := va_S.rf
  have hP : va_P (dC, dI) vwCl [(h0, .inr (7, [.ref z1, .ref z2, .ref z3, .ref z4, .ref z5, .ref z6, .int 0, .int 0, .int 0]))] s.heap := hP
  have hl := lv_entry ([.ref h0, .int i0, .int i1, .int i2, .ref z0]) (n := 6) (Nat.le_of_ble_eq_true rfl)
  rw [lg_entry_eq]
  generalize (lg_sl ([.ref h0, .int i0, .int i1, .int i2, .ref z0]) ++ List.replicate (6 - (lg_sl ([.ref h0, .int i0, .int i1, .int i2, .ref z0])).length) Slot.unset).toArray = ls at hl ⊢
  have hl : lv_has ls 6 [(0, .ref h0), (1, .int i0), (2, .int i1), (3, .int i2), (4, .ref z0)] := hl
  refine lv_aload hx hb dL_run_0 (lv_at hl 4 rfl) ?_
  refine lv_aload_n hx hb dL_run_2 rfl (lv_at hl 0 rfl) ?_
  refine lv_iload_n hx hb dL_run_3 rfl (lv_at hl 1 rfl) ?_
  refine lv_iload_n hx hb dL_run_4 rfl (lv_at hl 2 rfl) ?_
  refine lv_iload_n hx hb dL_run_5 rfl (lv_at hl 3 rfl) ?_
  have hPc := hP.sub (ws' := [(h0, .inr (7, [.ref z1, .ref z2, .ref z3, .ref z4, .ref z5, .ref z6, .int 0, .int 0, .int 0]))]) [0] rfl
  have hDc := hD.sub (ws' := [(h0, .inr (7, [.ref z1, .ref z2, .ref z3, .ref z4, .ref z5, .ref z6, .int 0, .int 0, .int 0]))]) [0] (by decide) rfl
  have hKc := hK.sub (tys' := []) [] rfl
  have hFc := va_free (wc := [(h0, .inr (7, [.ref z1, .ref z2, .ref z3, .ref z4, .ref z5, .ref z6, .int 0, .int 0, .int 0]))]) hD hS hA [0] rfl
  refine vx_calli (vx_runV (As := [.int i0, .int i1, .int i2]) (rest := [.ref z0]) ⟨hx, hb, hml, hown, hts⟩ (kx_X3_run_12 l hst dC dI ge5 gea gv5 gva gde gic gi0 h0 z1 z2 z3 z4 z5 z6 s.heap.size i0 i0_l i0_u i1 i1_l i1_u i2 i2_l i2_u) (cwV 3 hts gL_run_X3_run rfl rfl rfl (by decide +kernel) ⟨Nat.le_of_ble_eq_true rfl, Nat.le_of_ble_eq_true rfl⟩) ⟨fun a U g mk q => by obtain ⟨q0, q1, qP, qK, qD, qG⟩ := q; exact ⟨q0, q1, qP, va_K.moved (u := U) (U := U.calling g mk a) (Vm.Alike.refl U.vm) qK, qD, gv.fb qG⟩, va_recv hKc hPc (ci := 7) (q0 := 0) rfl rfl, fun U hU hW => ⟨rfl, by rw [hU], by rw [hU]; exact hPc, va_K.moved hW.alike hKc, hDc.weaken (fun _ _ _ _ => trivial), gv.pass hW hU hS hFc hG⟩⟩ rfl rfl hl.1 rfl (lv_room (Nat.le_of_ble_eq_true rfl)) dL_run_6 ⟨Nat.le_of_ble_eq_true rfl, Nat.le_of_ble_eq_true rfl⟩) hS (fun q _ h => hFc q h) hFc (fun q _ h => hFc q h) (fun E ce q9 u t H1 locs ht hvm hpx hB hz1 hk1 hS hce hcv hcl => ?_) (fun r9 u t H1 locs ht hvm hw hB hz1 hk1 hS => hw.elim)
  obtain ⟨rfl, hP1, hK1, hD1⟩ := hB
  rw [ht] at hP1
  have hK1 := va_K.moved hvm.symm hK1
  obtain ⟨hP, hD⟩ := va_join (wr := []) (w1 := [(h0, .inr (7, [.ref z1, .ref z2, .ref z3, .ref z4, .ref z5, .ref z6, .int 0, .int 0, .int 0]))]) hP hD [0] [] rfl rfl (by decide) (by decide) hk1 hFc hP1 hD1
  generalize H1 = H at hP hS hce ⊢
  have hP : va_P (dC, dI) vwCl [(h0, .inr (7, [.ref z1, .ref z2, .ref z3, .ref z4, .ref z5, .ref z6, .int 0, .int 0, .int 0]))] H := hP
  have hD : va_D A [(h0, .inr (7, [.ref z1, .ref z2, .ref z3, .ref z4, .ref z5, .ref z6, .int 0, .int 0, .int 0]))] := hD
  refine vx_catch (own := RL) (name := "java/lang/IndexOutOfBoundsException") hown (tableOf []) ⟨0, 13, 16, 19⟩ (tableOf [(0, 13, 20, 21)]) (by rw [htab]; rfl) (fun z hz => nomatch hz) (by decide +kernel) (by decide) (hts (.classLink RL 19 "java/lang/IndexOutOfBoundsException") (by decide +kernel)) (va_Nw.use rfl g_ca_IO) hce hcv hcl ?_
  refine W.eq (g2 := F0 m 16 ls [.ref q9]) rfl ?_
  refine lv_astore (lv' := [(5, .ref q9), (0, .ref h0), (1, .int i0), (2, .int i1), (3, .int i2), (4, .ref z0)]) hx hb dL_run_16 hl (by decide) rfl (fun ls hl => ?_)
  refine lv_iconst (v := 1) hx hb dL_run_18 (by decide) ?_
  exact W.iret (v := 1) hx hb hr (fun t ht hW => ⟨⟨1, (), rfl, rfl, by rw [ht]; exact hP, va_K.moved hW.alike hK, hD⟩, hS.F ht⟩) hS.2.2 dL_run_19
set_option maxHeartbeats 4000000 in
set_option maxRecDepth 100000 in
theorem kx_X5_run_9 (l : Launch) (dC : Nat → ClassId) (dI : Nat → Nat → Nat) (h0 : Nat) (z0 : Nat) (z1 : Nat) (z2 : Nat) (sz : Nat) (i0 : Int32) (i0_l : ((-2147483648) : Int) ≤ i0.toInt) (i0_u : i0.toInt ≤ ((-1) : Int)) (i1 : Int32) (i1_l : (0 : Int) ≤ i1.toInt) (i1_u : i1.toInt ≤ (2 : Int)) (i2 : Int32) (i2_l : ((-2147483648) : Int) ≤ i2.toInt) (i2_u : i2.toInt ≤ (0 : Int)) : Met l yX5_run wsX5_run ({ frames := 2, cells := 0, slots := 0, locals := 42 }) (va_Pc [.ref h0, .int i0, .int i1, .int i2] (fun U => U.heap.size = sz ∧ va_P (dC, dI) vwCl [(h0, .inr (9, [.int 0, .ref z0, .ref z1, .ref z2, .int 0, .int 0, .int 0]))] U.heap ∧ va_K (dC, dI) vwCl [] U ∧ va_D (fun _ => True) [(h0, .inr (9, [.int 0, .ref z0, .ref z1, .ref z2, .int 0, .int 0, .int 0]))])) (va_Qi (fun (r : Int32) (_ : Unit) => r = 0) (fun (_ : Unit) (t : State) => va_P (dC, dI) vwCl [(h0, .inr (9, [.int 1, .ref z0, .ref z1, .ref z2, .int 0, .int 0, .int 0]))] t.heap ∧ va_K (dC, dI) vwCl [] t ∧ va_D (va_A [(h0, .inr (9, [.int 0, .ref z0, .ref z1, .ref z2, .int 0, .int 0, .int 0]))] sz) [(h0, .inr (9, [.int 1, .ref z0, .ref z1, .ref z2, .int 0, .int 0, .int 0]))]) (va_A [(h0, .inr (9, [.int 0, .ref z0, .ref z1, .ref z2, .int 0, .int 0, .int 0]))] sz)) 0 0 (va_A [(h0, .inr (9, [.int 0, .ref z0, .ref z1, .ref z2, .int 0, .int 0, .int 0]))] sz) := by
  refine Met.ofW (cc := cX5_run) (maxL := 5) (ret := (some .int)) (by decide) rfl ?_
  intro p e s m args below meth c s₁ B hml hv
  obtain ⟨rfl, hsz, hP, hK, hD0⟩ := hv
  have hx := B.exec
  have hb := B.bytes
  have hr := B.returns
  have hts := atoms_spec (ws := wsX5_run) B.pre
  have hown : s.vm.findClass RX5 = some m.cls := findClass_of_methodNamed B.named
  have hlocks := B.notSynchronized
  subst hsz
  have hD := hD0.self (sz := s.heap.size)
  generalize hAe : va_A [(h0, .inr (9, [.int 0, .ref z0, .ref z1, .ref z2, .int 0, .int 0, .int 0]))] s.heap.size = A at hD ⊢
  have hA : ∀ q : Nat, s.heap.size ≤ q → A q := fun q h => by rw [← hAe]; exact Or.inr h
  have hS : va_S A s.heap s.heap [] := va_S.rf
  have hP : va_P (dC, dI) vwCl [(h0, .inr (9, [.int 0, .ref z0, .ref z1, .ref z2, .int 0, .int 0, .int 0]))] s.heap := hP
  have hl := lv_entry ([.ref h0, .int i0, .int i1, .int i2]) (n := 5) (Nat.le_of_ble_eq_true rfl)
  rw [lg_entry_eq]
  generalize (lg_sl ([.ref h0, .int i0, .int i1, .int i2]) ++ List.replicate (5 - (lg_sl ([.ref h0, .int i0, .int i1, .int i2])).length) Slot.unset).toArray = ls at hl ⊢
  have hl : lv_has ls 5 [(0, .ref h0), (1, .int i0), (2, .int i1), (3, .int i2)] := hl
  refine lv_aload_n hx hb dX5_run_0 rfl (lv_at hl 0 rfl) ?_
  refine lv_iload_n hx hb dX5_run_1 rfl (lv_at hl 1 rfl) ?_
  have hPc := hP.sub (ws' := []) [] rfl
  have hDc := hD.sub (ws' := []) [] (by decide) rfl
  have hKc := hK.sub (tys' := []) [] rfl
  have hFc := va_free (wc := []) hD hS hA [] rfl
  refine va_calli (va_runS (As := [.int i0]) (rest := [.ref h0]) ⟨hx, hb, hml, hown, hts⟩ (kx_X5_isNo_0 l dC dI s.heap.size i0 i0_l i0_u) (cwS 1 hts gX5_run_X5_isNo rfl rfl rfl (by decide +kernel) ⟨Nat.le_of_ble_eq_true rfl, Nat.le_of_ble_eq_true rfl⟩) ⟨fun a U g mk q => by obtain ⟨q0, q1, qP, qK, qD⟩ := q; exact ⟨q0, q1, qP, va_K.moved (u := U) (U := U.calling g mk a) (Vm.Alike.refl U.vm) qK, qD⟩, fun U hU hW => ⟨rfl, by rw [hU], by rw [hU]; exact hPc, va_K.moved hW.alike hKc, hDc.weaken (fun _ _ _ _ => trivial)⟩⟩ rfl rfl hl.1 rfl (lv_room (Nat.le_of_ble_eq_true rfl)) dX5_run_2 ⟨Nat.le_of_ble_eq_true rfl, Nat.le_of_ble_eq_true rfl⟩) hS (fun q _ h => hFc q h) hFc (fun r9 u t H1 locs ht hvm hw hB hz1 hk1 hS => ?_)
  obtain rfl := hw
  obtain ⟨hP1, hK1, hD1⟩ := hB
  rw [ht] at hP1
  have hK1 := va_K.moved hvm.symm hK1
  obtain ⟨hP, hD⟩ := va_join (wr := [(h0, .inr (9, [.int 0, .ref z0, .ref z1, .ref z2, .int 0, .int 0, .int 0]))]) (w1 := []) hP hD [] [0] rfl rfl (by decide) (by decide) hk1 hFc hP1 hD1
  generalize H1 = H at hP hS ⊢
  have hP : va_P (dC, dI) vwCl [(h0, .inr (9, [.int 0, .ref z0, .ref z1, .ref z2, .int 0, .int 0, .int 0]))] H := hP
  have hD : va_D A [(h0, .inr (9, [.int 0, .ref z0, .ref z1, .ref z2, .int 0, .int 0, .int 0]))] := hD
  refine lv_iload_n hx hb dX5_run_5 rfl (lv_at hl 2 rfl) ?_
  refine lv_iconst (v := 0) hx hb dX5_run_6 (by decide) ?_
  refine lv_iconst (v := 2) hx hb dX5_run_7 (by decide) ?_
  have hPc := hP.sub (ws' := []) [] rfl
  have hDc := hD.sub (ws' := []) [] (by decide) rfl
  have hKc := hK.sub (tys' := []) [] rfl
  have hFc := va_free (wc := []) hD hS hA [] rfl
  refine va_calli (va_runS (As := [.int i1, .int 0, .int 2]) (rest := [.int 1, .ref h0]) ⟨hx, hb, hml, hown, hts⟩ (kx_X5_isIn_21 l dC dI H.size i1 i1_l i1_u) (cwS 3 hts gX5_run_X5_isIn rfl rfl rfl (by decide +kernel) ⟨Nat.le_of_ble_eq_true rfl, Nat.le_of_ble_eq_true rfl⟩) ⟨fun a U g mk q => by obtain ⟨q0, q1, qP, qK, qD⟩ := q; exact ⟨q0, q1, qP, va_K.moved (u := U) (U := U.calling g mk a) (Vm.Alike.refl U.vm) qK, qD⟩, fun U hU hW => ⟨rfl, by rw [hU], by rw [hU]; exact hPc, va_K.moved hW.alike hKc, hDc.weaken (fun _ _ _ _ => trivial)⟩⟩ rfl rfl hl.1 rfl (lv_room (Nat.le_of_ble_eq_true rfl)) dX5_run_8 ⟨Nat.le_of_ble_eq_true rfl, Nat.le_of_ble_eq_true rfl⟩) hS (fun q _ h => hFc q h) hFc (fun r9 u t H1 locs ht hvm hw hB hz1 hk1 hS => ?_)
  obtain rfl := hw
  obtain ⟨hP1, hK1, hD1⟩ := hB
  rw [ht] at hP1
  have hK1 := va_K.moved hvm.symm hK1
  obtain ⟨hP, hD⟩ := va_join (wr := [(h0, .inr (9, [.int 0, .ref z0, .ref z1, .ref z2, .int 0, .int 0, .int 0]))]) (w1 := []) hP hD [] [0] rfl rfl (by decide) (by decide) hk1 hFc hP1 hD1
  generalize H1 = H at hP hS ⊢
  have hP : va_P (dC, dI) vwCl [(h0, .inr (9, [.int 0, .ref z0, .ref z1, .ref z2, .int 0, .int 0, .int 0]))] H := hP
  have hD : va_D A [(h0, .inr (9, [.int 0, .ref z0, .ref z1, .ref z2, .int 0, .int 0, .int 0]))] := hD
  refine lv_if_eq (tgt := 24) hx hb dX5_run_11 (by decide) (fun c9 => absurd c9 (by decide)) (fun _ => ?_)
  refine lv_iload_n hx hb dX5_run_14 rfl (lv_at hl 3 rfl) ?_
  refine lv_iconst (v := 1) hx hb dX5_run_15 (by decide) ?_
  refine lv_bipush (v := 40) hx hb dX5_run_16 (by decide) ?_
  have hPc := hP.sub (ws' := []) [] rfl
  have hDc := hD.sub (ws' := []) [] (by decide) rfl
  have hKc := hK.sub (tys' := []) [] rfl
  have hFc := va_free (wc := []) hD hS hA [] rfl
  refine va_calli (va_runS (As := [.int i2, .int 1, .int 40]) (rest := [.int 1, .ref h0]) ⟨hx, hb, hml, hown, hts⟩ (kx_X5_isIn_24 l dC dI H.size i2 i2_l i2_u) (cwS 3 hts gX5_run_X5_isIn rfl rfl rfl (by decide +kernel) ⟨Nat.le_of_ble_eq_true rfl, Nat.le_of_ble_eq_true rfl⟩) ⟨fun a U g mk q => by obtain ⟨q0, q1, qP, qK, qD⟩ := q; exact ⟨q0, q1, qP, va_K.moved (u := U) (U := U.calling g mk a) (Vm.Alike.refl U.vm) qK, qD⟩, fun U hU hW => ⟨rfl, by rw [hU], by rw [hU]; exact hPc, va_K.moved hW.alike hKc, hDc.weaken (fun _ _ _ _ => trivial)⟩⟩ rfl rfl hl.1 rfl (lv_room (Nat.le_of_ble_eq_true rfl)) dX5_run_18 ⟨Nat.le_of_ble_eq_true rfl, Nat.le_of_ble_eq_true rfl⟩) hS (fun q _ h => hFc q h) hFc (fun r9 u t H1 locs ht hvm hw hB hz1 hk1 hS => ?_)
  obtain rfl := hw
  obtain ⟨hP1, hK1, hD1⟩ := hB
  rw [ht] at hP1
  have hK1 := va_K.moved hvm.symm hK1
  obtain ⟨hP, hD⟩ := va_join (wr := [(h0, .inr (9, [.int 0, .ref z0, .ref z1, .ref z2, .int 0, .int 0, .int 0]))]) (w1 := []) hP hD [] [0] rfl rfl (by decide) (by decide) hk1 hFc hP1 hD1
  generalize H1 = H at hP hS ⊢
  have hP : va_P (dC, dI) vwCl [(h0, .inr (9, [.int 0, .ref z0, .ref z1, .ref z2, .int 0, .int 0, .int 0]))] H := hP
  have hD : va_D A [(h0, .inr (9, [.int 0, .ref z0, .ref z1, .ref z2, .int 0, .int 0, .int 0]))] := hD
  refine lv_if_ne (tgt := 28) hx hb dX5_run_21 (by decide) (fun c9 => absurd (by decide) c9) (fun _ => ?_)
  refine lv_iconst (v := 1) hx hb dX5_run_24 (by decide) ?_
  refine lv_goto (tgt := 29) hx hb dX5_run_25 (by decide) ?_
  refine lv_iconst (v := 0) hx hb dX5_run_29 (by decide) ?_
  have hPc := hP.sub (ws' := [(h0, .inr (9, [.int 0, .ref z0, .ref z1, .ref z2, .int 0, .int 0, .int 0]))]) [0] rfl
  have hDc := hD.sub (ws' := [(h0, .inr (9, [.int 0, .ref z0, .ref z1, .ref z2, .int 0, .int 0, .int 0]))]) [0] (by decide) rfl
  have hKc := hK.sub (tys' := []) [] rfl
  have hFc := va_free (wc := [(h0, .inr (9, [.int 0, .ref z0, .ref z1, .ref z2, .int 0, .int 0, .int 0]))]) hD hS hA [0] rfl
  refine va_calli (va_runV (As := [.int 1, .int 1, .int 0]) (rest := []) ⟨hx, hb, hml, hown, hts⟩ (kx_X5_fails_2 l dC dI h0 z0 z1 z2 H.size) (cwV 3 hts gX5_run_X5_fails rfl rfl rfl (by decide +kernel) ⟨Nat.le_of_ble_eq_true rfl, Nat.le_of_ble_eq_true rfl⟩) ⟨fun a U g mk q => by obtain ⟨q0, q1, qP, qK, qD⟩ := q; exact ⟨q0, q1, qP, va_K.moved (u := U) (U := U.calling g mk a) (Vm.Alike.refl U.vm) qK, qD⟩, va_recv hKc hPc (ci := 9) (q0 := 0) rfl rfl, fun U hU hW => ⟨rfl, by rw [hU], by rw [hU]; exact hPc, va_K.moved hW.alike hKc, hDc.weaken (fun _ _ _ _ => trivial)⟩⟩ rfl rfl hl.1 rfl (lv_room (Nat.le_of_ble_eq_true rfl)) dX5_run_30 ⟨Nat.le_of_ble_eq_true rfl, Nat.le_of_ble_eq_true rfl⟩) hS (fun q _ h => hFc q h) hFc (fun r9 u t H1 locs ht hvm hw hB hz1 hk1 hS => ?_)
  obtain rfl := hw
  obtain ⟨hP1, hK1, hD1⟩ := hB
  rw [ht] at hP1
  have hK1 := va_K.moved hvm.symm hK1
  obtain ⟨hP, hD⟩ := va_join (wr := []) (w1 := [(h0, .inr (9, [.int 1, .ref z0, .ref z1, .ref z2, .int 0, .int 0, .int 0]))]) hP hD [0] [] rfl rfl (by decide) (by decide) hk1 hFc hP1 hD1
  generalize H1 = H at hP hS ⊢
  have hP : va_P (dC, dI) vwCl [(h0, .inr (9, [.int 1, .ref z0, .ref z1, .ref z2, .int 0, .int 0, .int 0]))] H := hP
  have hD : va_D A [(h0, .inr (9, [.int 1, .ref z0, .ref z1, .ref z2, .int 0, .int 0, .int 0]))] := hD
  refine lv_if_eq (tgt := 38) hx hb dX5_run_33 (by decide) (fun c9 => absurd c9 (by decide)) (fun _ => ?_)
  refine lv_iconst (v := 0) hx hb dX5_run_36 (by decide) ?_
  exact W.iret (v := 0) hx hb hr (fun t ht hW => ⟨⟨0, (), rfl, rfl, by rw [ht]; exact hP, va_K.moved hW.alike hK, hD⟩, hS.F ht⟩) hS.2.2 dX5_run_37
set_option maxHeartbeats 4000000 in
set_option maxRecDepth 100000 in
theorem kx_X3_run_13 (l : Launch) (hst : l.stackTraces = false) (dC : Nat → ClassId) (dI : Nat → Nat → Nat) (ge5 gea gv5 gva gde gic gi0 : Nat) (h0 : Nat) (z0 : Nat) (z1 : Nat) (z2 : Nat) (z3 : Nat) (z4 : Nat) (z5 : Nat) (sz : Nat) (i0 : Int32) (i0_l : ((-2147483648) : Int) ≤ i0.toInt) (i0_u : i0.toInt ≤ ((-1) : Int)) (i1 : Int32) (i1_l : (0 : Int) ≤ i1.toInt) (i1_u : i1.toInt ≤ (2 : Int)) (i2 : Int32) (i2_l : (1 : Int) ≤ i2.toInt) (i2_u : i2.toInt ≤ (40 : Int)) : vx_Met l yX3_run wsX3_run ({ frames := 7, cells := 1, slots := 6, locals := 140 }) (va_Pc [.ref h0, .int i0, .int i1, .int i2] (fun U => U.heap.size = sz ∧ va_P (dC, dI) vwCl [(h0, .inr (7, [.ref z0, .ref z1, .ref z2, .ref z3, .ref z4, .ref z5, .int 0, .int 0, .int 0]))] U.heap ∧ va_K (dC, dI) vwCl [] U ∧ va_D (fun _ => True) [(h0, .inr (7, [.ref z0, .ref z1, .ref z2, .ref z3, .ref z4, .ref z5, .int 0, .int 0, .int 0]))] ∧ gv ge5 gea gv5 gva gde gic gi0 (va_A [(h0, .inr (7, [.ref z0, .ref z1, .ref z2, .ref z3, .ref z4, .ref z5, .int 0, .int 0, .int 0]))] sz) U U.heap)) (va_Qi (fun (_ : Int32) (_ : Unit) => False) (fun _ _ => True) (va_A [(h0, .inr (7, [.ref z0, .ref z1, .ref z2, .ref z3, .ref z4, .ref z5, .int 0, .int 0, .int 0]))] sz)) (vx_X (fun _ : Unit => True) (fun (E : String) (_ : Unit) (t : State) => E = "java/lang/IndexOutOfBoundsException" ∧ va_P (dC, dI) vwCl [(h0, .inr (7, [.ref z0, .ref z1, .ref z2, .ref z3, .ref z4, .ref z5, .int 0, .int 0, .int 0]))] t.heap ∧ va_K (dC, dI) vwCl [] t ∧ va_D (va_A [(h0, .inr (7, [.ref z0, .ref z1, .ref z2, .ref z3, .ref z4, .ref z5, .int 0, .int 0, .int 0]))] sz) [(h0, .inr (7, [.ref z0, .ref z1, .ref z2, .ref z3, .ref z4, .ref z5, .int 0, .int 0, .int 0]))]) (va_A [(h0, .inr (7, [.ref z0, .ref z1, .ref z2, .ref z3, .ref z4, .ref z5, .int 0, .int 0, .int 0]))] sz)) 1 6 (va_A [(h0, .inr (7, [.ref z0, .ref z1, .ref z2, .ref z3, .ref z4, .ref z5, .int 0, .int 0, .int 0]))] sz) := by
  refine vx_ofW (cc := cX3_run) (maxL := 5) (ret := (some .int)) (by decide) rfl ?_
  intro p e s m args below meth c s₁ B hml ht9 hv
  obtain ⟨rfl, hsz, hP, hK, hD0, hG⟩ := hv
  have hx := B.exec
  have hb := B.bytes
  have hr := B.returns
  have hts := atoms_spec (ws := wsX3_run) B.pre
  have hown : s.vm.findClass RX3 = some m.cls := findClass_of_methodNamed B.named
  have hlocks := B.notSynchronized
  subst hsz
  have hD := hD0.self (sz := s.heap.size)
  generalize hAe : va_A [(h0, .inr (7, [.ref z0, .ref z1, .ref z2, .ref z3, .ref z4, .ref z5, .int 0, .int 0, .int 0]))] s.heap.size = A at hD hG ⊢
  obtain ⟨⟨g_AO_Text, g_AO_String, g_AO_Object, g_nm_RX1_20, g_nm_RX0_17, g_nm_RX3_31, g_nm_RX2_44, g_nm_RL_121, g_nf_RL_13, g_nf_RL_47, g_ca_IO, g_ca_IA, g_ca_IS, g_ca_IntObj, g_ca_StrObj, g_de_RT, g_de_EX, g_de_TH, g_nc_IA_IO, g_nc_IS_IO, g_nc_IS_IA⟩, ⟨g_s3, g_s5, g_sa, g_x278, g_x280, g_x282, g_x284, g_x286, g_x180, g_x238, g_x250⟩, ⟨g_o5, g_c5, g_v5, g_t5, g_oa, g_ca, g_va, g_ta, g_zc, g_zd, g_td, g_zf, g_zU, g_zN, g_zh, g_zk, g_tk, g_oi, g_vi⟩⟩ := id hG
  have hA : ∀ q : Nat, s.heap.size ≤ q → A q := fun q h => by rw [← hAe]; exact Or.inr h
  have hS : va_S A s.heap s.heap [] := va_S.rf
  have hP : va_P (dC, dI) vwCl [(h0, .inr (7, [.ref z0, .ref z1, .ref z2, .ref z3, .ref z4, .ref z5, .int 0, .int 0, .int 0]))] s.heap := hP
  have hl := lv_entry ([.ref h0, .int i0, .int i1, .int i2]) (n := 5) (Nat.le_of_ble_eq_true rfl)
  rw [lg_entry_eq]
  generalize (lg_sl ([.ref h0, .int i0, .int i1, .int i2]) ++ List.replicate (5 - (lg_sl ([.ref h0, .int i0, .int i1, .int i2])).length) Slot.unset).toArray = ls at hl ⊢
  have hl : lv_has ls 5 [(0, .ref h0), (1, .int i0), (2, .int i1), (3, .int i2)] := hl
  refine lv_iload_n hx hb dX3_run_0 rfl (lv_at hl 1 rfl) ?_
  have hPc := hP.sub (ws' := []) [] rfl
  have hDc := hD.sub (ws' := []) [] (by decide) rfl
  have hKc := hK.sub (tys' := []) [] rfl
  have hFc := va_free (wc := []) hD hS hA [] rfl
  refine vx_callv (vx_runS (As := [.int i0]) (rest := []) ⟨hx, hb, hml, hown, hts⟩ (kx_X3_needRope_5 l hst dC dI ge5 gea gv5 gva gde gic gi0 s.heap.size i0 i0_l i0_u) (cwS 1 hts gX3_run_X3_needRope rfl rfl rfl (by decide +kernel) ⟨Nat.le_of_ble_eq_true rfl, Nat.le_of_ble_eq_true rfl⟩) ⟨fun a U g mk q => by obtain ⟨q0, q1, qP, qK, qD, qG⟩ := q; exact ⟨q0, q1, qP, va_K.moved (u := U) (U := U.calling g mk a) (Vm.Alike.refl U.vm) qK, qD, gv.fb qG⟩, fun U hU hW => ⟨rfl, by rw [hU], by rw [hU]; exact hPc, va_K.moved hW.alike hKc, hDc.weaken (fun _ _ _ _ => trivial), gv.pass hW hU hS hFc hG⟩⟩ rfl rfl hl.1 rfl (lv_room (Nat.le_of_ble_eq_true rfl)) dX3_run_1 ⟨Nat.le_of_ble_eq_true rfl, Nat.le_of_ble_eq_true rfl⟩) hS (fun q _ h => hFc q h) hFc (fun q _ h => hFc q h) (fun E ce q9 u t H1 locs ht hvm hpx hB hz1 hk1 hS hce hcv hcl => ?_) (fun u t H1 locs ht hvm hw hB hz1 hk1 hS => hw.elim)
  obtain ⟨rfl, hP1, hK1, hD1⟩ := hB
  rw [ht] at hP1
  have hK1 := va_K.moved hvm.symm hK1
  obtain ⟨hP, hD⟩ := va_join (wr := [(h0, .inr (7, [.ref z0, .ref z1, .ref z2, .ref z3, .ref z4, .ref z5, .int 0, .int 0, .int 0]))]) (w1 := []) hP hD [] [0] rfl rfl (by decide) (by decide) hk1 hFc hP1 hD1
  generalize H1 = H at hP hS hce ⊢
  have hP : va_P (dC, dI) vwCl [(h0, .inr (7, [.ref z0, .ref z1, .ref z2, .ref z3, .ref z4, .ref z5, .int 0, .int 0, .int 0]))] H := hP
  have hD : va_D A [(h0, .inr (7, [.ref z0, .ref z1, .ref z2, .ref z3, .ref z4, .ref z5, .int 0, .int 0, .int 0]))] := hD
  exact vx_out (fun x hx9 => (ht9 x hx9).elim) hlocks hce hcv hcl (fun t ht hW => ⟨(), trivial, ⟨rfl, by rw [ht]; exact hP, va_K.moved hW hK, hD⟩, hS.F ht⟩) hS.2.2 (by omega) (by omega)
set_option maxHeartbeats 4000000 in
set_option maxRecDepth 100000 in
theorem kx_L_run_10 (l : Launch) (hst : l.stackTraces = false) (dC : Nat → ClassId) (dI : Nat → Nat → Nat) (ge5 gea gv5 gva gde gic gi0 : Nat) (h0 : Nat) (z0 : Nat) (z1 : Nat) (z2 : Nat) (z3 : Nat) (z4 : Nat) (z5 : Nat) (z6 : Nat) (sz : Nat) (i0 : Int32) (i0_l : ((-2147483648) : Int) ≤ i0.toInt) (i0_u : i0.toInt ≤ ((-1) : Int)) (i1 : Int32) (i1_l : (0 : Int) ≤ i1.toInt) (i1_u : i1.toInt ≤ (2 : Int)) (i2 : Int32) (i2_l : (1 : Int) ≤ i2.toInt) (i2_u : i2.toInt ≤ (40 : Int)) : Met l yL_run wsL_run ({ frames := 8, cells := 1, slots := 6, locals := 164 }) (va_Pc [.ref h0, .int i0, .int i1, .int i2, .ref z0] (fun U => U.heap.size = sz ∧ va_P (dC, dI) vwCl [(h0, .inr (7, [.ref z1, .ref z2, .ref z3, .ref z4, .ref z5, .ref z6, .int 0, .int 0, .int 0]))] U.heap ∧ va_K (dC, dI) vwCl [] U ∧ va_D (fun _ => True) [(h0, .inr (7, [.ref z1, .ref z2, .ref z3, .ref z4, .ref z5, .ref z6, .int 0, .int 0, .int 0]))] ∧ gv ge5 gea gv5 gva gde gic gi0 (va_A [(h0, .inr (7, [.ref z1, .ref z2, .ref z3, .ref z4, .ref z5, .ref z6, .int 0, .int 0, .int 0]))] sz) U U.heap)) (va_Qi (fun (r : Int32) (_ : Unit) => r = 1) (fun (_ : Unit) (t : State) => va_P (dC, dI) vwCl [(h0, .inr (7, [.ref z1, .ref z2, .ref z3, .ref z4, .ref z5, .ref z6, .int 0, .int 0, .int 0]))] t.heap ∧ va_K (dC, dI) vwCl [] t ∧ va_D (va_A [(h0, .inr (7, [.ref z1, .ref z2, .ref z3, .ref z4, .ref z5, .ref z6, .int 0, .int 0, .int 0]))] sz) [(h0, .inr (7, [.ref z1, .ref z2, .ref z3, .ref z4, .ref z5, .ref z6, .int 0, .int 0, .int 0]))]) (va_A [(h0, .inr (7, [.ref z1, .ref z2, .ref z3, .ref z4, .ref z5, .ref z6, .int 0, .int 0, .int 0]))] sz)) 1 6 (va_A [(h0, .inr (7, [.ref z1, .ref z2, .ref z3, .ref z4, .ref z5, .ref z6, .int 0, .int 0, .int 0]))] sz) := by
  refine kz_ofWH (cc := cL_run) (maxL := 6) (ret := (some .int)) (hh := [(0, 13, 16, 19), (0, 13, 20, 21)]) (by decide) rfl ?_
  intro p e s m args below meth c s₁ B hml hv
  obtain ⟨rfl, hsz, hP, hK, hD0, hG⟩ := hv
  have hx := B.exec
  have hb := B.bytes
  have hr := B.returns
  have hts := atoms_spec (ws := wsL_run) B.pre
  have hown : s.vm.findClass RL = some m.cls := findClass_of_methodNamed B.named
  have htab := vx_table (x := yL_run) B (hts (.codeWith yL_run cL_run 6 (some .int) [(0, 13, 16, 19), (0, 13, 20, 21)]) (by decide +kernel))
  have hlocks := B.notSynchronized
  subst hsz
  have hD := hD0.self (sz := s.heap.size)
  generalize hAe : va_A [(h0, .inr (7, [.ref z1, .ref z2, .ref z3, .ref z4, .ref z5, .ref z6, .int 0, .int 0, .int 0]))] s.heap.size = A at hD hG ⊢
  obtain ⟨⟨g_AO_Text, g_AO_String, g_AO_Object, g_nm_RX1_20, g_nm_RX0_17, g_nm_RX3_31, g_nm_RX2_44, g_nm_RL_121, g_nf_RL_13, g_nf_RL_47, g_ca_IO, g_ca_IA, g_ca_IS, g_ca_IntObj, g_ca_StrObj, g_de_RT, g_de_EX, g_de_TH, g_nc_IA_IO, g_nc_IS_IO, g_nc_IS_IA⟩, ⟨g_s3, g_s5, g_sa, g_x278, g_x280, g_x282, g_x284, g_x286, g_x180, g_x238, g_x250⟩, ⟨g_o5, g_c5, g_v5, g_t5, g_oa, g_ca, g_va, g_ta, g_zc, g_zd, g_td, g_zf, g_zU, g_zN, g_zh, g_zk, g_tk, g_oi, g_vi⟩⟩ := id hG
  have hA : ∀ q : Nat, s.heap.size ≤ q → A q := fun q h => by rw [← hAe]; exact Or.inr h
  have hS : va_S A s.heap s.heap [] := va_S.rf
  have hP : va_P (dC, dI) vwCl [(h0, .inr (7, [.ref z1, .ref z2, .ref z3, .ref z4, .ref z5, .ref z6, .int 0, .int 0, .int 0]))] s.heap := hP
  have hl := lv_entry ([.ref h0, .int i0, .int i1, .int i2, .ref z0]) (n := 6) (Nat.le_of_ble_eq_true rfl)
  rw [lg_entry_eq]
  generalize (lg_sl ([.ref h0, .int i0, .int i1, .int i2, .ref z0]) ++ List.replicate (6 - (lg_sl ([.ref h0, .int i0, .int i1, .int i2, .ref z0])).length) Slot.unset).toArray = ls at hl ⊢
  have hl : lv_has ls 6 [(0, .ref h0), (1, .int i0), (2, .int i1), (3, .int i2), (4, .ref z0)] := hl
  refine lv_aload hx hb dL_run_0 (lv_at hl 4 rfl) ?_
  refine lv_aload_n hx hb dL_run_2 rfl (lv_at hl 0 rfl) ?_
  refine lv_iload_n hx hb dL_run_3 rfl (lv_at hl 1 rfl) ?_
  refine lv_iload_n hx hb dL_run_4 rfl (lv_at hl 2 rfl) ?_
  refine lv_iload_n hx hb dL_run_5 rfl (lv_at hl 3 rfl) ?_
  have hPc := hP.sub (ws' := [(h0, .inr (7, [.ref z1, .ref z2, .ref z3, .ref z4, .ref z5, .ref z6, .int 0, .int 0, .int 0]))]) [0] rfl
  have hDc := hD.sub (ws' := [(h0, .inr (7, [.ref z1, .ref z2, .ref z3, .ref z4, .ref z5, .ref z6, .int 0, .int 0, .int 0]))]) [0] (by decide) rfl
  have hKc := hK.sub (tys' := []) [] rfl
  have hFc := va_free (wc := [(h0, .inr (7, [.ref z1, .ref z2, .ref z3, .ref z4, .ref z5, .ref z6, .int 0, .int 0, .int 0]))]) hD hS hA [0] rfl
  refine vx_calli (vx_runV (As := [.int i0, .int i1, .int i2]) (rest := [.ref z0]) ⟨hx, hb, hml, hown, hts⟩ (kx_X3_run_13 l hst dC dI ge5 gea gv5 gva gde gic gi0 h0 z1 z2 z3 z4 z5 z6 s.heap.size i0 i0_l i0_u i1 i1_l i1_u i2 i2_l i2_u) (cwV 3 hts gL_run_X3_run rfl rfl rfl (by decide +kernel) ⟨Nat.le_of_ble_eq_true rfl, Nat.le_of_ble_eq_true rfl⟩) ⟨fun a U g mk q => by obtain ⟨q0, q1, qP, qK, qD, qG⟩ := q; exact ⟨q0, q1, qP, va_K.moved (u := U) (U := U.calling g mk a) (Vm.Alike.refl U.vm) qK, qD, gv.fb qG⟩, va_recv hKc hPc (ci := 7) (q0 := 0) rfl rfl, fun U hU hW => ⟨rfl, by rw [hU], by rw [hU]; exact hPc, va_K.moved hW.alike hKc, hDc.weaken (fun _ _ _ _ => trivial), gv.pass hW hU hS hFc hG⟩⟩ rfl rfl hl.1 rfl (lv_room (Nat.le_of_ble_eq_true rfl)) dL_run_6 ⟨Nat.le_of_ble_eq_true rfl, Nat.le_of_ble_eq_true rfl⟩) hS (fun q _ h => hFc q h) hFc (fun q _ h => hFc q h) (fun E ce q9 u t H1 locs ht hvm hpx hB hz1 hk1 hS hce hcv hcl => ?_) (fun r9 u t H1 locs ht hvm hw hB hz1 hk1 hS => hw.elim)
  obtain ⟨rfl, hP1, hK1, hD1⟩ := hB
  rw [ht] at hP1
  have hK1 := va_K.moved hvm.symm hK1
  obtain ⟨hP, hD⟩ := va_join (wr := []) (w1 := [(h0, .inr (7, [.ref z1, .ref z2, .ref z3, .ref z4, .ref z5, .ref z6, .int 0, .int 0, .int 0]))]) hP hD [0] [] rfl rfl (by decide) (by decide) hk1 hFc hP1 hD1
  generalize H1 = H at hP hS hce ⊢
  have hP : va_P (dC, dI) vwCl [(h0, .inr (7, [.ref z1, .ref z2, .ref z3, .ref z4, .ref z5, .ref z6, .int 0, .int 0, .int 0]))] H := hP
  have hD : va_D A [(h0, .inr (7, [.ref z1, .ref z2, .ref z3, .ref z4, .ref z5, .ref z6, .int 0, .int 0, .int 0]))] := hD
  refine vx_catch (own := RL) (name := "java/lang/IndexOutOfBoundsException") hown (tableOf []) ⟨0, 13, 16, 19⟩ (tableOf [(0, 13, 20, 21)]) (by rw [htab]; rfl) (fun z hz => nomatch hz) (by decide +kernel) (by decide) (hts (.classLink RL 19 "java/lang/IndexOutOfBoundsException") (by decide +kernel)) (va_Nw.use rfl g_ca_IO) hce hcv hcl ?_
  refine W.eq (g2 := F0 m 16 ls [.ref q9]) rfl ?_
  refine lv_astore (lv' := [(5, .ref q9), (0, .ref h0), (1, .int i0), (2, .int i1), (3, .int i2), (4, .ref z0)]) hx hb dL_run_16 hl (by decide) rfl (fun ls hl => ?_)
  refine lv_iconst (v := 1) hx hb dL_run_18 (by decide) ?_
  exact W.iret (v := 1) hx hb hr (fun t ht hW => ⟨⟨1, (), rfl, rfl, by rw [ht]; exact hP, va_K.moved hW.alike hK, hD⟩, hS.F ht⟩) hS.2.2 dL_run_19
set_option maxHeartbeats 4000000 in
set_option maxRecDepth 100000 in
theorem kx_X5_run_10 (l : Launch) (dC : Nat → ClassId) (dI : Nat → Nat → Nat) (h0 : Nat) (z0 : Nat) (z1 : Nat) (z2 : Nat) (sz : Nat) (i0 : Int32) (i0_l : ((-2147483648) : Int) ≤ i0.toInt) (i0_u : i0.toInt ≤ ((-1) : Int)) (i1 : Int32) (i1_l : (0 : Int) ≤ i1.toInt) (i1_u : i1.toInt ≤ (2 : Int)) (i2 : Int32) (i2_l : (1 : Int) ≤ i2.toInt) (i2_u : i2.toInt ≤ (40 : Int)) : Met l yX5_run wsX5_run ({ frames := 2, cells := 0, slots := 0, locals := 42 }) (va_Pc [.ref h0, .int i0, .int i1, .int i2] (fun U => U.heap.size = sz ∧ va_P (dC, dI) vwCl [(h0, .inr (9, [.int 0, .ref z0, .ref z1, .ref z2, .int 0, .int 0, .int 0]))] U.heap ∧ va_K (dC, dI) vwCl [] U ∧ va_D (fun _ => True) [(h0, .inr (9, [.int 0, .ref z0, .ref z1, .ref z2, .int 0, .int 0, .int 0]))])) (va_Qi (fun (r : Int32) (_ : Unit) => r = 0) (fun (_ : Unit) (t : State) => va_P (dC, dI) vwCl [(h0, .inr (9, [.int 1, .ref z0, .ref z1, .ref z2, .int 0, .int 0, .int 0]))] t.heap ∧ va_K (dC, dI) vwCl [] t ∧ va_D (va_A [(h0, .inr (9, [.int 0, .ref z0, .ref z1, .ref z2, .int 0, .int 0, .int 0]))] sz) [(h0, .inr (9, [.int 1, .ref z0, .ref z1, .ref z2, .int 0, .int 0, .int 0]))]) (va_A [(h0, .inr (9, [.int 0, .ref z0, .ref z1, .ref z2, .int 0, .int 0, .int 0]))] sz)) 0 0 (va_A [(h0, .inr (9, [.int 0, .ref z0, .ref z1, .ref z2, .int 0, .int 0, .int 0]))] sz) := by
  refine Met.ofW (cc := cX5_run) (maxL := 5) (ret := (some .int)) (by decide) rfl ?_
  intro p e s m args below meth c s₁ B hml hv
  obtain ⟨rfl, hsz, hP, hK, hD0⟩ := hv
  have hx := B.exec
  have hb := B.bytes
  have hr := B.returns
  have hts := atoms_spec (ws := wsX5_run) B.pre
  have hown : s.vm.findClass RX5 = some m.cls := findClass_of_methodNamed B.named
  have hlocks := B.notSynchronized
  subst hsz
  have hD := hD0.self (sz := s.heap.size)
  generalize hAe : va_A [(h0, .inr (9, [.int 0, .ref z0, .ref z1, .ref z2, .int 0, .int 0, .int 0]))] s.heap.size = A at hD ⊢
  have hA : ∀ q : Nat, s.heap.size ≤ q → A q := fun q h => by rw [← hAe]; exact Or.inr h
  have hS : va_S A s.heap s.heap [] := va_S.rf
  have hP : va_P (dC, dI) vwCl [(h0, .inr (9, [.int 0, .ref z0, .ref z1, .ref z2, .int 0, .int 0, .int 0]))] s.heap := hP
  have hl := lv_entry ([.ref h0, .int i0, .int i1, .int i2]) (n := 5) (Nat.le_of_ble_eq_true rfl)
  rw [lg_entry_eq]
  generalize (lg_sl ([.ref h0, .int i0, .int i1, .int i2]) ++ List.replicate (5 - (lg_sl ([.ref h0, .int i0, .int i1, .int i2])).length) Slot.unset).toArray = ls at hl ⊢
  have hl : lv_has ls 5 [(0, .ref h0), (1, .int i0), (2, .int i1), (3, .int i2)] := hl
  refine lv_aload_n hx hb dX5_run_0 rfl (lv_at hl 0 rfl) ?_
  refine lv_iload_n hx hb dX5_run_1 rfl (lv_at hl 1 rfl) ?_
  have hPc := hP.sub (ws' := []) [] rfl
  have hDc := hD.sub (ws' := []) [] (by decide) rfl
  have hKc := hK.sub (tys' := []) [] rfl
  have hFc := va_free (wc := []) hD hS hA [] rfl
  refine va_calli (va_runS (As := [.int i0]) (rest := [.ref h0]) ⟨hx, hb, hml, hown, hts⟩ (kx_X5_isNo_0 l dC dI s.heap.size i0 i0_l i0_u) (cwS 1 hts gX5_run_X5_isNo rfl rfl rfl (by decide +kernel) ⟨Nat.le_of_ble_eq_true rfl, Nat.le_of_ble_eq_true rfl⟩) ⟨fun a U g mk q => by obtain ⟨q0, q1, qP, qK, qD⟩ := q; exact ⟨q0, q1, qP, va_K.moved (u := U) (U := U.calling g mk a) (Vm.Alike.refl U.vm) qK, qD⟩, fun U hU hW => ⟨rfl, by rw [hU], by rw [hU]; exact hPc, va_K.moved hW.alike hKc, hDc.weaken (fun _ _ _ _ => trivial)⟩⟩ rfl rfl hl.1 rfl (lv_room (Nat.le_of_ble_eq_true rfl)) dX5_run_2 ⟨Nat.le_of_ble_eq_true rfl, Nat.le_of_ble_eq_true rfl⟩) hS (fun q _ h => hFc q h) hFc (fun r9 u t H1 locs ht hvm hw hB hz1 hk1 hS => ?_)
  obtain rfl := hw
  obtain ⟨hP1, hK1, hD1⟩ := hB
  rw [ht] at hP1
  have hK1 := va_K.moved hvm.symm hK1
  obtain ⟨hP, hD⟩ := va_join (wr := [(h0, .inr (9, [.int 0, .ref z0, .ref z1, .ref z2, .int 0, .int 0, .int 0]))]) (w1 := []) hP hD [] [0] rfl rfl (by decide) (by decide) hk1 hFc hP1 hD1
  generalize H1 = H at hP hS ⊢
  have hP : va_P (dC, dI) vwCl [(h0, .inr (9, [.int 0, .ref z0, .ref z1, .ref z2, .int 0, .int 0, .int 0]))] H := hP
  have hD : va_D A [(h0, .inr (9, [.int 0, .ref z0, .ref z1, .ref z2, .int 0, .int 0, .int 0]))] := hD
  refine lv_iload_n hx hb dX5_run_5 rfl (lv_at hl 2 rfl) ?_
  refine lv_iconst (v := 0) hx hb dX5_run_6 (by decide) ?_
  refine lv_iconst (v := 2) hx hb dX5_run_7 (by decide) ?_
  have hPc := hP.sub (ws' := []) [] rfl
  have hDc := hD.sub (ws' := []) [] (by decide) rfl
  have hKc := hK.sub (tys' := []) [] rfl
  have hFc := va_free (wc := []) hD hS hA [] rfl
  refine va_calli (va_runS (As := [.int i1, .int 0, .int 2]) (rest := [.int 1, .ref h0]) ⟨hx, hb, hml, hown, hts⟩ (kx_X5_isIn_21 l dC dI H.size i1 i1_l i1_u) (cwS 3 hts gX5_run_X5_isIn rfl rfl rfl (by decide +kernel) ⟨Nat.le_of_ble_eq_true rfl, Nat.le_of_ble_eq_true rfl⟩) ⟨fun a U g mk q => by obtain ⟨q0, q1, qP, qK, qD⟩ := q; exact ⟨q0, q1, qP, va_K.moved (u := U) (U := U.calling g mk a) (Vm.Alike.refl U.vm) qK, qD⟩, fun U hU hW => ⟨rfl, by rw [hU], by rw [hU]; exact hPc, va_K.moved hW.alike hKc, hDc.weaken (fun _ _ _ _ => trivial)⟩⟩ rfl rfl hl.1 rfl (lv_room (Nat.le_of_ble_eq_true rfl)) dX5_run_8 ⟨Nat.le_of_ble_eq_true rfl, Nat.le_of_ble_eq_true rfl⟩) hS (fun q _ h => hFc q h) hFc (fun r9 u t H1 locs ht hvm hw hB hz1 hk1 hS => ?_)
  obtain rfl := hw
  obtain ⟨hP1, hK1, hD1⟩ := hB
  rw [ht] at hP1
  have hK1 := va_K.moved hvm.symm hK1
  obtain ⟨hP, hD⟩ := va_join (wr := [(h0, .inr (9, [.int 0, .ref z0, .ref z1, .ref z2, .int 0, .int 0, .int 0]))]) (w1 := []) hP hD [] [0] rfl rfl (by decide) (by decide) hk1 hFc hP1 hD1
  generalize H1 = H at hP hS ⊢
  have hP : va_P (dC, dI) vwCl [(h0, .inr (9, [.int 0, .ref z0, .ref z1, .ref z2, .int 0, .int 0, .int 0]))] H := hP
  have hD : va_D A [(h0, .inr (9, [.int 0, .ref z0, .ref z1, .ref z2, .int 0, .int 0, .int 0]))] := hD
  refine lv_if_eq (tgt := 24) hx hb dX5_run_11 (by decide) (fun c9 => absurd c9 (by decide)) (fun _ => ?_)
  refine lv_iload_n hx hb dX5_run_14 rfl (lv_at hl 3 rfl) ?_
  refine lv_iconst (v := 1) hx hb dX5_run_15 (by decide) ?_
  refine lv_bipush (v := 40) hx hb dX5_run_16 (by decide) ?_
  have hPc := hP.sub (ws' := []) [] rfl
  have hDc := hD.sub (ws' := []) [] (by decide) rfl
  have hKc := hK.sub (tys' := []) [] rfl
  have hFc := va_free (wc := []) hD hS hA [] rfl
  refine va_calli (va_runS (As := [.int i2, .int 1, .int 40]) (rest := [.int 1, .ref h0]) ⟨hx, hb, hml, hown, hts⟩ (kx_X5_isIn_25 l dC dI H.size i2 i2_l i2_u) (cwS 3 hts gX5_run_X5_isIn rfl rfl rfl (by decide +kernel) ⟨Nat.le_of_ble_eq_true rfl, Nat.le_of_ble_eq_true rfl⟩) ⟨fun a U g mk q => by obtain ⟨q0, q1, qP, qK, qD⟩ := q; exact ⟨q0, q1, qP, va_K.moved (u := U) (U := U.calling g mk a) (Vm.Alike.refl U.vm) qK, qD⟩, fun U hU hW => ⟨rfl, by rw [hU], by rw [hU]; exact hPc, va_K.moved hW.alike hKc, hDc.weaken (fun _ _ _ _ => trivial)⟩⟩ rfl rfl hl.1 rfl (lv_room (Nat.le_of_ble_eq_true rfl)) dX5_run_18 ⟨Nat.le_of_ble_eq_true rfl, Nat.le_of_ble_eq_true rfl⟩) hS (fun q _ h => hFc q h) hFc (fun r9 u t H1 locs ht hvm hw hB hz1 hk1 hS => ?_)
  obtain rfl := hw
  obtain ⟨hP1, hK1, hD1⟩ := hB
  rw [ht] at hP1
  have hK1 := va_K.moved hvm.symm hK1
  obtain ⟨hP, hD⟩ := va_join (wr := [(h0, .inr (9, [.int 0, .ref z0, .ref z1, .ref z2, .int 0, .int 0, .int 0]))]) (w1 := []) hP hD [] [0] rfl rfl (by decide) (by decide) hk1 hFc hP1 hD1
  generalize H1 = H at hP hS ⊢
  have hP : va_P (dC, dI) vwCl [(h0, .inr (9, [.int 0, .ref z0, .ref z1, .ref z2, .int 0, .int 0, .int 0]))] H := hP
  have hD : va_D A [(h0, .inr (9, [.int 0, .ref z0, .ref z1, .ref z2, .int 0, .int 0, .int 0]))] := hD
  refine lv_if_ne (tgt := 28) hx hb dX5_run_21 (by decide) (fun _ => ?_) (fun c9 => absurd c9 (by decide))
  refine lv_iconst (v := 0) hx hb dX5_run_28 (by decide) ?_
  refine lv_iconst (v := 0) hx hb dX5_run_29 (by decide) ?_
  have hPc := hP.sub (ws' := [(h0, .inr (9, [.int 0, .ref z0, .ref z1, .ref z2, .int 0, .int 0, .int 0]))]) [0] rfl
  have hDc := hD.sub (ws' := [(h0, .inr (9, [.int 0, .ref z0, .ref z1, .ref z2, .int 0, .int 0, .int 0]))]) [0] (by decide) rfl
  have hKc := hK.sub (tys' := []) [] rfl
  have hFc := va_free (wc := [(h0, .inr (9, [.int 0, .ref z0, .ref z1, .ref z2, .int 0, .int 0, .int 0]))]) hD hS hA [0] rfl
  refine va_calli (va_runV (As := [.int 1, .int 0, .int 0]) (rest := []) ⟨hx, hb, hml, hown, hts⟩ (kx_X5_fails_0 l dC dI h0 z0 z1 z2 H.size) (cwV 3 hts gX5_run_X5_fails rfl rfl rfl (by decide +kernel) ⟨Nat.le_of_ble_eq_true rfl, Nat.le_of_ble_eq_true rfl⟩) ⟨fun a U g mk q => by obtain ⟨q0, q1, qP, qK, qD⟩ := q; exact ⟨q0, q1, qP, va_K.moved (u := U) (U := U.calling g mk a) (Vm.Alike.refl U.vm) qK, qD⟩, va_recv hKc hPc (ci := 9) (q0 := 0) rfl rfl, fun U hU hW => ⟨rfl, by rw [hU], by rw [hU]; exact hPc, va_K.moved hW.alike hKc, hDc.weaken (fun _ _ _ _ => trivial)⟩⟩ rfl rfl hl.1 rfl (lv_room (Nat.le_of_ble_eq_true rfl)) dX5_run_30 ⟨Nat.le_of_ble_eq_true rfl, Nat.le_of_ble_eq_true rfl⟩) hS (fun q _ h => hFc q h) hFc (fun r9 u t H1 locs ht hvm hw hB hz1 hk1 hS => ?_)
  obtain rfl := hw
  obtain ⟨hP1, hK1, hD1⟩ := hB
  rw [ht] at hP1
  have hK1 := va_K.moved hvm.symm hK1
  obtain ⟨hP, hD⟩ := va_join (wr := []) (w1 := [(h0, .inr (9, [.int 1, .ref z0, .ref z1, .ref z2, .int 0, .int 0, .int 0]))]) hP hD [0] [] rfl rfl (by decide) (by decide) hk1 hFc hP1 hD1
  generalize H1 = H at hP hS ⊢
  have hP : va_P (dC, dI) vwCl [(h0, .inr (9, [.int 1, .ref z0, .ref z1, .ref z2, .int 0, .int 0, .int 0]))] H := hP
  have hD : va_D A [(h0, .inr (9, [.int 1, .ref z0, .ref z1, .ref z2, .int 0, .int 0, .int 0]))] := hD
  refine lv_if_eq (tgt := 38) hx hb dX5_run_33 (by decide) (fun c9 => absurd c9 (by decide)) (fun _ => ?_)
  refine lv_iconst (v := 0) hx hb dX5_run_36 (by decide) ?_
  exact W.iret (v := 0) hx hb hr (fun t ht hW => ⟨⟨0, (), rfl, rfl, by rw [ht]; exact hP, va_K.moved hW.alike hK, hD⟩, hS.F ht⟩) hS.2.2 dX5_run_37
set_option maxHeartbeats 4000000 in
set_option maxRecDepth 100000 in
theorem kx_X3_run_14 (l : Launch) (hst : l.stackTraces = false) (dC : Nat → ClassId) (dI : Nat → Nat → Nat) (ge5 gea gv5 gva gde gic gi0 : Nat) (h0 : Nat) (z0 : Nat) (z1 : Nat) (z2 : Nat) (z3 : Nat) (z4 : Nat) (z5 : Nat) (sz : Nat) (i0 : Int32) (i0_l : ((-2147483648) : Int) ≤ i0.toInt) (i0_u : i0.toInt ≤ ((-1) : Int)) (i1 : Int32) (i1_l : (0 : Int) ≤ i1.toInt) (i1_u : i1.toInt ≤ (2 : Int)) (i2 : Int32) (i2_l : (41 : Int) ≤ i2.toInt) (i2_u : i2.toInt ≤ (2147483647 : Int)) : vx_Met l yX3_run wsX3_run ({ frames := 7, cells := 1, slots := 6, locals := 140 }) (va_Pc [.ref h0, .int i0, .int i1, .int i2] (fun U => U.heap.size = sz ∧ va_P (dC, dI) vwCl [(h0, .inr (7, [.ref z0, .ref z1, .ref z2, .ref z3, .ref z4, .ref z5, .int 0, .int 0, .int 0]))] U.heap ∧ va_K (dC, dI) vwCl [] U ∧ va_D (fun _ => True) [(h0, .inr (7, [.ref z0, .ref z1, .ref z2, .ref z3, .ref z4, .ref z5, .int 0, .int 0, .int 0]))] ∧ gv ge5 gea gv5 gva gde gic gi0 (va_A [(h0, .inr (7, [.ref z0, .ref z1, .ref z2, .ref z3, .ref z4, .ref z5, .int 0, .int 0, .int 0]))] sz) U U.heap)) (va_Qi (fun (_ : Int32) (_ : Unit) => False) (fun _ _ => True) (va_A [(h0, .inr (7, [.ref z0, .ref z1, .ref z2, .ref z3, .ref z4, .ref z5, .int 0, .int 0, .int 0]))] sz)) (vx_X (fun _ : Unit => True) (fun (E : String) (_ : Unit) (t : State) => E = "java/lang/IndexOutOfBoundsException" ∧ va_P (dC, dI) vwCl [(h0, .inr (7, [.ref z0, .ref z1, .ref z2, .ref z3, .ref z4, .ref z5, .int 0, .int 0, .int 0]))] t.heap ∧ va_K (dC, dI) vwCl [] t ∧ va_D (va_A [(h0, .inr (7, [.ref z0, .ref z1, .ref z2, .ref z3, .ref z4, .ref z5, .int 0, .int 0, .int 0]))] sz) [(h0, .inr (7, [.ref z0, .ref z1, .ref z2, .ref z3, .ref z4, .ref z5, .int 0, .int 0, .int 0]))]) (va_A [(h0, .inr (7, [.ref z0, .ref z1, .ref z2, .ref z3, .ref z4, .ref z5, .int 0, .int 0, .int 0]))] sz)) 1 6 (va_A [(h0, .inr (7, [.ref z0, .ref z1, .ref z2, .ref z3, .ref z4, .ref z5, .int 0, .int 0, .int 0]))] sz) := by
  refine vx_ofW (cc := cX3_run) (maxL := 5) (ret := (some .int)) (by decide) rfl ?_
  intro p e s m args below meth c s₁ B hml ht9 hv
  obtain ⟨rfl, hsz, hP, hK, hD0, hG⟩ := hv
  have hx := B.exec
  have hb := B.bytes
  have hr := B.returns
  have hts := atoms_spec (ws := wsX3_run) B.pre
  have hown : s.vm.findClass RX3 = some m.cls := findClass_of_methodNamed B.named
  have hlocks := B.notSynchronized
  subst hsz
  have hD := hD0.self (sz := s.heap.size)
  generalize hAe : va_A [(h0, .inr (7, [.ref z0, .ref z1, .ref z2, .ref z3, .ref z4, .ref z5, .int 0, .int 0, .int 0]))] s.heap.size = A at hD hG ⊢
  obtain ⟨⟨g_AO_Text, g_AO_String, g_AO_Object, g_nm_RX1_20, g_nm_RX0_17, g_nm_RX3_31, g_nm_RX2_44, g_nm_RL_121, g_nf_RL_13, g_nf_RL_47, g_ca_IO, g_ca_IA, g_ca_IS, g_ca_IntObj, g_ca_StrObj, g_de_RT, g_de_EX, g_de_TH, g_nc_IA_IO, g_nc_IS_IO, g_nc_IS_IA⟩, ⟨g_s3, g_s5, g_sa, g_x278, g_x280, g_x282, g_x284, g_x286, g_x180, g_x238, g_x250⟩, ⟨g_o5, g_c5, g_v5, g_t5, g_oa, g_ca, g_va, g_ta, g_zc, g_zd, g_td, g_zf, g_zU, g_zN, g_zh, g_zk, g_tk, g_oi, g_vi⟩⟩ := id hG
  have hA : ∀ q : Nat, s.heap.size ≤ q → A q := fun q h => by rw [← hAe]; exact Or.inr h
  have hS : va_S A s.heap s.heap [] := va_S.rf
  have hP : va_P (dC, dI) vwCl [(h0, .inr (7, [.ref z0, .ref z1, .ref z2, .ref z3, .ref z4, .ref z5, .int 0, .int 0, .int 0]))] s.heap := hP
  have hl := lv_entry ([.ref h0, .int i0, .int i1, .int i2]) (n := 5) (Nat.le_of_ble_eq_true rfl)
  rw [lg_entry_eq]
  generalize (lg_sl ([.ref h0, .int i0, .int i1, .int i2]) ++ List.replicate (5 - (lg_sl ([.ref h0, .int i0, .int i1, .int i2])).length) Slot.unset).toArray = ls at hl ⊢
  have hl : lv_has ls 5 [(0, .ref h0), (1, .int i0), (2, .int i1), (3, .int i2)] := hl
  refine lv_iload_n hx hb dX3_run_0 rfl (lv_at hl 1 rfl) ?_
  have hPc := hP.sub (ws' := []) [] rfl
  have hDc := hD.sub (ws' := []) [] (by decide) rfl
  have hKc := hK.sub (tys' := []) [] rfl
  have hFc := va_free (wc := []) hD hS hA [] rfl
  refine vx_callv (vx_runS (As := [.int i0]) (rest := []) ⟨hx, hb, hml, hown, hts⟩ (kx_X3_needRope_5 l hst dC dI ge5 gea gv5 gva gde gic gi0 s.heap.size i0 i0_l i0_u) (cwS 1 hts gX3_run_X3_needRope rfl rfl rfl (by decide +kernel) ⟨Nat.le_of_ble_eq_true rfl, Nat.le_of_ble_eq_true rfl⟩) ⟨fun a U g mk q => by obtain ⟨q0, q1, qP, qK, qD, qG⟩ := q; exact ⟨q0, q1, qP, va_K.moved (u := U) (U := U.calling g mk a) (Vm.Alike.refl U.vm) qK, qD, gv.fb qG⟩, fun U hU hW => ⟨rfl, by rw [hU], by rw [hU]; exact hPc, va_K.moved hW.alike hKc, hDc.weaken (fun _ _ _ _ => trivial), gv.pass hW hU hS hFc hG⟩⟩ rfl rfl hl.1 rfl (lv_room (Nat.le_of_ble_eq_true rfl)) dX3_run_1 ⟨Nat.le_of_ble_eq_true rfl, Nat.le_of_ble_eq_true rfl⟩) hS (fun q _ h => hFc q h) hFc (fun q _ h => hFc q h) (fun E ce q9 u t H1 locs ht hvm hpx hB hz1 hk1 hS hce hcv hcl => ?_) (fun u t H1 locs ht hvm hw hB hz1 hk1 hS => hw.elim)
  obtain ⟨rfl, hP1, hK1, hD1⟩ := hB
  rw [ht] at hP1
  have hK1 := va_K.moved hvm.symm hK1
  obtain ⟨hP, hD⟩ := va_join (wr := [(h0, .inr (7, [.ref z0, .ref z1, .ref z2, .ref z3, .ref z4, .ref z5, .int 0, .int 0, .int 0]))]) (w1 := []) hP hD [] [0] rfl rfl (by decide) (by decide) hk1 hFc hP1 hD1
  generalize H1 = H at hP hS hce ⊢
  have hP : va_P (dC, dI) vwCl [(h0, .inr (7, [.ref z0, .ref z1, .ref z2, .ref z3, .ref z4, .ref z5, .int 0, .int 0, .int 0]))] H := hP
  have hD : va_D A [(h0, .inr (7, [.ref z0, .ref z1, .ref z2, .ref z3, .ref z4, .ref z5, .int 0, .int 0, .int 0]))] := hD
  exact vx_out (fun x hx9 => (ht9 x hx9).elim) hlocks hce hcv hcl (fun t ht hW => ⟨(), trivial, ⟨rfl, by rw [ht]; exact hP, va_K.moved hW hK, hD⟩, hS.F ht⟩) hS.2.2 (by omega) (by omega)
set_option maxHeartbeats 4000000 in
set_option maxRecDepth 100000 in
theorem kx_L_run_11 (l : Launch) (hst : l.stackTraces = false) (dC : Nat → ClassId) (dI : Nat → Nat → Nat) (ge5 gea gv5 gva gde gic gi0 : Nat) (h0 : Nat) (z0 : Nat) (z1 : Nat) (z2 : Nat) (z3 : Nat) (z4 : Nat) (z5 : Nat) (z6 : Nat) (sz : Nat) (i0 : Int32) (i0_l : ((-2147483648) : Int) ≤ i0.toInt) (i0_u : i0.toInt ≤ ((-1) : Int)) (i1 : Int32) (i1_l : (0 : Int) ≤ i1.toInt) (i1_u : i1.toInt ≤ (2 : Int)) (i2 : Int32) (i2_l : (41 : Int) ≤ i2.toInt) (i2_u : i2.toInt ≤ (2147483647 : Int)) : Met l yL_run wsL_run ({ frames := 8, cells := 1, slots := 6, locals := 164 }) (va_Pc [.ref h0, .int i0, .int i1, .int i2, .ref z0] (fun U => U.heap.size = sz ∧ va_P (dC, dI) vwCl [(h0, .inr (7, [.ref z1, .ref z2, .ref z3, .ref z4, .ref z5, .ref z6, .int 0, .int 0, .int 0]))] U.heap ∧ va_K (dC, dI) vwCl [] U ∧ va_D (fun _ => True) [(h0, .inr (7, [.ref z1, .ref z2, .ref z3, .ref z4, .ref z5, .ref z6, .int 0, .int 0, .int 0]))] ∧ gv ge5 gea gv5 gva gde gic gi0 (va_A [(h0, .inr (7, [.ref z1, .ref z2, .ref z3, .ref z4, .ref z5, .ref z6, .int 0, .int 0, .int 0]))] sz) U U.heap)) (va_Qi (fun (r : Int32) (_ : Unit) => r = 1) (fun (_ : Unit) (t : State) => va_P (dC, dI) vwCl [(h0, .inr (7, [.ref z1, .ref z2, .ref z3, .ref z4, .ref z5, .ref z6, .int 0, .int 0, .int 0]))] t.heap ∧ va_K (dC, dI) vwCl [] t ∧ va_D (va_A [(h0, .inr (7, [.ref z1, .ref z2, .ref z3, .ref z4, .ref z5, .ref z6, .int 0, .int 0, .int 0]))] sz) [(h0, .inr (7, [.ref z1, .ref z2, .ref z3, .ref z4, .ref z5, .ref z6, .int 0, .int 0, .int 0]))]) (va_A [(h0, .inr (7, [.ref z1, .ref z2, .ref z3, .ref z4, .ref z5, .ref z6, .int 0, .int 0, .int 0]))] sz)) 1 6 (va_A [(h0, .inr (7, [.ref z1, .ref z2, .ref z3, .ref z4, .ref z5, .ref z6, .int 0, .int 0, .int 0]))] sz) := by
  refine kz_ofWH (cc := cL_run) (maxL := 6) (ret := (some .int)) (hh := [(0, 13, 16, 19), (0, 13, 20, 21)]) (by decide) rfl ?_
  intro p e s m args below meth c s₁ B hml hv
  obtain ⟨rfl, hsz, hP, hK, hD0, hG⟩ := hv
  have hx := B.exec
  have hb := B.bytes
  have hr := B.returns
  have hts := atoms_spec (ws := wsL_run) B.pre
  have hown : s.vm.findClass RL = some m.cls := findClass_of_methodNamed B.named
  have htab := vx_table (x := yL_run) B (hts (.codeWith yL_run cL_run 6 (some .int) [(0, 13, 16, 19), (0, 13, 20, 21)]) (by decide +kernel))
  have hlocks := B.notSynchronized
  subst hsz
  have hD := hD0.self (sz := s.heap.size)
  generalize hAe : va_A [(h0, .inr (7, [.ref z1, .ref z2, .ref z3, .ref z4, .ref z5, .ref z6, .int 0, .int 0, .int 0]))] s.heap.size = A at hD hG ⊢
  obtain ⟨⟨g_AO_Text, g_AO_String, g_AO_Object, g_nm_RX1_20, g_nm_RX0_17, g_nm_RX3_31, g_nm_RX2_44, g_nm_RL_121, g_nf_RL_13, g_nf_RL_47, g_ca_IO, g_ca_IA, g_ca_IS, g_ca_IntObj, g_ca_StrObj, g_de_RT, g_de_EX, g_de_TH, g_nc_IA_IO, g_nc_IS_IO, g_nc_IS_IA⟩, ⟨g_s3, g_s5, g_sa, g_x278, g_x280, g_x282, g_x284, g_x286, g_x180, g_x238, g_x250⟩, ⟨g_o5, g_c5, g_v5, g_t5, g_oa, g_ca, g_va, g_ta, g_zc, g_zd, g_td, g_zf, g_zU, g_zN, g_zh, g_zk, g_tk, g_oi, g_vi⟩⟩ := id hG
  have hA : ∀ q : Nat, s.heap.size ≤ q → A q := fun q h => by rw [← hAe]; exact Or.inr h
  have hS : va_S A s.heap s.heap [] := va_S.rf
  have hP : va_P (dC, dI) vwCl [(h0, .inr (7, [.ref z1, .ref z2, .ref z3, .ref z4, .ref z5, .ref z6, .int 0, .int 0, .int 0]))] s.heap := hP
  have hl := lv_entry ([.ref h0, .int i0, .int i1, .int i2, .ref z0]) (n := 6) (Nat.le_of_ble_eq_true rfl)
  rw [lg_entry_eq]
  generalize (lg_sl ([.ref h0, .int i0, .int i1, .int i2, .ref z0]) ++ List.replicate (6 - (lg_sl ([.ref h0, .int i0, .int i1, .int i2, .ref z0])).length) Slot.unset).toArray = ls at hl ⊢
  have hl : lv_has ls 6 [(0, .ref h0), (1, .int i0), (2, .int i1), (3, .int i2), (4, .ref z0)] := hl
  refine lv_aload hx hb dL_run_0 (lv_at hl 4 rfl) ?_
  refine lv_aload_n hx hb dL_run_2 rfl (lv_at hl 0 rfl) ?_
  refine lv_iload_n hx hb dL_run_3 rfl (lv_at hl 1 rfl) ?_
  refine lv_iload_n hx hb dL_run_4 rfl (lv_at hl 2 rfl) ?_
  refine lv_iload_n hx hb dL_run_5 rfl (lv_at hl 3 rfl) ?_
  have hPc := hP.sub (ws' := [(h0, .inr (7, [.ref z1, .ref z2, .ref z3, .ref z4, .ref z5, .ref z6, .int 0, .int 0, .int 0]))]) [0] rfl
  have hDc := hD.sub (ws' := [(h0, .inr (7, [.ref z1, .ref z2, .ref z3, .ref z4, .ref z5, .ref z6, .int 0, .int 0, .int 0]))]) [0] (by decide) rfl
  have hKc := hK.sub (tys' := []) [] rfl
  have hFc := va_free (wc := [(h0, .inr (7, [.ref z1, .ref z2, .ref z3, .ref z4, .ref z5, .ref z6, .int 0, .int 0, .int 0]))]) hD hS hA [0] rfl
  refine vx_calli (vx_runV (As := [.int i0, .int i1, .int i2]) (rest := [.ref z0]) ⟨hx, hb, hml, hown, hts⟩ (kx_X3_run_14 l hst dC dI ge5 gea gv5 gva gde gic gi0 h0 z1 z2 z3 z4 z5 z6 s.heap.size i0 i0_l i0_u i1 i1_l i1_u i2 i2_l i2_u) (cwV 3 hts gL_run_X3_run rfl rfl rfl (by decide +kernel) ⟨Nat.le_of_ble_eq_true rfl, Nat.le_of_ble_eq_true rfl⟩) ⟨fun a U g mk q => by obtain ⟨q0, q1, qP, qK, qD, qG⟩ := q; exact ⟨q0, q1, qP, va_K.moved (u := U) (U := U.calling g mk a) (Vm.Alike.refl U.vm) qK, qD, gv.fb qG⟩, va_recv hKc hPc (ci := 7) (q0 := 0) rfl rfl, fun U hU hW => ⟨rfl, by rw [hU], by rw [hU]; exact hPc, va_K.moved hW.alike hKc, hDc.weaken (fun _ _ _ _ => trivial), gv.pass hW hU hS hFc hG⟩⟩ rfl rfl hl.1 rfl (lv_room (Nat.le_of_ble_eq_true rfl)) dL_run_6 ⟨Nat.le_of_ble_eq_true rfl, Nat.le_of_ble_eq_true rfl⟩) hS (fun q _ h => hFc q h) hFc (fun q _ h => hFc q h) (fun E ce q9 u t H1 locs ht hvm hpx hB hz1 hk1 hS hce hcv hcl => ?_) (fun r9 u t H1 locs ht hvm hw hB hz1 hk1 hS => hw.elim)
  obtain ⟨rfl, hP1, hK1, hD1⟩ := hB
  rw [ht] at hP1
  have hK1 := va_K.moved hvm.symm hK1
  obtain ⟨hP, hD⟩ := va_join (wr := []) (w1 := [(h0, .inr (7, [.ref z1, .ref z2, .ref z3, .ref z4, .ref z5, .ref z6, .int 0, .int 0, .int 0]))]) hP hD [0] [] rfl rfl (by decide) (by decide) hk1 hFc hP1 hD1
  generalize H1 = H at hP hS hce ⊢
  have hP : va_P (dC, dI) vwCl [(h0, .inr (7, [.ref z1, .ref z2, .ref z3, .ref z4, .ref z5, .ref z6, .int 0, .int 0, .int 0]))] H := hP
  have hD : va_D A [(h0, .inr (7, [.ref z1, .ref z2, .ref z3, .ref z4, .ref z5, .ref z6, .int 0, .int 0, .int 0]))] := hD
  refine vx_catch (own := RL) (name := "java/lang/IndexOutOfBoundsException") hown (tableOf []) ⟨0, 13, 16, 19⟩ (tableOf [(0, 13, 20, 21)]) (by rw [htab]; rfl) (fun z hz => nomatch hz) (by decide +kernel) (by decide) (hts (.classLink RL 19 "java/lang/IndexOutOfBoundsException") (by decide +kernel)) (va_Nw.use rfl g_ca_IO) hce hcv hcl ?_
  refine W.eq (g2 := F0 m 16 ls [.ref q9]) rfl ?_
  refine lv_astore (lv' := [(5, .ref q9), (0, .ref h0), (1, .int i0), (2, .int i1), (3, .int i2), (4, .ref z0)]) hx hb dL_run_16 hl (by decide) rfl (fun ls hl => ?_)
  refine lv_iconst (v := 1) hx hb dL_run_18 (by decide) ?_
  exact W.iret (v := 1) hx hb hr (fun t ht hW => ⟨⟨1, (), rfl, rfl, by rw [ht]; exact hP, va_K.moved hW.alike hK, hD⟩, hS.F ht⟩) hS.2.2 dL_run_19
set_option maxHeartbeats 4000000 in
set_option maxRecDepth 100000 in
theorem kx_X5_run_11 (l : Launch) (dC : Nat → ClassId) (dI : Nat → Nat → Nat) (h0 : Nat) (z0 : Nat) (z1 : Nat) (z2 : Nat) (sz : Nat) (i0 : Int32) (i0_l : ((-2147483648) : Int) ≤ i0.toInt) (i0_u : i0.toInt ≤ ((-1) : Int)) (i1 : Int32) (i1_l : (0 : Int) ≤ i1.toInt) (i1_u : i1.toInt ≤ (2 : Int)) (i2 : Int32) (i2_l : (41 : Int) ≤ i2.toInt) (i2_u : i2.toInt ≤ (2147483647 : Int)) : Met l yX5_run wsX5_run ({ frames := 2, cells := 0, slots := 0, locals := 42 }) (va_Pc [.ref h0, .int i0, .int i1, .int i2] (fun U => U.heap.size = sz ∧ va_P (dC, dI) vwCl [(h0, .inr (9, [.int 0, .ref z0, .ref z1, .ref z2, .int 0, .int 0, .int 0]))] U.heap ∧ va_K (dC, dI) vwCl [] U ∧ va_D (fun _ => True) [(h0, .inr (9, [.int 0, .ref z0, .ref z1, .ref z2, .int 0, .int 0, .int 0]))])) (va_Qi (fun (r : Int32) (_ : Unit) => r = 0) (fun (_ : Unit) (t : State) => va_P (dC, dI) vwCl [(h0, .inr (9, [.int 1, .ref z0, .ref z1, .ref z2, .int 0, .int 0, .int 0]))] t.heap ∧ va_K (dC, dI) vwCl [] t ∧ va_D (va_A [(h0, .inr (9, [.int 0, .ref z0, .ref z1, .ref z2, .int 0, .int 0, .int 0]))] sz) [(h0, .inr (9, [.int 1, .ref z0, .ref z1, .ref z2, .int 0, .int 0, .int 0]))]) (va_A [(h0, .inr (9, [.int 0, .ref z0, .ref z1, .ref z2, .int 0, .int 0, .int 0]))] sz)) 0 0 (va_A [(h0, .inr (9, [.int 0, .ref z0, .ref z1, .ref z2, .int 0, .int 0, .int 0]))] sz) := by
  refine Met.ofW (cc := cX5_run) (maxL := 5) (ret := (some .int)) (by decide) rfl ?_
  intro p e s m args below meth c s₁ B hml hv
  obtain ⟨rfl, hsz, hP, hK, hD0⟩ := hv
  have hx := B.exec
  have hb := B.bytes
  have hr := B.returns
  have hts := atoms_spec (ws := wsX5_run) B.pre
  have hown : s.vm.findClass RX5 = some m.cls := findClass_of_methodNamed B.named
  have hlocks := B.notSynchronized
  subst hsz
  have hD := hD0.self (sz := s.heap.size)
  generalize hAe : va_A [(h0, .inr (9, [.int 0, .ref z0, .ref z1, .ref z2, .int 0, .int 0, .int 0]))] s.heap.size = A at hD ⊢
  have hA : ∀ q : Nat, s.heap.size ≤ q → A q := fun q h => by rw [← hAe]; exact Or.inr h
  have hS : va_S A s.heap s.heap [] := va_S.rf
  have hP : va_P (dC, dI) vwCl [(h0, .inr (9, [.int 0, .ref z0, .ref z1, .ref z2, .int 0, .int 0, .int 0]))] s.heap := hP
  have hl := lv_entry ([.ref h0, .int i0, .int i1, .int i2]) (n := 5) (Nat.le_of_ble_eq_true rfl)
  rw [lg_entry_eq]
  generalize (lg_sl ([.ref h0, .int i0, .int i1, .int i2]) ++ List.replicate (5 - (lg_sl ([.ref h0, .int i0, .int i1, .int i2])).length) Slot.unset).toArray = ls at hl ⊢
  have hl : lv_has ls 5 [(0, .ref h0), (1, .int i0), (2, .int i1), (3, .int i2)] := hl
  refine lv_aload_n hx hb dX5_run_0 rfl (lv_at hl 0 rfl) ?_
  refine lv_iload_n hx hb dX5_run_1 rfl (lv_at hl 1 rfl) ?_
  have hPc := hP.sub (ws' := []) [] rfl
  have hDc := hD.sub (ws' := []) [] (by decide) rfl
  have hKc := hK.sub (tys' := []) [] rfl
  have hFc := va_free (wc := []) hD hS hA [] rfl
  refine va_calli (va_runS (As := [.int i0]) (rest := [.ref h0]) ⟨hx, hb, hml, hown, hts⟩ (kx_X5_isNo_0 l dC dI s.heap.size i0 i0_l i0_u) (cwS 1 hts gX5_run_X5_isNo rfl rfl rfl (by decide +kernel) ⟨Nat.le_of_ble_eq_true rfl, Nat.le_of_ble_eq_true rfl⟩) ⟨fun a U g mk q => by obtain ⟨q0, q1, qP, qK, qD⟩ := q; exact ⟨q0, q1, qP, va_K.moved (u := U) (U := U.calling g mk a) (Vm.Alike.refl U.vm) qK, qD⟩, fun U hU hW => ⟨rfl, by rw [hU], by rw [hU]; exact hPc, va_K.moved hW.alike hKc, hDc.weaken (fun _ _ _ _ => trivial)⟩⟩ rfl rfl hl.1 rfl (lv_room (Nat.le_of_ble_eq_true rfl)) dX5_run_2 ⟨Nat.le_of_ble_eq_true rfl, Nat.le_of_ble_eq_true rfl⟩) hS (fun q _ h => hFc q h) hFc (fun r9 u t H1 locs ht hvm hw hB hz1 hk1 hS => ?_)
  obtain rfl := hw
  obtain ⟨hP1, hK1, hD1⟩ := hB
  rw [ht] at hP1
  have hK1 := va_K.moved hvm.symm hK1
  obtain ⟨hP, hD⟩ := va_join (wr := [(h0, .inr (9, [.int 0, .ref z0, .ref z1, .ref z2, .int 0, .int 0, .int 0]))]) (w1 := []) hP hD [] [0] rfl rfl (by decide) (by decide) hk1 hFc hP1 hD1
  generalize H1 = H at hP hS ⊢
  have hP : va_P (dC, dI) vwCl [(h0, .inr (9, [.int 0, .ref z0, .ref z1, .ref z2, .int 0, .int 0, .int 0]))] H := hP
  have hD : va_D A [(h0, .inr (9, [.int 0, .ref z0, .ref z1, .ref z2, .int 0, .int 0, .int 0]))] := hD
  refine lv_iload_n hx hb dX5_run_5 rfl (lv_at hl 2 rfl) ?_
  refine lv_iconst (v := 0) hx hb dX5_run_6 (by decide) ?_
  refine lv_iconst (v := 2) hx hb dX5_run_7 (by decide) ?_
  have hPc := hP.sub (ws' := []) [] rfl
  have hDc := hD.sub (ws' := []) [] (by decide) rfl
  have hKc := hK.sub (tys' := []) [] rfl
  have hFc := va_free (wc := []) hD hS hA [] rfl
  refine va_calli (va_runS (As := [.int i1, .int 0, .int 2]) (rest := [.int 1, .ref h0]) ⟨hx, hb, hml, hown, hts⟩ (kx_X5_isIn_21 l dC dI H.size i1 i1_l i1_u) (cwS 3 hts gX5_run_X5_isIn rfl rfl rfl (by decide +kernel) ⟨Nat.le_of_ble_eq_true rfl, Nat.le_of_ble_eq_true rfl⟩) ⟨fun a U g mk q => by obtain ⟨q0, q1, qP, qK, qD⟩ := q; exact ⟨q0, q1, qP, va_K.moved (u := U) (U := U.calling g mk a) (Vm.Alike.refl U.vm) qK, qD⟩, fun U hU hW => ⟨rfl, by rw [hU], by rw [hU]; exact hPc, va_K.moved hW.alike hKc, hDc.weaken (fun _ _ _ _ => trivial)⟩⟩ rfl rfl hl.1 rfl (lv_room (Nat.le_of_ble_eq_true rfl)) dX5_run_8 ⟨Nat.le_of_ble_eq_true rfl, Nat.le_of_ble_eq_true rfl⟩) hS (fun q _ h => hFc q h) hFc (fun r9 u t H1 locs ht hvm hw hB hz1 hk1 hS => ?_)
  obtain rfl := hw
  obtain ⟨hP1, hK1, hD1⟩ := hB
  rw [ht] at hP1
  have hK1 := va_K.moved hvm.symm hK1
  obtain ⟨hP, hD⟩ := va_join (wr := [(h0, .inr (9, [.int 0, .ref z0, .ref z1, .ref z2, .int 0, .int 0, .int 0]))]) (w1 := []) hP hD [] [0] rfl rfl (by decide) (by decide) hk1 hFc hP1 hD1
  generalize H1 = H at hP hS ⊢
  have hP : va_P (dC, dI) vwCl [(h0, .inr (9, [.int 0, .ref z0, .ref z1, .ref z2, .int 0, .int 0, .int 0]))] H := hP
  have hD : va_D A [(h0, .inr (9, [.int 0, .ref z0, .ref z1, .ref z2, .int 0, .int 0, .int 0]))] := hD
  refine lv_if_eq (tgt := 24) hx hb dX5_run_11 (by decide) (fun c9 => absurd c9 (by decide)) (fun _ => ?_)
  refine lv_iload_n hx hb dX5_run_14 rfl (lv_at hl 3 rfl) ?_
  refine lv_iconst (v := 1) hx hb dX5_run_15 (by decide) ?_
  refine lv_bipush (v := 40) hx hb dX5_run_16 (by decide) ?_
  have hPc := hP.sub (ws' := []) [] rfl
  have hDc := hD.sub (ws' := []) [] (by decide) rfl
  have hKc := hK.sub (tys' := []) [] rfl
  have hFc := va_free (wc := []) hD hS hA [] rfl
  refine va_calli (va_runS (As := [.int i2, .int 1, .int 40]) (rest := [.int 1, .ref h0]) ⟨hx, hb, hml, hown, hts⟩ (kx_X5_isIn_26 l dC dI H.size i2 i2_l i2_u) (cwS 3 hts gX5_run_X5_isIn rfl rfl rfl (by decide +kernel) ⟨Nat.le_of_ble_eq_true rfl, Nat.le_of_ble_eq_true rfl⟩) ⟨fun a U g mk q => by obtain ⟨q0, q1, qP, qK, qD⟩ := q; exact ⟨q0, q1, qP, va_K.moved (u := U) (U := U.calling g mk a) (Vm.Alike.refl U.vm) qK, qD⟩, fun U hU hW => ⟨rfl, by rw [hU], by rw [hU]; exact hPc, va_K.moved hW.alike hKc, hDc.weaken (fun _ _ _ _ => trivial)⟩⟩ rfl rfl hl.1 rfl (lv_room (Nat.le_of_ble_eq_true rfl)) dX5_run_18 ⟨Nat.le_of_ble_eq_true rfl, Nat.le_of_ble_eq_true rfl⟩) hS (fun q _ h => hFc q h) hFc (fun r9 u t H1 locs ht hvm hw hB hz1 hk1 hS => ?_)
  obtain rfl := hw
  obtain ⟨hP1, hK1, hD1⟩ := hB
  rw [ht] at hP1
  have hK1 := va_K.moved hvm.symm hK1
  obtain ⟨hP, hD⟩ := va_join (wr := [(h0, .inr (9, [.int 0, .ref z0, .ref z1, .ref z2, .int 0, .int 0, .int 0]))]) (w1 := []) hP hD [] [0] rfl rfl (by decide) (by decide) hk1 hFc hP1 hD1
  generalize H1 = H at hP hS ⊢
  have hP : va_P (dC, dI) vwCl [(h0, .inr (9, [.int 0, .ref z0, .ref z1, .ref z2, .int 0, .int 0, .int 0]))] H := hP
  have hD : va_D A [(h0, .inr (9, [.int 0, .ref z0, .ref z1, .ref z2, .int 0, .int 0, .int 0]))] := hD
  refine lv_if_ne (tgt := 28) hx hb dX5_run_21 (by decide) (fun c9 => absurd (by decide) c9) (fun _ => ?_)
  refine lv_iconst (v := 1) hx hb dX5_run_24 (by decide) ?_
  refine lv_goto (tgt := 29) hx hb dX5_run_25 (by decide) ?_
  refine lv_iconst (v := 0) hx hb dX5_run_29 (by decide) ?_
  have hPc := hP.sub (ws' := [(h0, .inr (9, [.int 0, .ref z0, .ref z1, .ref z2, .int 0, .int 0, .int 0]))]) [0] rfl
  have hDc := hD.sub (ws' := [(h0, .inr (9, [.int 0, .ref z0, .ref z1, .ref z2, .int 0, .int 0, .int 0]))]) [0] (by decide) rfl
  have hKc := hK.sub (tys' := []) [] rfl
  have hFc := va_free (wc := [(h0, .inr (9, [.int 0, .ref z0, .ref z1, .ref z2, .int 0, .int 0, .int 0]))]) hD hS hA [0] rfl
  refine va_calli (va_runV (As := [.int 1, .int 1, .int 0]) (rest := []) ⟨hx, hb, hml, hown, hts⟩ (kx_X5_fails_2 l dC dI h0 z0 z1 z2 H.size) (cwV 3 hts gX5_run_X5_fails rfl rfl rfl (by decide +kernel) ⟨Nat.le_of_ble_eq_true rfl, Nat.le_of_ble_eq_true rfl⟩) ⟨fun a U g mk q => by obtain ⟨q0, q1, qP, qK, qD⟩ := q; exact ⟨q0, q1, qP, va_K.moved (u := U) (U := U.calling g mk a) (Vm.Alike.refl U.vm) qK, qD⟩, va_recv hKc hPc (ci := 9) (q0 := 0) rfl rfl, fun U hU hW => ⟨rfl, by rw [hU], by rw [hU]; exact hPc, va_K.moved hW.alike hKc, hDc.weaken (fun _ _ _ _ => trivial)⟩⟩ rfl rfl hl.1 rfl (lv_room (Nat.le_of_ble_eq_true rfl)) dX5_run_30 ⟨Nat.le_of_ble_eq_true rfl, Nat.le_of_ble_eq_true rfl⟩) hS (fun q _ h => hFc q h) hFc (fun r9 u t H1 locs ht hvm hw hB hz1 hk1 hS => ?_)
  obtain rfl := hw
  obtain ⟨hP1, hK1, hD1⟩ := hB
  rw [ht] at hP1
  have hK1 := va_K.moved hvm.symm hK1
  obtain ⟨hP, hD⟩ := va_join (wr := []) (w1 := [(h0, .inr (9, [.int 1, .ref z0, .ref z1, .ref z2, .int 0, .int 0, .int 0]))]) hP hD [0] [] rfl rfl (by decide) (by decide) hk1 hFc hP1 hD1
  generalize H1 = H at hP hS ⊢
  have hP : va_P (dC, dI) vwCl [(h0, .inr (9, [.int 1, .ref z0, .ref z1, .ref z2, .int 0, .int 0, .int 0]))] H := hP
  have hD : va_D A [(h0, .inr (9, [.int 1, .ref z0, .ref z1, .ref z2, .int 0, .int 0, .int 0]))] := hD
  refine lv_if_eq (tgt := 38) hx hb dX5_run_33 (by decide) (fun c9 => absurd c9 (by decide)) (fun _ => ?_)
  refine lv_iconst (v := 0) hx hb dX5_run_36 (by decide) ?_
  exact W.iret (v := 0) hx hb hr (fun t ht hW => ⟨⟨0, (), rfl, rfl, by rw [ht]; exact hP, va_K.moved hW.alike hK, hD⟩, hS.F ht⟩) hS.2.2 dX5_run_37
set_option maxHeartbeats 4000000 in
set_option maxRecDepth 100000 in
theorem kx_X3_run_15 (l : Launch) (hst : l.stackTraces = false) (dC : Nat → ClassId) (dI : Nat → Nat → Nat) (ge5 gea gv5 gva gde gic gi0 : Nat) (h0 : Nat) (z0 : Nat) (z1 : Nat) (z2 : Nat) (z3 : Nat) (z4 : Nat) (z5 : Nat) (sz : Nat) (i0 : Int32) (i0_l : (4 : Int) ≤ i0.toInt) (i0_u : i0.toInt ≤ (2147483647 : Int)) (i1 : Int32) (i1_l : (0 : Int) ≤ i1.toInt) (i1_u : i1.toInt ≤ (2 : Int)) (i2 : Int32) (i2_l : ((-2147483648) : Int) ≤ i2.toInt) (i2_u : i2.toInt ≤ (0 : Int)) : vx_Met l yX3_run wsX3_run ({ frames := 7, cells := 1, slots := 6, locals := 140 }) (va_Pc [.ref h0, .int i0, .int i1, .int i2] (fun U => U.heap.size = sz ∧ va_P (dC, dI) vwCl [(h0, .inr (7, [.ref z0, .ref z1, .ref z2, .ref z3, .ref z4, .ref z5, .int 0, .int 0, .int 0]))] U.heap ∧ va_K (dC, dI) vwCl [] U ∧ va_D (fun _ => True) [(h0, .inr (7, [.ref z0, .ref z1, .ref z2, .ref z3, .ref z4, .ref z5, .int 0, .int 0, .int 0]))] ∧ gv ge5 gea gv5 gva gde gic gi0 (va_A [(h0, .inr (7, [.ref z0, .ref z1, .ref z2, .ref z3, .ref z4, .ref z5, .int 0, .int 0, .int 0]))] sz) U U.heap)) (va_Qi (fun (_ : Int32) (_ : Unit) => False) (fun _ _ => True) (va_A [(h0, .inr (7, [.ref z0, .ref z1, .ref z2, .ref z3, .ref z4, .ref z5, .int 0, .int 0, .int 0]))] sz)) (vx_X (fun _ : Unit => True) (fun (E : String) (_ : Unit) (t : State) => E = "java/lang/IndexOutOfBoundsException" ∧ va_P (dC, dI) vwCl [(h0, .inr (7, [.ref z0, .ref z1, .ref z2, .ref z3, .ref z4, .ref z5, .int 0, .int 0, .int 0]))] t.heap ∧ va_K (dC, dI) vwCl [] t ∧ va_D (va_A [(h0, .inr (7, [.ref z0, .ref z1, .ref z2, .ref z3, .ref z4, .ref z5, .int 0, .int 0, .int 0]))] sz) [(h0, .inr (7, [.ref z0, .ref z1, .ref z2, .ref z3, .ref z4, .ref z5, .int 0, .int 0, .int 0]))]) (va_A [(h0, .inr (7, [.ref z0, .ref z1, .ref z2, .ref z3, .ref z4, .ref z5, .int 0, .int 0, .int 0]))] sz)) 1 6 (va_A [(h0, .inr (7, [.ref z0, .ref z1, .ref z2, .ref z3, .ref z4, .ref z5, .int 0, .int 0, .int 0]))] sz) := by
  refine vx_ofW (cc := cX3_run) (maxL := 5) (ret := (some .int)) (by decide) rfl ?_
  intro p e s m args below meth c s₁ B hml ht9 hv
  obtain ⟨rfl, hsz, hP, hK, hD0, hG⟩ := hv
  have hx := B.exec
  have hb := B.bytes
  have hr := B.returns
  have hts := atoms_spec (ws := wsX3_run) B.pre
  have hown : s.vm.findClass RX3 = some m.cls := findClass_of_methodNamed B.named
  have hlocks := B.notSynchronized
  subst hsz
  have hD := hD0.self (sz := s.heap.size)
  generalize hAe : va_A [(h0, .inr (7, [.ref z0, .ref z1, .ref z2, .ref z3, .ref z4, .ref z5, .int 0, .int 0, .int 0]))] s.heap.size = A at hD hG ⊢
  obtain ⟨⟨g_AO_Text, g_AO_String, g_AO_Object, g_nm_RX1_20, g_nm_RX0_17, g_nm_RX3_31, g_nm_RX2_44, g_nm_RL_121, g_nf_RL_13, g_nf_RL_47, g_ca_IO, g_ca_IA, g_ca_IS, g_ca_IntObj, g_ca_StrObj, g_de_RT, g_de_EX, g_de_TH, g_nc_IA_IO, g_nc_IS_IO, g_nc_IS_IA⟩, ⟨g_s3, g_s5, g_sa, g_x278, g_x280, g_x282, g_x284, g_x286, g_x180, g_x238, g_x250⟩, ⟨g_o5, g_c5, g_v5, g_t5, g_oa, g_ca, g_va, g_ta, g_zc, g_zd, g_td, g_zf, g_zU, g_zN, g_zh, g_zk, g_tk, g_oi, g_vi⟩⟩ := id hG
  have hA : ∀ q : Nat, s.heap.size ≤ q → A q := fun q h => by rw [← hAe]; exact Or.inr h
  have hS : va_S A s.heap s.heap [] := va_S.rf
  have hP : va_P (dC, dI) vwCl [(h0, .inr (7, [.ref z0, .ref z1, .ref z2, .ref z3, .ref z4, .ref z5, .int 0, .int 0, .int 0]))] s.heap := hP
  have hl := lv_entry ([.ref h0, .int i0, .int i1, .int i2]) (n := 5) (Nat.le_of_ble_eq_true rfl)
  rw [lg_entry_eq]
  generalize (lg_sl ([.ref h0, .int i0, .int i1, .int i2]) ++ List.replicate (5 - (lg_sl ([.ref h0, .int i0, .int i1, .int i2])).length) Slot.unset).toArray = ls at hl ⊢
  have hl : lv_has ls 5 [(0, .ref h0), (1, .int i0), (2, .int i1), (3, .int i2)] := hl
  refine lv_iload_n hx hb dX3_run_0 rfl (lv_at hl 1 rfl) ?_
  have hPc := hP.sub (ws' := []) [] rfl
  have hDc := hD.sub (ws' := []) [] (by decide) rfl
  have hKc := hK.sub (tys' := []) [] rfl
  have hFc := va_free (wc := []) hD hS hA [] rfl
  refine vx_callv (vx_runS (As := [.int i0]) (rest := []) ⟨hx, hb, hml, hown, hts⟩ (kx_X3_needRope_6 l hst dC dI ge5 gea gv5 gva gde gic gi0 s.heap.size i0 i0_l i0_u) (cwS 1 hts gX3_run_X3_needRope rfl rfl rfl (by decide +kernel) ⟨Nat.le_of_ble_eq_true rfl, Nat.le_of_ble_eq_true rfl⟩) ⟨fun a U g mk q => by obtain ⟨q0, q1, qP, qK, qD, qG⟩ := q; exact ⟨q0, q1, qP, va_K.moved (u := U) (U := U.calling g mk a) (Vm.Alike.refl U.vm) qK, qD, gv.fb qG⟩, fun U hU hW => ⟨rfl, by rw [hU], by rw [hU]; exact hPc, va_K.moved hW.alike hKc, hDc.weaken (fun _ _ _ _ => trivial), gv.pass hW hU hS hFc hG⟩⟩ rfl rfl hl.1 rfl (lv_room (Nat.le_of_ble_eq_true rfl)) dX3_run_1 ⟨Nat.le_of_ble_eq_true rfl, Nat.le_of_ble_eq_true rfl⟩) hS (fun q _ h => hFc q h) hFc (fun q _ h => hFc q h) (fun E ce q9 u t H1 locs ht hvm hpx hB hz1 hk1 hS hce hcv hcl => ?_) (fun u t H1 locs ht hvm hw hB hz1 hk1 hS => hw.elim)
  obtain ⟨rfl, hP1, hK1, hD1⟩ := hB
  rw [ht] at hP1
  have hK1 := va_K.moved hvm.symm hK1
  obtain ⟨hP, hD⟩ := va_join (wr := [(h0, .inr (7, [.ref z0, .ref z1, .ref z2, .ref z3, .ref z4, .ref z5, .int 0, .int 0, .int 0]))]) (w1 := []) hP hD [] [0] rfl rfl (by decide) (by decide) hk1 hFc hP1 hD1
  generalize H1 = H at hP hS hce ⊢
  have hP : va_P (dC, dI) vwCl [(h0, .inr (7, [.ref z0, .ref z1, .ref z2, .ref z3, .ref z4, .ref z5, .int 0, .int 0, .int 0]))] H := hP
  have hD : va_D A [(h0, .inr (7, [.ref z0, .ref z1, .ref z2, .ref z3, .ref z4, .ref z5, .int 0, .int 0, .int 0]))] := hD
  exact vx_out (fun x hx9 => (ht9 x hx9).elim) hlocks hce hcv hcl (fun t ht hW => ⟨(), trivial, ⟨rfl, by rw [ht]; exact hP, va_K.moved hW hK, hD⟩, hS.F ht⟩) hS.2.2 (by omega) (by omega)
set_option maxHeartbeats 4000000 in
set_option maxRecDepth 100000 in
theorem kx_L_run_12 (l : Launch) (hst : l.stackTraces = false) (dC : Nat → ClassId) (dI : Nat → Nat → Nat) (ge5 gea gv5 gva gde gic gi0 : Nat) (h0 : Nat) (z0 : Nat) (z1 : Nat) (z2 : Nat) (z3 : Nat) (z4 : Nat) (z5 : Nat) (z6 : Nat) (sz : Nat) (i0 : Int32) (i0_l : (4 : Int) ≤ i0.toInt) (i0_u : i0.toInt ≤ (2147483647 : Int)) (i1 : Int32) (i1_l : (0 : Int) ≤ i1.toInt) (i1_u : i1.toInt ≤ (2 : Int)) (i2 : Int32) (i2_l : ((-2147483648) : Int) ≤ i2.toInt) (i2_u : i2.toInt ≤ (0 : Int)) : Met l yL_run wsL_run ({ frames := 8, cells := 1, slots := 6, locals := 164 }) (va_Pc [.ref h0, .int i0, .int i1, .int i2, .ref z0] (fun U => U.heap.size = sz ∧ va_P (dC, dI) vwCl [(h0, .inr (7, [.ref z1, .ref z2, .ref z3, .ref z4, .ref z5, .ref z6, .int 0, .int 0, .int 0]))] U.heap ∧ va_K (dC, dI) vwCl [] U ∧ va_D (fun _ => True) [(h0, .inr (7, [.ref z1, .ref z2, .ref z3, .ref z4, .ref z5, .ref z6, .int 0, .int 0, .int 0]))] ∧ gv ge5 gea gv5 gva gde gic gi0 (va_A [(h0, .inr (7, [.ref z1, .ref z2, .ref z3, .ref z4, .ref z5, .ref z6, .int 0, .int 0, .int 0]))] sz) U U.heap)) (va_Qi (fun (r : Int32) (_ : Unit) => r = 1) (fun (_ : Unit) (t : State) => va_P (dC, dI) vwCl [(h0, .inr (7, [.ref z1, .ref z2, .ref z3, .ref z4, .ref z5, .ref z6, .int 0, .int 0, .int 0]))] t.heap ∧ va_K (dC, dI) vwCl [] t ∧ va_D (va_A [(h0, .inr (7, [.ref z1, .ref z2, .ref z3, .ref z4, .ref z5, .ref z6, .int 0, .int 0, .int 0]))] sz) [(h0, .inr (7, [.ref z1, .ref z2, .ref z3, .ref z4, .ref z5, .ref z6, .int 0, .int 0, .int 0]))]) (va_A [(h0, .inr (7, [.ref z1, .ref z2, .ref z3, .ref z4, .ref z5, .ref z6, .int 0, .int 0, .int 0]))] sz)) 1 6 (va_A [(h0, .inr (7, [.ref z1, .ref z2, .ref z3, .ref z4, .ref z5, .ref z6, .int 0, .int 0, .int 0]))] sz) := by
  refine kz_ofWH (cc := cL_run) (maxL := 6) (ret := (some .int)) (hh := [(0, 13, 16, 19), (0, 13, 20, 21)]) (by decide) rfl ?_
  intro p e s m args below meth c s₁ B hml hv
  obtain ⟨rfl, hsz, hP, hK, hD0, hG⟩ := hv
  have hx := B.exec
  have hb := B.bytes
  have hr := B.returns
  have hts := atoms_spec (ws := wsL_run) B.pre
  have hown : s.vm.findClass RL = some m.cls := findClass_of_methodNamed B.named
  have htab := vx_table (x := yL_run) B (hts (.codeWith yL_run cL_run 6 (some .int) [(0, 13, 16, 19), (0, 13, 20, 21)]) (by decide +kernel))
  have hlocks := B.notSynchronized
  subst hsz
  have hD := hD0.self (sz := s.heap.size)
  generalize hAe : va_A [(h0, .inr (7, [.ref z1, .ref z2, .ref z3, .ref z4, .ref z5, .ref z6, .int 0, .int 0, .int 0]))] s.heap.size = A at hD hG ⊢
  obtain ⟨⟨g_AO_Text, g_AO_String, g_AO_Object, g_nm_RX1_20, g_nm_RX0_17, g_nm_RX3_31, g_nm_RX2_44, g_nm_RL_121, g_nf_RL_13, g_nf_RL_47, g_ca_IO, g_ca_IA, g_ca_IS, g_ca_IntObj, g_ca_StrObj, g_de_RT, g_de_EX, g_de_TH, g_nc_IA_IO, g_nc_IS_IO, g_nc_IS_IA⟩, ⟨g_s3, g_s5, g_sa, g_x278, g_x280, g_x282, g_x284, g_x286, g_x180, g_x238, g_x250⟩, ⟨g_o5, g_c5, g_v5, g_t5, g_oa, g_ca, g_va, g_ta, g_zc, g_zd, g_td, g_zf, g_zU, g_zN, g_zh, g_zk, g_tk, g_oi, g_vi⟩⟩ := id hG
  have hA : ∀ q : Nat, s.heap.size ≤ q → A q := fun q h => by rw [← hAe]; exact Or.inr h
  have hS : va_S A s.heap s.heap [] := va_S.rf
  have hP : va_P (dC, dI) vwCl [(h0, .inr (7, [.ref z1, .ref z2, .ref z3, .ref z4, .ref z5, .ref z6, .int 0, .int 0, .int 0]))] s.heap := hP
  have hl := lv_entry ([.ref h0, .int i0, .int i1, .int i2, .ref z0]) (n := 6) (Nat.le_of_ble_eq_true rfl)
  rw [lg_entry_eq]
  generalize (lg_sl ([.ref h0, .int i0, .int i1, .int i2, .ref z0]) ++ List.replicate (6 - (lg_sl ([.ref h0, .int i0, .int i1, .int i2, .ref z0])).length) Slot.unset).toArray = ls at hl ⊢
  have hl : lv_has ls 6 [(0, .ref h0), (1, .int i0), (2, .int i1), (3, .int i2), (4, .ref z0)] := hl
  refine lv_aload hx hb dL_run_0 (lv_at hl 4 rfl) ?_
  refine lv_aload_n hx hb dL_run_2 rfl (lv_at hl 0 rfl) ?_
  refine lv_iload_n hx hb dL_run_3 rfl (lv_at hl 1 rfl) ?_
  refine lv_iload_n hx hb dL_run_4 rfl (lv_at hl 2 rfl) ?_
  refine lv_iload_n hx hb dL_run_5 rfl (lv_at hl 3 rfl) ?_
  have hPc := hP.sub (ws' := [(h0, .inr (7, [.ref z1, .ref z2, .ref z3, .ref z4, .ref z5, .ref z6, .int 0, .int 0, .int 0]))]) [0] rfl
  have hDc := hD.sub (ws' := [(h0, .inr (7, [.ref z1, .ref z2, .ref z3, .ref z4, .ref z5, .ref z6, .int 0, .int 0, .int 0]))]) [0] (by decide) rfl
  have hKc := hK.sub (tys' := []) [] rfl
  have hFc := va_free (wc := [(h0, .inr (7, [.ref z1, .ref z2, .ref z3, .ref z4, .ref z5, .ref z6, .int 0, .int 0, .int 0]))]) hD hS hA [0] rfl
  refine vx_calli (vx_runV (As := [.int i0, .int i1, .int i2]) (rest := [.ref z0]) ⟨hx, hb, hml, hown, hts⟩ (kx_X3_run_15 l hst dC dI ge5 gea gv5 gva gde gic gi0 h0 z1 z2 z3 z4 z5 z6 s.heap.size i0 i0_l i0_u i1 i1_l i1_u i2 i2_l i2_u) (cwV 3 hts gL_run_X3_run rfl rfl rfl (by decide +kernel) ⟨Nat.le_of_ble_eq_true rfl, Nat.le_of_ble_eq_true rfl⟩) ⟨fun a U g mk q => by obtain ⟨q0, q1, qP, qK, qD, qG⟩ := q; exact ⟨q0, q1, qP, va_K.moved (u := U) (U := U.calling g mk a) (Vm.Alike.refl U.vm) qK, qD, gv.fb qG⟩, va_recv hKc hPc (ci := 7) (q0 := 0) rfl rfl, fun U hU hW => ⟨rfl, by rw [hU], by rw [hU]; exact hPc, va_K.moved hW.alike hKc, hDc.weaken (fun _ _ _ _ => trivial), gv.pass hW hU hS hFc hG⟩⟩ rfl rfl hl.1 rfl (lv_room (Nat.le_of_ble_eq_true rfl)) dL_run_6 ⟨Nat.le_of_ble_eq_true rfl, Nat.le_of_ble_eq_true rfl⟩) hS (fun q _ h => hFc q h) hFc (fun q _ h => hFc q h) (fun E ce q9 u t H1 locs ht hvm hpx hB hz1 hk1 hS hce hcv hcl => ?_) (fun r9 u t H1 locs ht hvm hw hB hz1 hk1 hS => hw.elim)
  obtain ⟨rfl, hP1, hK1, hD1⟩ := hB
  rw [ht] at hP1
  have hK1 := va_K.moved hvm.symm hK1
  obtain ⟨hP, hD⟩ := va_join (wr := []) (w1 := [(h0, .inr (7, [.ref z1, .ref z2, .ref z3, .ref z4, .ref z5, .ref z6, .int 0, .int 0, .int 0]))]) hP hD [0] [] rfl rfl (by decide) (by decide) hk1 hFc hP1 hD1
  generalize H1 = H at hP hS hce ⊢
  have hP : va_P (dC, dI) vwCl [(h0, .inr (7, [.ref z1, .ref z2, .ref z3, .ref z4, .ref z5, .ref z6, .int 0, .int 0, .int 0]))] H := hP
  have hD : va_D A [(h0, .inr (7, [.ref z1, .ref z2, .ref z3, .ref z4, .ref z5, .ref z6, .int 0, .int 0, .int 0]))] := hD
  refine vx_catch (own := RL) (name := "java/lang/IndexOutOfBoundsException") hown (tableOf []) ⟨0, 13, 16, 19⟩ (tableOf [(0, 13, 20, 21)]) (by rw [htab]; rfl) (fun z hz => nomatch hz) (by decide +kernel) (by decide) (hts (.classLink RL 19 "java/lang/IndexOutOfBoundsException") (by decide +kernel)) (va_Nw.use rfl g_ca_IO) hce hcv hcl ?_
  refine W.eq (g2 := F0 m 16 ls [.ref q9]) rfl ?_
  refine lv_astore (lv' := [(5, .ref q9), (0, .ref h0), (1, .int i0), (2, .int i1), (3, .int i2), (4, .ref z0)]) hx hb dL_run_16 hl (by decide) rfl (fun ls hl => ?_)
  refine lv_iconst (v := 1) hx hb dL_run_18 (by decide) ?_
  exact W.iret (v := 1) hx hb hr (fun t ht hW => ⟨⟨1, (), rfl, rfl, by rw [ht]; exact hP, va_K.moved hW.alike hK, hD⟩, hS.F ht⟩) hS.2.2 dL_run_19
set_option maxHeartbeats 4000000 in
set_option maxRecDepth 100000 in
theorem kx_X5_run_12 (l : Launch) (dC : Nat → ClassId) (dI : Nat → Nat → Nat) (h0 : Nat) (z0 : Nat) (z1 : Nat) (z2 : Nat) (sz : Nat) (i0 : Int32) (i0_l : (4 : Int) ≤ i0.toInt) (i0_u : i0.toInt ≤ (2147483647 : Int)) (i1 : Int32) (i1_l : (0 : Int) ≤ i1.toInt) (i1_u : i1.toInt ≤ (2 : Int)) (i2 : Int32) (i2_l : ((-2147483648) : Int) ≤ i2.toInt) (i2_u : i2.toInt ≤ (0 : Int)) : Met l yX5_run wsX5_run ({ frames := 2, cells := 0, slots := 0, locals := 42 }) (va_Pc [.ref h0, .int i0, .int i1, .int i2] (fun U => U.heap.size = sz ∧ va_P (dC, dI) vwCl [(h0, .inr (9, [.int 0, .ref z0, .ref z1, .ref z2, .int 0, .int 0, .int 0]))] U.heap ∧ va_K (dC, dI) vwCl [] U ∧ va_D (fun _ => True) [(h0, .inr (9, [.int 0, .ref z0, .ref z1, .ref z2, .int 0, .int 0, .int 0]))])) (va_Qi (fun (r : Int32) (_ : Unit) => r = 0) (fun (_ : Unit) (t : State) => va_P (dC, dI) vwCl [(h0, .inr (9, [.int 1, .ref z0, .ref z1, .ref z2, .int 0, .int 0, .int 0]))] t.heap ∧ va_K (dC, dI) vwCl [] t ∧ va_D (va_A [(h0, .inr (9, [.int 0, .ref z0, .ref z1, .ref z2, .int 0, .int 0, .int 0]))] sz) [(h0, .inr (9, [.int 1, .ref z0, .ref z1, .ref z2, .int 0, .int 0, .int 0]))]) (va_A [(h0, .inr (9, [.int 0, .ref z0, .ref z1, .ref z2, .int 0, .int 0, .int 0]))] sz)) 0 0 (va_A [(h0, .inr (9, [.int 0, .ref z0, .ref z1, .ref z2, .int 0, .int 0, .int 0]))] sz) := by
  refine Met.ofW (cc := cX5_run) (maxL := 5) (ret := (some .int)) (by decide) rfl ?_
  intro p e s m args below meth c s₁ B hml hv
  obtain ⟨rfl, hsz, hP, hK, hD0⟩ := hv
  have hx := B.exec
  have hb := B.bytes
  have hr := B.returns
  have hts := atoms_spec (ws := wsX5_run) B.pre
  have hown : s.vm.findClass RX5 = some m.cls := findClass_of_methodNamed B.named
  have hlocks := B.notSynchronized
  subst hsz
  have hD := hD0.self (sz := s.heap.size)
  generalize hAe : va_A [(h0, .inr (9, [.int 0, .ref z0, .ref z1, .ref z2, .int 0, .int 0, .int 0]))] s.heap.size = A at hD ⊢
  have hA : ∀ q : Nat, s.heap.size ≤ q → A q := fun q h => by rw [← hAe]; exact Or.inr h
  have hS : va_S A s.heap s.heap [] := va_S.rf
  have hP : va_P (dC, dI) vwCl [(h0, .inr (9, [.int 0, .ref z0, .ref z1, .ref z2, .int 0, .int 0, .int 0]))] s.heap := hP
  have hl := lv_entry ([.ref h0, .int i0, .int i1, .int i2]) (n := 5) (Nat.le_of_ble_eq_true rfl)
  rw [lg_entry_eq]
  generalize (lg_sl ([.ref h0, .int i0, .int i1, .int i2]) ++ List.replicate (5 - (lg_sl ([.ref h0, .int i0, .int i1, .int i2])).length) Slot.unset).toArray = ls at hl ⊢
  have hl : lv_has ls 5 [(0, .ref h0), (1, .int i0), (2, .int i1), (3, .int i2)] := hl
  refine lv_aload_n hx hb dX5_run_0 rfl (lv_at hl 0 rfl) ?_
  refine lv_iload_n hx hb dX5_run_1 rfl (lv_at hl 1 rfl) ?_
  have hPc := hP.sub (ws' := []) [] rfl
  have hDc := hD.sub (ws' := []) [] (by decide) rfl
  have hKc := hK.sub (tys' := []) [] rfl
  have hFc := va_free (wc := []) hD hS hA [] rfl
  refine va_calli (va_runS (As := [.int i0]) (rest := [.ref h0]) ⟨hx, hb, hml, hown, hts⟩ (kx_X5_isNo_2 l dC dI s.heap.size i0 i0_l i0_u) (cwS 1 hts gX5_run_X5_isNo rfl rfl rfl (by decide +kernel) ⟨Nat.le_of_ble_eq_true rfl, Nat.le_of_ble_eq_true rfl⟩) ⟨fun a U g mk q => by obtain ⟨q0, q1, qP, qK, qD⟩ := q; exact ⟨q0, q1, qP, va_K.moved (u := U) (U := U.calling g mk a) (Vm.Alike.refl U.vm) qK, qD⟩, fun U hU hW => ⟨rfl, by rw [hU], by rw [hU]; exact hPc, va_K.moved hW.alike hKc, hDc.weaken (fun _ _ _ _ => trivial)⟩⟩ rfl rfl hl.1 rfl (lv_room (Nat.le_of_ble_eq_true rfl)) dX5_run_2 ⟨Nat.le_of_ble_eq_true rfl, Nat.le_of_ble_eq_true rfl⟩) hS (fun q _ h => hFc q h) hFc (fun r9 u t H1 locs ht hvm hw hB hz1 hk1 hS => ?_)
  obtain rfl := hw
  obtain ⟨hP1, hK1, hD1⟩ := hB
  rw [ht] at hP1
  have hK1 := va_K.moved hvm.symm hK1
  obtain ⟨hP, hD⟩ := va_join (wr := [(h0, .inr (9, [.int 0, .ref z0, .ref z1, .ref z2, .int 0, .int 0, .int 0]))]) (w1 := []) hP hD [] [0] rfl rfl (by decide) (by decide) hk1 hFc hP1 hD1
  generalize H1 = H at hP hS ⊢
  have hP : va_P (dC, dI) vwCl [(h0, .inr (9, [.int 0, .ref z0, .ref z1, .ref z2, .int 0, .int 0, .int 0]))] H := hP
  have hD : va_D A [(h0, .inr (9, [.int 0, .ref z0, .ref z1, .ref z2, .int 0, .int 0, .int 0]))] := hD
  refine lv_iload_n hx hb dX5_run_5 rfl (lv_at hl 2 rfl) ?_
  refine lv_iconst (v := 0) hx hb dX5_run_6 (by decide) ?_
  refine lv_iconst (v := 2) hx hb dX5_run_7 (by decide) ?_
  have hPc := hP.sub (ws' := []) [] rfl
  have hDc := hD.sub (ws' := []) [] (by decide) rfl
  have hKc := hK.sub (tys' := []) [] rfl
  have hFc := va_free (wc := []) hD hS hA [] rfl
  refine va_calli (va_runS (As := [.int i1, .int 0, .int 2]) (rest := [.int 1, .ref h0]) ⟨hx, hb, hml, hown, hts⟩ (kx_X5_isIn_21 l dC dI H.size i1 i1_l i1_u) (cwS 3 hts gX5_run_X5_isIn rfl rfl rfl (by decide +kernel) ⟨Nat.le_of_ble_eq_true rfl, Nat.le_of_ble_eq_true rfl⟩) ⟨fun a U g mk q => by obtain ⟨q0, q1, qP, qK, qD⟩ := q; exact ⟨q0, q1, qP, va_K.moved (u := U) (U := U.calling g mk a) (Vm.Alike.refl U.vm) qK, qD⟩, fun U hU hW => ⟨rfl, by rw [hU], by rw [hU]; exact hPc, va_K.moved hW.alike hKc, hDc.weaken (fun _ _ _ _ => trivial)⟩⟩ rfl rfl hl.1 rfl (lv_room (Nat.le_of_ble_eq_true rfl)) dX5_run_8 ⟨Nat.le_of_ble_eq_true rfl, Nat.le_of_ble_eq_true rfl⟩) hS (fun q _ h => hFc q h) hFc (fun r9 u t H1 locs ht hvm hw hB hz1 hk1 hS => ?_)
  obtain rfl := hw
  obtain ⟨hP1, hK1, hD1⟩ := hB
  rw [ht] at hP1
  have hK1 := va_K.moved hvm.symm hK1
  obtain ⟨hP, hD⟩ := va_join (wr := [(h0, .inr (9, [.int 0, .ref z0, .ref z1, .ref z2, .int 0, .int 0, .int 0]))]) (w1 := []) hP hD [] [0] rfl rfl (by decide) (by decide) hk1 hFc hP1 hD1
  generalize H1 = H at hP hS ⊢
  have hP : va_P (dC, dI) vwCl [(h0, .inr (9, [.int 0, .ref z0, .ref z1, .ref z2, .int 0, .int 0, .int 0]))] H := hP
  have hD : va_D A [(h0, .inr (9, [.int 0, .ref z0, .ref z1, .ref z2, .int 0, .int 0, .int 0]))] := hD
  refine lv_if_eq (tgt := 24) hx hb dX5_run_11 (by decide) (fun c9 => absurd c9 (by decide)) (fun _ => ?_)
  refine lv_iload_n hx hb dX5_run_14 rfl (lv_at hl 3 rfl) ?_
  refine lv_iconst (v := 1) hx hb dX5_run_15 (by decide) ?_
  refine lv_bipush (v := 40) hx hb dX5_run_16 (by decide) ?_
  have hPc := hP.sub (ws' := []) [] rfl
  have hDc := hD.sub (ws' := []) [] (by decide) rfl
  have hKc := hK.sub (tys' := []) [] rfl
  have hFc := va_free (wc := []) hD hS hA [] rfl
  refine va_calli (va_runS (As := [.int i2, .int 1, .int 40]) (rest := [.int 1, .ref h0]) ⟨hx, hb, hml, hown, hts⟩ (kx_X5_isIn_24 l dC dI H.size i2 i2_l i2_u) (cwS 3 hts gX5_run_X5_isIn rfl rfl rfl (by decide +kernel) ⟨Nat.le_of_ble_eq_true rfl, Nat.le_of_ble_eq_true rfl⟩) ⟨fun a U g mk q => by obtain ⟨q0, q1, qP, qK, qD⟩ := q; exact ⟨q0, q1, qP, va_K.moved (u := U) (U := U.calling g mk a) (Vm.Alike.refl U.vm) qK, qD⟩, fun U hU hW => ⟨rfl, by rw [hU], by rw [hU]; exact hPc, va_K.moved hW.alike hKc, hDc.weaken (fun _ _ _ _ => trivial)⟩⟩ rfl rfl hl.1 rfl (lv_room (Nat.le_of_ble_eq_true rfl)) dX5_run_18 ⟨Nat.le_of_ble_eq_true rfl, Nat.le_of_ble_eq_true rfl⟩) hS (fun q _ h => hFc q h) hFc (fun r9 u t H1 locs ht hvm hw hB hz1 hk1 hS => ?_)
  obtain rfl := hw
  obtain ⟨hP1, hK1, hD1⟩ := hB
  rw [ht] at hP1
  have hK1 := va_K.moved hvm.symm hK1
  obtain ⟨hP, hD⟩ := va_join (wr := [(h0, .inr (9, [.int 0, .ref z0, .ref z1, .ref z2, .int 0, .int 0, .int 0]))]) (w1 := []) hP hD [] [0] rfl rfl (by decide) (by decide) hk1 hFc hP1 hD1
  generalize H1 = H at hP hS ⊢
  have hP : va_P (dC, dI) vwCl [(h0, .inr (9, [.int 0, .ref z0, .ref z1, .ref z2, .int 0, .int 0, .int 0]))] H := hP
  have hD : va_D A [(h0, .inr (9, [.int 0, .ref z0, .ref z1, .ref z2, .int 0, .int 0, .int 0]))] := hD
  refine lv_if_ne (tgt := 28) hx hb dX5_run_21 (by decide) (fun c9 => absurd (by decide) c9) (fun _ => ?_)
  refine lv_iconst (v := 1) hx hb dX5_run_24 (by decide) ?_
  refine lv_goto (tgt := 29) hx hb dX5_run_25 (by decide) ?_
  refine lv_iconst (v := 0) hx hb dX5_run_29 (by decide) ?_
  have hPc := hP.sub (ws' := [(h0, .inr (9, [.int 0, .ref z0, .ref z1, .ref z2, .int 0, .int 0, .int 0]))]) [0] rfl
  have hDc := hD.sub (ws' := [(h0, .inr (9, [.int 0, .ref z0, .ref z1, .ref z2, .int 0, .int 0, .int 0]))]) [0] (by decide) rfl
  have hKc := hK.sub (tys' := []) [] rfl
  have hFc := va_free (wc := [(h0, .inr (9, [.int 0, .ref z0, .ref z1, .ref z2, .int 0, .int 0, .int 0]))]) hD hS hA [0] rfl
  refine va_calli (va_runV (As := [.int 1, .int 1, .int 0]) (rest := []) ⟨hx, hb, hml, hown, hts⟩ (kx_X5_fails_2 l dC dI h0 z0 z1 z2 H.size) (cwV 3 hts gX5_run_X5_fails rfl rfl rfl (by decide +kernel) ⟨Nat.le_of_ble_eq_true rfl, Nat.le_of_ble_eq_true rfl⟩) ⟨fun a U g mk q => by obtain ⟨q0, q1, qP, qK, qD⟩ := q; exact ⟨q0, q1, qP, va_K.moved (u := U) (U := U.calling g mk a) (Vm.Alike.refl U.vm) qK, qD⟩, va_recv hKc hPc (ci := 9) (q0 := 0) rfl rfl, fun U hU hW => ⟨rfl, by rw [hU], by rw [hU]; exact hPc, va_K.moved hW.alike hKc, hDc.weaken (fun _ _ _ _ => trivial)⟩⟩ rfl rfl hl.1 rfl (lv_room (Nat.le_of_ble_eq_true rfl)) dX5_run_30 ⟨Nat.le_of_ble_eq_true rfl, Nat.le_of_ble_eq_true rfl⟩) hS (fun q _ h => hFc q h) hFc (fun r9 u t H1 locs ht hvm hw hB hz1 hk1 hS => ?_)
  obtain rfl := hw
  obtain ⟨hP1, hK1, hD1⟩ := hB
  rw [ht] at hP1
  have hK1 := va_K.moved hvm.symm hK1
  obtain ⟨hP, hD⟩ := va_join (wr := []) (w1 := [(h0, .inr (9, [.int 1, .ref z0, .ref z1, .ref z2, .int 0, .int 0, .int 0]))]) hP hD [0] [] rfl rfl (by decide) (by decide) hk1 hFc hP1 hD1
  generalize H1 = H at hP hS ⊢
  have hP : va_P (dC, dI) vwCl [(h0, .inr (9, [.int 1, .ref z0, .ref z1, .ref z2, .int 0, .int 0, .int 0]))] H := hP
  have hD : va_D A [(h0, .inr (9, [.int 1, .ref z0, .ref z1, .ref z2, .int 0, .int 0, .int 0]))] := hD
  refine lv_if_eq (tgt := 38) hx hb dX5_run_33 (by decide) (fun c9 => absurd c9 (by decide)) (fun _ => ?_)
  refine lv_iconst (v := 0) hx hb dX5_run_36 (by decide) ?_
  exact W.iret (v := 0) hx hb hr (fun t ht hW => ⟨⟨0, (), rfl, rfl, by rw [ht]; exact hP, va_K.moved hW.alike hK, hD⟩, hS.F ht⟩) hS.2.2 dX5_run_37
set_option maxHeartbeats 4000000 in
set_option maxRecDepth 100000 in
theorem kx_X3_run_16 (l : Launch) (hst : l.stackTraces = false) (dC : Nat → ClassId) (dI : Nat → Nat → Nat) (ge5 gea gv5 gva gde gic gi0 : Nat) (h0 : Nat) (z0 : Nat) (z1 : Nat) (z2 : Nat) (z3 : Nat) (z4 : Nat) (z5 : Nat) (sz : Nat) (i0 : Int32) (i0_l : (4 : Int) ≤ i0.toInt) (i0_u : i0.toInt ≤ (2147483647 : Int)) (i1 : Int32) (i1_l : (0 : Int) ≤ i1.toInt) (i1_u : i1.toInt ≤ (2 : Int)) (i2 : Int32) (i2_l : (1 : Int) ≤ i2.toInt) (i2_u : i2.toInt ≤ (40 : Int)) : vx_Met l yX3_run wsX3_run ({ frames := 7, cells := 1, slots := 6, locals := 140 }) (va_Pc [.ref h0, .int i0, .int i1, .int i2] (fun U => U.heap.size = sz ∧ va_P (dC, dI) vwCl [(h0, .inr (7, [.ref z0, .ref z1, .ref z2, .ref z3, .ref z4, .ref z5, .int 0, .int 0, .int 0]))] U.heap ∧ va_K (dC, dI) vwCl [] U ∧ va_D (fun _ => True) [(h0, .inr (7, [.ref z0, .ref z1, .ref z2, .ref z3, .ref z4, .ref z5, .int 0, .int 0, .int 0]))] ∧ gv ge5 gea gv5 gva gde gic gi0 (va_A [(h0, .inr (7, [.ref z0, .ref z1, .ref z2, .ref z3, .ref z4, .ref z5, .int 0, .int 0, .int 0]))] sz) U U.heap)) (va_Qi (fun (_ : Int32) (_ : Unit) => False) (fun _ _ => True) (va_A [(h0, .inr (7, [.ref z0, .ref z1, .ref z2, .ref z3, .ref z4, .ref z5, .int 0, .int 0, .int 0]))] sz)) (vx_X (fun _ : Unit => True) (fun (E : String) (_ : Unit) (t : State) => E = "java/lang/IndexOutOfBoundsException" ∧ va_P (dC, dI) vwCl [(h0, .inr (7, [.ref z0, .ref z1, .ref z2, .ref z3, .ref z4, .ref z5, .int 0, .int 0, .int 0]))] t.heap ∧ va_K (dC, dI) vwCl [] t ∧ va_D (va_A [(h0, .inr (7, [.ref z0, .ref z1, .ref z2, .ref z3, .ref z4, .ref z5, .int 0, .int 0, .int 0]))] sz) [(h0, .inr (7, [.ref z0, .ref z1, .ref z2, .ref z3, .ref z4, .ref z5, .int 0, .int 0, .int 0]))]) (va_A [(h0, .inr (7, [.ref z0, .ref z1, .ref z2, .ref z3, .ref z4, .ref z5, .int 0, .int 0, .int 0]))] sz)) 1 6 (va_A [(h0, .inr (7, [.ref z0, .ref z1, .ref z2, .ref z3, .ref z4, .ref z5, .int 0, .int 0, .int 0]))] sz) := by
  refine vx_ofW (cc := cX3_run) (maxL := 5) (ret := (some .int)) (by decide) rfl ?_
  intro p e s m args below meth c s₁ B hml ht9 hv
  obtain ⟨rfl, hsz, hP, hK, hD0, hG⟩ := hv
  have hx := B.exec
  have hb := B.bytes
  have hr := B.returns
  have hts := atoms_spec (ws := wsX3_run) B.pre
  have hown : s.vm.findClass RX3 = some m.cls := findClass_of_methodNamed B.named
  have hlocks := B.notSynchronized
  subst hsz
  have hD := hD0.self (sz := s.heap.size)
  generalize hAe : va_A [(h0, .inr (7, [.ref z0, .ref z1, .ref z2, .ref z3, .ref z4, .ref z5, .int 0, .int 0, .int 0]))] s.heap.size = A at hD hG ⊢
  obtain ⟨⟨g_AO_Text, g_AO_String, g_AO_Object, g_nm_RX1_20, g_nm_RX0_17, g_nm_RX3_31, g_nm_RX2_44, g_nm_RL_121, g_nf_RL_13, g_nf_RL_47, g_ca_IO, g_ca_IA, g_ca_IS, g_ca_IntObj, g_ca_StrObj, g_de_RT, g_de_EX, g_de_TH, g_nc_IA_IO, g_nc_IS_IO, g_nc_IS_IA⟩, ⟨g_s3, g_s5, g_sa, g_x278, g_x280, g_x282, g_x284, g_x286, g_x180, g_x238, g_x250⟩, ⟨g_o5, g_c5, g_v5, g_t5, g_oa, g_ca, g_va, g_ta, g_zc, g_zd, g_td, g_zf, g_zU, g_zN, g_zh, g_zk, g_tk, g_oi, g_vi⟩⟩ := id hG
  have hA : ∀ q : Nat, s.heap.size ≤ q → A q := fun q h => by rw [← hAe]; exact Or.inr h
  have hS : va_S A s.heap s.heap [] := va_S.rf
  have hP : va_P (dC, dI) vwCl [(h0, .inr (7, [.ref z0, .ref z1, .ref z2, .ref z3, .ref z4, .ref z5, .int 0, .int 0, .int 0]))] s.heap := hP
  have hl := lv_entry ([.ref h0, .int i0, .int i1, .int i2]) (n := 5) (Nat.le_of_ble_eq_true rfl)
  rw [lg_entry_eq]
  generalize (lg_sl ([.ref h0, .int i0, .int i1, .int i2]) ++ List.replicate (5 - (lg_sl ([.ref h0, .int i0, .int i1, .int i2])).length) Slot.unset).toArray = ls at hl ⊢
  have hl : lv_has ls 5 [(0, .ref h0), (1, .int i0), (2, .int i1), (3, .int i2)] := hl
  refine lv_iload_n hx hb dX3_run_0 rfl (lv_at hl 1 rfl) ?_
  have hPc := hP.sub (ws' := []) [] rfl
  have hDc := hD.sub (ws' := []) [] (by decide) rfl
  have hKc := hK.sub (tys' := []) [] rfl
  have hFc := va_free (wc := []) hD hS hA [] rfl
  refine vx_callv (vx_runS (As := [.int i0]) (rest := []) ⟨hx, hb, hml, hown, hts⟩ (kx_X3_needRope_6 l hst dC dI ge5 gea gv5 gva gde gic gi0 s.heap.size i0 i0_l i0_u) (cwS 1 hts gX3_run_X3_needRope rfl rfl rfl (by decide +kernel) ⟨Nat.le_of_ble_eq_true rfl, Nat.le_of_ble_eq_true rfl⟩) ⟨fun a U g mk q => by obtain ⟨q0, q1, qP, qK, qD, qG⟩ := q; exact ⟨q0, q1, qP, va_K.moved (u := U) (U := U.calling g mk a) (Vm.Alike.refl U.vm) qK, qD, gv.fb qG⟩, fun U hU hW => ⟨rfl, by rw [hU], by rw [hU]; exact hPc, va_K.moved hW.alike hKc, hDc.weaken (fun _ _ _ _ => trivial), gv.pass hW hU hS hFc hG⟩⟩ rfl rfl hl.1 rfl (lv_room (Nat.le_of_ble_eq_true rfl)) dX3_run_1 ⟨Nat.le_of_ble_eq_true rfl, Nat.le_of_ble_eq_true rfl⟩) hS (fun q _ h => hFc q h) hFc (fun q _ h => hFc q h) (fun E ce q9 u t H1 locs ht hvm hpx hB hz1 hk1 hS hce hcv hcl => ?_) (fun u t H1 locs ht hvm hw hB hz1 hk1 hS => hw.elim)
  obtain ⟨rfl, hP1, hK1, hD1⟩ := hB
  rw [ht] at hP1
  have hK1 := va_K.moved hvm.symm hK1
  obtain ⟨hP, hD⟩ := va_join (wr := [(h0, .inr (7, [.ref z0, .ref z1, .ref z2, .ref z3, .ref z4, .ref z5, .int 0, .int 0, .int 0]))]) (w1 := []) hP hD [] [0] rfl rfl (by decide) (by decide) hk1 hFc hP1 hD1
  generalize H1 = H at hP hS hce ⊢
  have hP : va_P (dC, dI) vwCl [(h0, .inr (7, [.ref z0, .ref z1, .ref z2, .ref z3, .ref z4, .ref z5, .int 0, .int 0, .int 0]))] H := hP
  have hD : va_D A [(h0, .inr (7, [.ref z0, .ref z1, .ref z2, .ref z3, .ref z4, .ref z5, .int 0, .int 0, .int 0]))] := hD
  exact vx_out (fun x hx9 => (ht9 x hx9).elim) hlocks hce hcv hcl (fun t ht hW => ⟨(), trivial, ⟨rfl, by rw [ht]; exact hP, va_K.moved hW hK, hD⟩, hS.F ht⟩) hS.2.2 (by omega) (by omega)
set_option maxHeartbeats 4000000 in
set_option maxRecDepth 100000 in
theorem kx_L_run_13 (l : Launch) (hst : l.stackTraces = false) (dC : Nat → ClassId) (dI : Nat → Nat → Nat) (ge5 gea gv5 gva gde gic gi0 : Nat) (h0 : Nat) (z0 : Nat) (z1 : Nat) (z2 : Nat) (z3 : Nat) (z4 : Nat) (z5 : Nat) (z6 : Nat) (sz : Nat) (i0 : Int32) (i0_l : (4 : Int) ≤ i0.toInt) (i0_u : i0.toInt ≤ (2147483647 : Int)) (i1 : Int32) (i1_l : (0 : Int) ≤ i1.toInt) (i1_u : i1.toInt ≤ (2 : Int)) (i2 : Int32) (i2_l : (1 : Int) ≤ i2.toInt) (i2_u : i2.toInt ≤ (40 : Int)) : Met l yL_run wsL_run ({ frames := 8, cells := 1, slots := 6, locals := 164 }) (va_Pc [.ref h0, .int i0, .int i1, .int i2, .ref z0] (fun U => U.heap.size = sz ∧ va_P (dC, dI) vwCl [(h0, .inr (7, [.ref z1, .ref z2, .ref z3, .ref z4, .ref z5, .ref z6, .int 0, .int 0, .int 0]))] U.heap ∧ va_K (dC, dI) vwCl [] U ∧ va_D (fun _ => True) [(h0, .inr (7, [.ref z1, .ref z2, .ref z3, .ref z4, .ref z5, .ref z6, .int 0, .int 0, .int 0]))] ∧ gv ge5 gea gv5 gva gde gic gi0 (va_A [(h0, .inr (7, [.ref z1, .ref z2, .ref z3, .ref z4, .ref z5, .ref z6, .int 0, .int 0, .int 0]))] sz) U U.heap)) (va_Qi (fun (r : Int32) (_ : Unit) => r = 1) (fun (_ : Unit) (t : State) => va_P (dC, dI) vwCl [(h0, .inr (7, [.ref z1, .ref z2, .ref z3, .ref z4, .ref z5, .ref z6, .int 0, .int 0, .int 0]))] t.heap ∧ va_K (dC, dI) vwCl [] t ∧ va_D (va_A [(h0, .inr (7, [.ref z1, .ref z2, .ref z3, .ref z4, .ref z5, .ref z6, .int 0, .int 0, .int 0]))] sz) [(h0, .inr (7, [.ref z1, .ref z2, .ref z3, .ref z4, .ref z5, .ref z6, .int 0, .int 0, .int 0]))]) (va_A [(h0, .inr (7, [.ref z1, .ref z2, .ref z3, .ref z4, .ref z5, .ref z6, .int 0, .int 0, .int 0]))] sz)) 1 6 (va_A [(h0, .inr (7, [.ref z1, .ref z2, .ref z3, .ref z4, .ref z5, .ref z6, .int 0, .int 0, .int 0]))] sz) := by
  refine kz_ofWH (cc := cL_run) (maxL := 6) (ret := (some .int)) (hh := [(0, 13, 16, 19), (0, 13, 20, 21)]) (by decide) rfl ?_
  intro p e s m args below meth c s₁ B hml hv
  obtain ⟨rfl, hsz, hP, hK, hD0, hG⟩ := hv
  have hx := B.exec
  have hb := B.bytes
  have hr := B.returns
  have hts := atoms_spec (ws := wsL_run) B.pre
  have hown : s.vm.findClass RL = some m.cls := findClass_of_methodNamed B.named
  have htab := vx_table (x := yL_run) B (hts (.codeWith yL_run cL_run 6 (some .int) [(0, 13, 16, 19), (0, 13, 20, 21)]) (by decide +kernel))
  have hlocks := B.notSynchronized
  subst hsz
  have hD := hD0.self (sz := s.heap.size)
  generalize hAe : va_A [(h0, .inr (7, [.ref z1, .ref z2, .ref z3, .ref z4, .ref z5, .ref z6, .int 0, .int 0, .int 0]))] s.heap.size = A at hD hG ⊢
  obtain ⟨⟨g_AO_Text, g_AO_String, g_AO_Object, g_nm_RX1_20, g_nm_RX0_17, g_nm_RX3_31, g_nm_RX2_44, g_nm_RL_121, g_nf_RL_13, g_nf_RL_47, g_ca_IO, g_ca_IA, g_ca_IS, g_ca_IntObj, g_ca_StrObj, g_de_RT, g_de_EX, g_de_TH, g_nc_IA_IO, g_nc_IS_IO, g_nc_IS_IA⟩, ⟨g_s3, g_s5, g_sa, g_x278, g_x280, g_x282, g_x284, g_x286, g_x180, g_x238, g_x250⟩, ⟨g_o5, g_c5, g_v5, g_t5, g_oa, g_ca, g_va, g_ta, g_zc, g_zd, g_td, g_zf, g_zU, g_zN, g_zh, g_zk, g_tk, g_oi, g_vi⟩⟩ := id hG
  have hA : ∀ q : Nat, s.heap.size ≤ q → A q := fun q h => by rw [← hAe]; exact Or.inr h
  have hS : va_S A s.heap s.heap [] := va_S.rf
  have hP : va_P (dC, dI) vwCl [(h0, .inr (7, [.ref z1, .ref z2, .ref z3, .ref z4, .ref z5, .ref z6, .int 0, .int 0, .int 0]))] s.heap := hP
  have hl := lv_entry ([.ref h0, .int i0, .int i1, .int i2, .ref z0]) (n := 6) (Nat.le_of_ble_eq_true rfl)
  rw [lg_entry_eq]
  generalize (lg_sl ([.ref h0, .int i0, .int i1, .int i2, .ref z0]) ++ List.replicate (6 - (lg_sl ([.ref h0, .int i0, .int i1, .int i2, .ref z0])).length) Slot.unset).toArray = ls at hl ⊢
  have hl : lv_has ls 6 [(0, .ref h0), (1, .int i0), (2, .int i1), (3, .int i2), (4, .ref z0)] := hl
  refine lv_aload hx hb dL_run_0 (lv_at hl 4 rfl) ?_
  refine lv_aload_n hx hb dL_run_2 rfl (lv_at hl 0 rfl) ?_
  refine lv_iload_n hx hb dL_run_3 rfl (lv_at hl 1 rfl) ?_
  refine lv_iload_n hx hb dL_run_4 rfl (lv_at hl 2 rfl) ?_
  refine lv_iload_n hx hb dL_run_5 rfl (lv_at hl 3 rfl) ?_
  have hPc := hP.sub (ws' := [(h0, .inr (7, [.ref z1, .ref z2, .ref z3, .ref z4, .ref z5, .ref z6, .int 0, .int 0, .int 0]))]) [0] rfl
  have hDc := hD.sub (ws' := [(h0, .inr (7, [.ref z1, .ref z2, .ref z3, .ref z4, .ref z5, .ref z6, .int 0, .int 0, .int 0]))]) [0] (by decide) rfl
  have hKc := hK.sub (tys' := []) [] rfl
  have hFc := va_free (wc := [(h0, .inr (7, [.ref z1, .ref z2, .ref z3, .ref z4, .ref z5, .ref z6, .int 0, .int 0, .int 0]))]) hD hS hA [0] rfl
  refine vx_calli (vx_runV (As := [.int i0, .int i1, .int i2]) (rest := [.ref z0]) ⟨hx, hb, hml, hown, hts⟩ (kx_X3_run_16 l hst dC dI ge5 gea gv5 gva gde gic gi0 h0 z1 z2 z3 z4 z5 z6 s.heap.size i0 i0_l i0_u i1 i1_l i1_u i2 i2_l i2_u) (cwV 3 hts gL_run_X3_run rfl rfl rfl (by decide +kernel) ⟨Nat.le_of_ble_eq_true rfl, Nat.le_of_ble_eq_true rfl⟩) ⟨fun a U g mk q => by obtain ⟨q0, q1, qP, qK, qD, qG⟩ := q; exact ⟨q0, q1, qP, va_K.moved (u := U) (U := U.calling g mk a) (Vm.Alike.refl U.vm) qK, qD, gv.fb qG⟩, va_recv hKc hPc (ci := 7) (q0 := 0) rfl rfl, fun U hU hW => ⟨rfl, by rw [hU], by rw [hU]; exact hPc, va_K.moved hW.alike hKc, hDc.weaken (fun _ _ _ _ => trivial), gv.pass hW hU hS hFc hG⟩⟩ rfl rfl hl.1 rfl (lv_room (Nat.le_of_ble_eq_true rfl)) dL_run_6 ⟨Nat.le_of_ble_eq_true rfl, Nat.le_of_ble_eq_true rfl⟩) hS (fun q _ h => hFc q h) hFc (fun q _ h => hFc q h) (fun E ce q9 u t H1 locs ht hvm hpx hB hz1 hk1 hS hce hcv hcl => ?_) (fun r9 u t H1 locs ht hvm hw hB hz1 hk1 hS => hw.elim)
  obtain ⟨rfl, hP1, hK1, hD1⟩ := hB
  rw [ht] at hP1
  have hK1 := va_K.moved hvm.symm hK1
  obtain ⟨hP, hD⟩ := va_join (wr := []) (w1 := [(h0, .inr (7, [.ref z1, .ref z2, .ref z3, .ref z4, .ref z5, .ref z6, .int 0, .int 0, .int 0]))]) hP hD [0] [] rfl rfl (by decide) (by decide) hk1 hFc hP1 hD1
  generalize H1 = H at hP hS hce ⊢
  have hP : va_P (dC, dI) vwCl [(h0, .inr (7, [.ref z1, .ref z2, .ref z3, .ref z4, .ref z5, .ref z6, .int 0, .int 0, .int 0]))] H := hP
  have hD : va_D A [(h0, .inr (7, [.ref z1, .ref z2, .ref z3, .ref z4, .ref z5, .ref z6, .int 0, .int 0, .int 0]))] := hD
  refine vx_catch (own := RL) (name := "java/lang/IndexOutOfBoundsException") hown (tableOf []) ⟨0, 13, 16, 19⟩ (tableOf [(0, 13, 20, 21)]) (by rw [htab]; rfl) (fun z hz => nomatch hz) (by decide +kernel) (by decide) (hts (.classLink RL 19 "java/lang/IndexOutOfBoundsException") (by decide +kernel)) (va_Nw.use rfl g_ca_IO) hce hcv hcl ?_
  refine W.eq (g2 := F0 m 16 ls [.ref q9]) rfl ?_
  refine lv_astore (lv' := [(5, .ref q9), (0, .ref h0), (1, .int i0), (2, .int i1), (3, .int i2), (4, .ref z0)]) hx hb dL_run_16 hl (by decide) rfl (fun ls hl => ?_)
  refine lv_iconst (v := 1) hx hb dL_run_18 (by decide) ?_
  exact W.iret (v := 1) hx hb hr (fun t ht hW => ⟨⟨1, (), rfl, rfl, by rw [ht]; exact hP, va_K.moved hW.alike hK, hD⟩, hS.F ht⟩) hS.2.2 dL_run_19
set_option maxHeartbeats 4000000 in
set_option maxRecDepth 100000 in
theorem kx_X5_run_13 (l : Launch) (dC : Nat → ClassId) (dI : Nat → Nat → Nat) (h0 : Nat) (z0 : Nat) (z1 : Nat) (z2 : Nat) (sz : Nat) (i0 : Int32) (i0_l : (4 : Int) ≤ i0.toInt) (i0_u : i0.toInt ≤ (2147483647 : Int)) (i1 : Int32) (i1_l : (0 : Int) ≤ i1.toInt) (i1_u : i1.toInt ≤ (2 : Int)) (i2 : Int32) (i2_l : (1 : Int) ≤ i2.toInt) (i2_u : i2.toInt ≤ (40 : Int)) : Met l yX5_run wsX5_run ({ frames := 2, cells := 0, slots := 0, locals := 42 }) (va_Pc [.ref h0, .int i0, .int i1, .int i2] (fun U => U.heap.size = sz ∧ va_P (dC, dI) vwCl [(h0, .inr (9, [.int 0, .ref z0, .ref z1, .ref z2, .int 0, .int 0, .int 0]))] U.heap ∧ va_K (dC, dI) vwCl [] U ∧ va_D (fun _ => True) [(h0, .inr (9, [.int 0, .ref z0, .ref z1, .ref z2, .int 0, .int 0, .int 0]))])) (va_Qi (fun (r : Int32) (_ : Unit) => r = 0) (fun (_ : Unit) (t : State) => va_P (dC, dI) vwCl [(h0, .inr (9, [.int 1, .ref z0, .ref z1, .ref z2, .int 0, .int 0, .int 0]))] t.heap ∧ va_K (dC, dI) vwCl [] t ∧ va_D (va_A [(h0, .inr (9, [.int 0, .ref z0, .ref z1, .ref z2, .int 0, .int 0, .int 0]))] sz) [(h0, .inr (9, [.int 1, .ref z0, .ref z1, .ref z2, .int 0, .int 0, .int 0]))]) (va_A [(h0, .inr (9, [.int 0, .ref z0, .ref z1, .ref z2, .int 0, .int 0, .int 0]))] sz)) 0 0 (va_A [(h0, .inr (9, [.int 0, .ref z0, .ref z1, .ref z2, .int 0, .int 0, .int 0]))] sz) := by
  refine Met.ofW (cc := cX5_run) (maxL := 5) (ret := (some .int)) (by decide) rfl ?_
  intro p e s m args below meth c s₁ B hml hv
  obtain ⟨rfl, hsz, hP, hK, hD0⟩ := hv
  have hx := B.exec
  have hb := B.bytes
  have hr := B.returns
  have hts := atoms_spec (ws := wsX5_run) B.pre
  have hown : s.vm.findClass RX5 = some m.cls := findClass_of_methodNamed B.named
  have hlocks := B.notSynchronized
  subst hsz
  have hD := hD0.self (sz := s.heap.size)
  generalize hAe : va_A [(h0, .inr (9, [.int 0, .ref z0, .ref z1, .ref z2, .int 0, .int 0, .int 0]))] s.heap.size = A at hD ⊢
  have hA : ∀ q : Nat, s.heap.size ≤ q → A q := fun q h => by rw [← hAe]; exact Or.inr h
  have hS : va_S A s.heap s.heap [] := va_S.rf
  have hP : va_P (dC, dI) vwCl [(h0, .inr (9, [.int 0, .ref z0, .ref z1, .ref z2, .int 0, .int 0, .int 0]))] s.heap := hP
  have hl := lv_entry ([.ref h0, .int i0, .int i1, .int i2]) (n := 5) (Nat.le_of_ble_eq_true rfl)
  rw [lg_entry_eq]
  generalize (lg_sl ([.ref h0, .int i0, .int i1, .int i2]) ++ List.replicate (5 - (lg_sl ([.ref h0, .int i0, .int i1, .int i2])).length) Slot.unset).toArray = ls at hl ⊢
  have hl : lv_has ls 5 [(0, .ref h0), (1, .int i0), (2, .int i1), (3, .int i2)] := hl
  refine lv_aload_n hx hb dX5_run_0 rfl (lv_at hl 0 rfl) ?_
  refine lv_iload_n hx hb dX5_run_1 rfl (lv_at hl 1 rfl) ?_
  have hPc := hP.sub (ws' := []) [] rfl
  have hDc := hD.sub (ws' := []) [] (by decide) rfl
  have hKc := hK.sub (tys' := []) [] rfl
  have hFc := va_free (wc := []) hD hS hA [] rfl
  refine va_calli (va_runS (As := [.int i0]) (rest := [.ref h0]) ⟨hx, hb, hml, hown, hts⟩ (kx_X5_isNo_2 l dC dI s.heap.size i0 i0_l i0_u) (cwS 1 hts gX5_run_X5_isNo rfl rfl rfl (by decide +kernel) ⟨Nat.le_of_ble_eq_true rfl, Nat.le_of_ble_eq_true rfl⟩) ⟨fun a U g mk q => by obtain ⟨q0, q1, qP, qK, qD⟩ := q; exact ⟨q0, q1, qP, va_K.moved (u := U) (U := U.calling g mk a) (Vm.Alike.refl U.vm) qK, qD⟩, fun U hU hW => ⟨rfl, by rw [hU], by rw [hU]; exact hPc, va_K.moved hW.alike hKc, hDc.weaken (fun _ _ _ _ => trivial)⟩⟩ rfl rfl hl.1 rfl (lv_room (Nat.le_of_ble_eq_true rfl)) dX5_run_2 ⟨Nat.le_of_ble_eq_true rfl, Nat.le_of_ble_eq_true rfl⟩) hS (fun q _ h => hFc q h) hFc (fun r9 u t H1 locs ht hvm hw hB hz1 hk1 hS => ?_)
  obtain rfl := hw
  obtain ⟨hP1, hK1, hD1⟩ := hB
  rw [ht] at hP1
  have hK1 := va_K.moved hvm.symm hK1
  obtain ⟨hP, hD⟩ := va_join (wr := [(h0, .inr (9, [.int 0, .ref z0, .ref z1, .ref z2, .int 0, .int 0, .int 0]))]) (w1 := []) hP hD [] [0] rfl rfl (by decide) (by decide) hk1 hFc hP1 hD1
  generalize H1 = H at hP hS ⊢
  have hP : va_P (dC, dI) vwCl [(h0, .inr (9, [.int 0, .ref z0, .ref z1, .ref z2, .int 0, .int 0, .int 0]))] H := hP
  have hD : va_D A [(h0, .inr (9, [.int 0, .ref z0, .ref z1, .ref z2, .int 0, .int 0, .int 0]))] := hD
  refine lv_iload_n hx hb dX5_run_5 rfl (lv_at hl 2 rfl) ?_
  refine lv_iconst (v := 0) hx hb dX5_run_6 (by decide) ?_
  refine lv_iconst (v := 2) hx hb dX5_run_7 (by decide) ?_
  have hPc := hP.sub (ws' := []) [] rfl
  have hDc := hD.sub (ws' := []) [] (by decide) rfl
  have hKc := hK.sub (tys' := []) [] rfl
  have hFc := va_free (wc := []) hD hS hA [] rfl
  refine va_calli (va_runS (As := [.int i1, .int 0, .int 2]) (rest := [.int 1, .ref h0]) ⟨hx, hb, hml, hown, hts⟩ (kx_X5_isIn_21 l dC dI H.size i1 i1_l i1_u) (cwS 3 hts gX5_run_X5_isIn rfl rfl rfl (by decide +kernel) ⟨Nat.le_of_ble_eq_true rfl, Nat.le_of_ble_eq_true rfl⟩) ⟨fun a U g mk q => by obtain ⟨q0, q1, qP, qK, qD⟩ := q; exact ⟨q0, q1, qP, va_K.moved (u := U) (U := U.calling g mk a) (Vm.Alike.refl U.vm) qK, qD⟩, fun U hU hW => ⟨rfl, by rw [hU], by rw [hU]; exact hPc, va_K.moved hW.alike hKc, hDc.weaken (fun _ _ _ _ => trivial)⟩⟩ rfl rfl hl.1 rfl (lv_room (Nat.le_of_ble_eq_true rfl)) dX5_run_8 ⟨Nat.le_of_ble_eq_true rfl, Nat.le_of_ble_eq_true rfl⟩) hS (fun q _ h => hFc q h) hFc (fun r9 u t H1 locs ht hvm hw hB hz1 hk1 hS => ?_)
  obtain rfl := hw
  obtain ⟨hP1, hK1, hD1⟩ := hB
  rw [ht] at hP1
  have hK1 := va_K.moved hvm.symm hK1
  obtain ⟨hP, hD⟩ := va_join (wr := [(h0, .inr (9, [.int 0, .ref z0, .ref z1, .ref z2, .int 0, .int 0, .int 0]))]) (w1 := []) hP hD [] [0] rfl rfl (by decide) (by decide) hk1 hFc hP1 hD1
  generalize H1 = H at hP hS ⊢
  have hP : va_P (dC, dI) vwCl [(h0, .inr (9, [.int 0, .ref z0, .ref z1, .ref z2, .int 0, .int 0, .int 0]))] H := hP
  have hD : va_D A [(h0, .inr (9, [.int 0, .ref z0, .ref z1, .ref z2, .int 0, .int 0, .int 0]))] := hD
  refine lv_if_eq (tgt := 24) hx hb dX5_run_11 (by decide) (fun c9 => absurd c9 (by decide)) (fun _ => ?_)
  refine lv_iload_n hx hb dX5_run_14 rfl (lv_at hl 3 rfl) ?_
  refine lv_iconst (v := 1) hx hb dX5_run_15 (by decide) ?_
  refine lv_bipush (v := 40) hx hb dX5_run_16 (by decide) ?_
  have hPc := hP.sub (ws' := []) [] rfl
  have hDc := hD.sub (ws' := []) [] (by decide) rfl
  have hKc := hK.sub (tys' := []) [] rfl
  have hFc := va_free (wc := []) hD hS hA [] rfl
  refine va_calli (va_runS (As := [.int i2, .int 1, .int 40]) (rest := [.int 1, .ref h0]) ⟨hx, hb, hml, hown, hts⟩ (kx_X5_isIn_25 l dC dI H.size i2 i2_l i2_u) (cwS 3 hts gX5_run_X5_isIn rfl rfl rfl (by decide +kernel) ⟨Nat.le_of_ble_eq_true rfl, Nat.le_of_ble_eq_true rfl⟩) ⟨fun a U g mk q => by obtain ⟨q0, q1, qP, qK, qD⟩ := q; exact ⟨q0, q1, qP, va_K.moved (u := U) (U := U.calling g mk a) (Vm.Alike.refl U.vm) qK, qD⟩, fun U hU hW => ⟨rfl, by rw [hU], by rw [hU]; exact hPc, va_K.moved hW.alike hKc, hDc.weaken (fun _ _ _ _ => trivial)⟩⟩ rfl rfl hl.1 rfl (lv_room (Nat.le_of_ble_eq_true rfl)) dX5_run_18 ⟨Nat.le_of_ble_eq_true rfl, Nat.le_of_ble_eq_true rfl⟩) hS (fun q _ h => hFc q h) hFc (fun r9 u t H1 locs ht hvm hw hB hz1 hk1 hS => ?_)
  obtain rfl := hw
  obtain ⟨hP1, hK1, hD1⟩ := hB
  rw [ht] at hP1
  have hK1 := va_K.moved hvm.symm hK1
  obtain ⟨hP, hD⟩ := va_join (wr := [(h0, .inr (9, [.int 0, .ref z0, .ref z1, .ref z2, .int 0, .int 0, .int 0]))]) (w1 := []) hP hD [] [0] rfl rfl (by decide) (by decide) hk1 hFc hP1 hD1
  generalize H1 = H at hP hS ⊢
  have hP : va_P (dC, dI) vwCl [(h0, .inr (9, [.int 0, .ref z0, .ref z1, .ref z2, .int 0, .int 0, .int 0]))] H := hP
  have hD : va_D A [(h0, .inr (9, [.int 0, .ref z0, .ref z1, .ref z2, .int 0, .int 0, .int 0]))] := hD
  refine lv_if_ne (tgt := 28) hx hb dX5_run_21 (by decide) (fun _ => ?_) (fun c9 => absurd c9 (by decide))
  refine lv_iconst (v := 0) hx hb dX5_run_28 (by decide) ?_
  refine lv_iconst (v := 0) hx hb dX5_run_29 (by decide) ?_
  have hPc := hP.sub (ws' := [(h0, .inr (9, [.int 0, .ref z0, .ref z1, .ref z2, .int 0, .int 0, .int 0]))]) [0] rfl
  have hDc := hD.sub (ws' := [(h0, .inr (9, [.int 0, .ref z0, .ref z1, .ref z2, .int 0, .int 0, .int 0]))]) [0] (by decide) rfl
  have hKc := hK.sub (tys' := []) [] rfl
  have hFc := va_free (wc := [(h0, .inr (9, [.int 0, .ref z0, .ref z1, .ref z2, .int 0, .int 0, .int 0]))]) hD hS hA [0] rfl
  refine va_calli (va_runV (As := [.int 1, .int 0, .int 0]) (rest := []) ⟨hx, hb, hml, hown, hts⟩ (kx_X5_fails_0 l dC dI h0 z0 z1 z2 H.size) (cwV 3 hts gX5_run_X5_fails rfl rfl rfl (by decide +kernel) ⟨Nat.le_of_ble_eq_true rfl, Nat.le_of_ble_eq_true rfl⟩) ⟨fun a U g mk q => by obtain ⟨q0, q1, qP, qK, qD⟩ := q; exact ⟨q0, q1, qP, va_K.moved (u := U) (U := U.calling g mk a) (Vm.Alike.refl U.vm) qK, qD⟩, va_recv hKc hPc (ci := 9) (q0 := 0) rfl rfl, fun U hU hW => ⟨rfl, by rw [hU], by rw [hU]; exact hPc, va_K.moved hW.alike hKc, hDc.weaken (fun _ _ _ _ => trivial)⟩⟩ rfl rfl hl.1 rfl (lv_room (Nat.le_of_ble_eq_true rfl)) dX5_run_30 ⟨Nat.le_of_ble_eq_true rfl, Nat.le_of_ble_eq_true rfl⟩) hS (fun q _ h => hFc q h) hFc (fun r9 u t H1 locs ht hvm hw hB hz1 hk1 hS => ?_)
  obtain rfl := hw
  obtain ⟨hP1, hK1, hD1⟩ := hB
  rw [ht] at hP1
  have hK1 := va_K.moved hvm.symm hK1
  obtain ⟨hP, hD⟩ := va_join (wr := []) (w1 := [(h0, .inr (9, [.int 1, .ref z0, .ref z1, .ref z2, .int 0, .int 0, .int 0]))]) hP hD [0] [] rfl rfl (by decide) (by decide) hk1 hFc hP1 hD1
  generalize H1 = H at hP hS ⊢
  have hP : va_P (dC, dI) vwCl [(h0, .inr (9, [.int 1, .ref z0, .ref z1, .ref z2, .int 0, .int 0, .int 0]))] H := hP
  have hD : va_D A [(h0, .inr (9, [.int 1, .ref z0, .ref z1, .ref z2, .int 0, .int 0, .int 0]))] := hD
  refine lv_if_eq (tgt := 38) hx hb dX5_run_33 (by decide) (fun c9 => absurd c9 (by decide)) (fun _ => ?_)
  refine lv_iconst (v := 0) hx hb dX5_run_36 (by decide) ?_
  exact W.iret (v := 0) hx hb hr (fun t ht hW => ⟨⟨0, (), rfl, rfl, by rw [ht]; exact hP, va_K.moved hW.alike hK, hD⟩, hS.F ht⟩) hS.2.2 dX5_run_37
set_option maxHeartbeats 4000000 in
set_option maxRecDepth 100000 in
theorem kx_X3_run_17 (l : Launch) (hst : l.stackTraces = false) (dC : Nat → ClassId) (dI : Nat → Nat → Nat) (ge5 gea gv5 gva gde gic gi0 : Nat) (h0 : Nat) (z0 : Nat) (z1 : Nat) (z2 : Nat) (z3 : Nat) (z4 : Nat) (z5 : Nat) (sz : Nat) (i0 : Int32) (i0_l : (4 : Int) ≤ i0.toInt) (i0_u : i0.toInt ≤ (2147483647 : Int)) (i1 : Int32) (i1_l : (0 : Int) ≤ i1.toInt) (i1_u : i1.toInt ≤ (2 : Int)) (i2 : Int32) (i2_l : (41 : Int) ≤ i2.toInt) (i2_u : i2.toInt ≤ (2147483647 : Int)) : vx_Met l yX3_run wsX3_run ({ frames := 7, cells := 1, slots := 6, locals := 140 }) (va_Pc [.ref h0, .int i0, .int i1, .int i2] (fun U => U.heap.size = sz ∧ va_P (dC, dI) vwCl [(h0, .inr (7, [.ref z0, .ref z1, .ref z2, .ref z3, .ref z4, .ref z5, .int 0, .int 0, .int 0]))] U.heap ∧ va_K (dC, dI) vwCl [] U ∧ va_D (fun _ => True) [(h0, .inr (7, [.ref z0, .ref z1, .ref z2, .ref z3, .ref z4, .ref z5, .int 0, .int 0, .int 0]))] ∧ gv ge5 gea gv5 gva gde gic gi0 (va_A [(h0, .inr (7, [.ref z0, .ref z1, .ref z2, .ref z3, .ref z4, .ref z5, .int 0, .int 0, .int 0]))] sz) U U.heap)) (va_Qi (fun (_ : Int32) (_ : Unit) => False) (fun _ _ => True) (va_A [(h0, .inr (7, [.ref z0, .ref z1, .ref z2, .ref z3, .ref z4, .ref z5, .int 0, .int 0, .int 0]))] sz)) (vx_X (fun _ : Unit => True) (fun (E : String) (_ : Unit) (t : State) => E = "java/lang/IndexOutOfBoundsException" ∧ va_P (dC, dI) vwCl [(h0, .inr (7, [.ref z0, .ref z1, .ref z2, .ref z3, .ref z4, .ref z5, .int 0, .int 0, .int 0]))] t.heap ∧ va_K (dC, dI) vwCl [] t ∧ va_D (va_A [(h0, .inr (7, [.ref z0, .ref z1, .ref z2, .ref z3, .ref z4, .ref z5, .int 0, .int 0, .int 0]))] sz) [(h0, .inr (7, [.ref z0, .ref z1, .ref z2, .ref z3, .ref z4, .ref z5, .int 0, .int 0, .int 0]))]) (va_A [(h0, .inr (7, [.ref z0, .ref z1, .ref z2, .ref z3, .ref z4, .ref z5, .int 0, .int 0, .int 0]))] sz)) 1 6 (va_A [(h0, .inr (7, [.ref z0, .ref z1, .ref z2, .ref z3, .ref z4, .ref z5, .int 0, .int 0, .int 0]))] sz) := by
  refine vx_ofW (cc := cX3_run) (maxL := 5) (ret := (some .int)) (by decide) rfl ?_
  intro p e s m args below meth c s₁ B hml ht9 hv
  obtain ⟨rfl, hsz, hP, hK, hD0, hG⟩ := hv
  have hx := B.exec
  have hb := B.bytes
  have hr := B.returns
  have hts := atoms_spec (ws := wsX3_run) B.pre
  have hown : s.vm.findClass RX3 = some m.cls := findClass_of_methodNamed B.named
  have hlocks := B.notSynchronized
  subst hsz
  have hD := hD0.self (sz := s.heap.size)
  generalize hAe : va_A [(h0, .inr (7, [.ref z0, .ref z1, .ref z2, .ref z3, .ref z4, .ref z5, .int 0, .int 0, .int 0]))] s.heap.size = A at hD hG ⊢
  obtain ⟨⟨g_AO_Text, g_AO_String, g_AO_Object, g_nm_RX1_20, g_nm_RX0_17, g_nm_RX3_31, g_nm_RX2_44, g_nm_RL_121, g_nf_RL_13, g_nf_RL_47, g_ca_IO, g_ca_IA, g_ca_IS, g_ca_IntObj, g_ca_StrObj, g_de_RT, g_de_EX, g_de_TH, g_nc_IA_IO, g_nc_IS_IO, g_nc_IS_IA⟩, ⟨g_s3, g_s5, g_sa, g_x278, g_x280, g_x282, g_x284, g_x286, g_x180, g_x238, g_x250⟩, ⟨g_o5, g_c5, g_v5, g_t5, g_oa, g_ca, g_va, g_ta, g_zc, g_zd, g_td, g_zf, g_zU, g_zN, g_zh, g_zk, g_tk, g_oi, g_vi⟩⟩ := id hG
  have hA : ∀ q : Nat, s.heap.size ≤ q → A q := fun q h => by rw [← hAe]; exact Or.inr h
  have hS : va_S A s.heap s.heap [] := va_S.rf
  have hP : va_P (dC, dI) vwCl [(h0, .inr (7, [.ref z0, .ref z1, .ref z2, .ref z3, .ref z4, .ref z5, .int 0, .int 0, .int 0]))] s.heap := hP
  have hl := lv_entry ([.ref h0, .int i0, .int i1, .int i2]) (n := 5) (Nat.le_of_ble_eq_true rfl)
  rw [lg_entry_eq]
  generalize (lg_sl ([.ref h0, .int i0, .int i1, .int i2]) ++ List.replicate (5 - (lg_sl ([.ref h0, .int i0, .int i1, .int i2])).length) Slot.unset).toArray = ls at hl ⊢
  have hl : lv_has ls 5 [(0, .ref h0), (1, .int i0), (2, .int i1), (3, .int i2)] := hl
  refine lv_iload_n hx hb dX3_run_0 rfl (lv_at hl 1 rfl) ?_
  have hPc := hP.sub (ws' := []) [] rfl
  have hDc := hD.sub (ws' := []) [] (by decide) rfl
  have hKc := hK.sub (tys' := []) [] rfl
  have hFc := va_free (wc := []) hD hS hA [] rfl
  refine vx_callv (vx_runS (As := [.int i0]) (rest := []) ⟨hx, hb, hml, hown, hts⟩ (kx_X3_needRope_6 l hst dC dI ge5 gea gv5 gva gde gic gi0 s.heap.size i0 i0_l i0_u) (cwS 1 hts gX3_run_X3_needRope rfl rfl rfl (by decide +kernel) ⟨Nat.le_of_ble_eq_true rfl, Nat.le_of_ble_eq_true rfl⟩) ⟨fun a U g mk q => by obtain ⟨q0, q1, qP, qK, qD, qG⟩ := q; exact ⟨q0, q1, qP, va_K.moved (u := U) (U := U.calling g mk a) (Vm.Alike.refl U.vm) qK, qD, gv.fb qG⟩, fun U hU hW => ⟨rfl, by rw [hU], by rw [hU]; exact hPc, va_K.moved hW.alike hKc, hDc.weaken (fun _ _ _ _ => trivial), gv.pass hW hU hS hFc hG⟩⟩ rfl rfl hl.1 rfl (lv_room (Nat.le_of_ble_eq_true rfl)) dX3_run_1 ⟨Nat.le_of_ble_eq_true rfl, Nat.le_of_ble_eq_true rfl⟩) hS (fun q _ h => hFc q h) hFc (fun q _ h => hFc q h) (fun E ce q9 u t H1 locs ht hvm hpx hB hz1 hk1 hS hce hcv hcl => ?_) (fun u t H1 locs ht hvm hw hB hz1 hk1 hS => hw.elim)
  obtain ⟨rfl, hP1, hK1, hD1⟩ := hB
  rw [ht] at hP1
  have hK1 := va_K.moved hvm.symm hK1
  obtain ⟨hP, hD⟩ := va_join (wr := [(h0, .inr (7, [.ref z0, .ref z1, .ref z2, .ref z3, .ref z4, .ref z5, .int 0, .int 0, .int 0]))]) (w1 := []) hP hD [] [0] rfl rfl (by decide) (by decide) hk1 hFc hP1 hD1
  generalize H1 = H at hP hS hce ⊢
  have hP : va_P (dC, dI) vwCl [(h0, .inr (7, [.ref z0, .ref z1, .ref z2, .ref z3, .ref z4, .ref z5, .int 0, .int 0, .int 0]))] H := hP
  have hD : va_D A [(h0, .inr (7, [.ref z0, .ref z1, .ref z2, .ref z3, .ref z4, .ref z5, .int 0, .int 0, .int 0]))] := hD
  exact vx_out (fun x hx9 => (ht9 x hx9).elim) hlocks hce hcv hcl (fun t ht hW => ⟨(), trivial, ⟨rfl, by rw [ht]; exact hP, va_K.moved hW hK, hD⟩, hS.F ht⟩) hS.2.2 (by omega) (by omega)
set_option maxHeartbeats 4000000 in
set_option maxRecDepth 100000 in
theorem kx_L_run_14 (l : Launch) (hst : l.stackTraces = false) (dC : Nat → ClassId) (dI : Nat → Nat → Nat) (ge5 gea gv5 gva gde gic gi0 : Nat) (h0 : Nat) (z0 : Nat) (z1 : Nat) (z2 : Nat) (z3 : Nat) (z4 : Nat) (z5 : Nat) (z6 : Nat) (sz : Nat) (i0 : Int32) (i0_l : (4 : Int) ≤ i0.toInt) (i0_u : i0.toInt ≤ (2147483647 : Int)) (i1 : Int32) (i1_l : (0 : Int) ≤ i1.toInt) (i1_u : i1.toInt ≤ (2 : Int)) (i2 : Int32) (i2_l : (41 : Int) ≤ i2.toInt) (i2_u : i2.toInt ≤ (2147483647 : Int)) : Met l yL_run wsL_run ({ frames := 8, cells := 1, slots := 6, locals := 164 }) (va_Pc [.ref h0, .int i0, .int i1, .int i2, .ref z0] (fun U => U.heap.size = sz ∧ va_P (dC, dI) vwCl [(h0, .inr (7, [.ref z1, .ref z2, .ref z3, .ref z4, .ref z5, .ref z6, .int 0, .int 0, .int 0]))] U.heap ∧ va_K (dC, dI) vwCl [] U ∧ va_D (fun _ => True) [(h0, .inr (7, [.ref z1, .ref z2, .ref z3, .ref z4, .ref z5, .ref z6, .int 0, .int 0, .int 0]))] ∧ gv ge5 gea gv5 gva gde gic gi0 (va_A [(h0, .inr (7, [.ref z1, .ref z2, .ref z3, .ref z4, .ref z5, .ref z6, .int 0, .int 0, .int 0]))] sz) U U.heap)) (va_Qi (fun (r : Int32) (_ : Unit) => r = 1) (fun (_ : Unit) (t : State) => va_P (dC, dI) vwCl [(h0, .inr (7, [.ref z1, .ref z2, .ref z3, .ref z4, .ref z5, .ref z6, .int 0, .int 0, .int 0]))] t.heap ∧ va_K (dC, dI) vwCl [] t ∧ va_D (va_A [(h0, .inr (7, [.ref z1, .ref z2, .ref z3, .ref z4, .ref z5, .ref z6, .int 0, .int 0, .int 0]))] sz) [(h0, .inr (7, [.ref z1, .ref z2, .ref z3, .ref z4, .ref z5, .ref z6, .int 0, .int 0, .int 0]))]) (va_A [(h0, .inr (7, [.ref z1, .ref z2, .ref z3, .ref z4, .ref z5, .ref z6, .int 0, .int 0, .int 0]))] sz)) 1 6 (va_A [(h0, .inr (7, [.ref z1, .ref z2, .ref z3, .ref z4, .ref z5, .ref z6, .int 0, .int 0, .int 0]))] sz) := by
  refine kz_ofWH (cc := cL_run) (maxL := 6) (ret := (some .int)) (hh := [(0, 13, 16, 19), (0, 13, 20, 21)]) (by decide) rfl ?_
  intro p e s m args below meth c s₁ B hml hv
  obtain ⟨rfl, hsz, hP, hK, hD0, hG⟩ := hv
  have hx := B.exec
  have hb := B.bytes
  have hr := B.returns
  have hts := atoms_spec (ws := wsL_run) B.pre
  have hown : s.vm.findClass RL = some m.cls := findClass_of_methodNamed B.named
  have htab := vx_table (x := yL_run) B (hts (.codeWith yL_run cL_run 6 (some .int) [(0, 13, 16, 19), (0, 13, 20, 21)]) (by decide +kernel))
  have hlocks := B.notSynchronized
  subst hsz
  have hD := hD0.self (sz := s.heap.size)
  generalize hAe : va_A [(h0, .inr (7, [.ref z1, .ref z2, .ref z3, .ref z4, .ref z5, .ref z6, .int 0, .int 0, .int 0]))] s.heap.size = A at hD hG ⊢
  obtain ⟨⟨g_AO_Text, g_AO_String, g_AO_Object, g_nm_RX1_20, g_nm_RX0_17, g_nm_RX3_31, g_nm_RX2_44, g_nm_RL_121, g_nf_RL_13, g_nf_RL_47, g_ca_IO, g_ca_IA, g_ca_IS, g_ca_IntObj, g_ca_StrObj, g_de_RT, g_de_EX, g_de_TH, g_nc_IA_IO, g_nc_IS_IO, g_nc_IS_IA⟩, ⟨g_s3, g_s5, g_sa, g_x278, g_x280, g_x282, g_x284, g_x286, g_x180, g_x238, g_x250⟩, ⟨g_o5, g_c5, g_v5, g_t5, g_oa, g_ca, g_va, g_ta, g_zc, g_zd, g_td, g_zf, g_zU, g_zN, g_zh, g_zk, g_tk, g_oi, g_vi⟩⟩ := id hG
  have hA : ∀ q : Nat, s.heap.size ≤ q → A q := fun q h => by rw [← hAe]; exact Or.inr h
  have hS : va_S A s.heap s.heap [] := va_S.rf
  have hP : va_P (dC, dI) vwCl [(h0, .inr (7, [.ref z1, .ref z2, .ref z3, .ref z4, .ref z5, .ref z6, .int 0, .int 0, .int 0]))] s.heap := hP
  have hl := lv_entry ([.ref h0, .int i0, .int i1, .int i2, .ref z0]) (n := 6) (Nat.le_of_ble_eq_true rfl)
  rw [lg_entry_eq]
  generalize (lg_sl ([.ref h0, .int i0, .int i1, .int i2, .ref z0]) ++ List.replicate (6 - (lg_sl ([.ref h0, .int i0, .int i1, .int i2, .ref z0])).length) Slot.unset).toArray = ls at hl ⊢
  have hl : lv_has ls 6 [(0, .ref h0), (1, .int i0), (2, .int i1), (3, .int i2), (4, .ref z0)] := hl
  refine lv_aload hx hb dL_run_0 (lv_at hl 4 rfl) ?_
  refine lv_aload_n hx hb dL_run_2 rfl (lv_at hl 0 rfl) ?_
  refine lv_iload_n hx hb dL_run_3 rfl (lv_at hl 1 rfl) ?_
  refine lv_iload_n hx hb dL_run_4 rfl (lv_at hl 2 rfl) ?_
  refine lv_iload_n hx hb dL_run_5 rfl (lv_at hl 3 rfl) ?_
  have hPc := hP.sub (ws' := [(h0, .inr (7, [.ref z1, .ref z2, .ref z3, .ref z4, .ref z5, .ref z6, .int 0, .int 0, .int 0]))]) [0] rfl
  have hDc := hD.sub (ws' := [(h0, .inr (7, [.ref z1, .ref z2, .ref z3, .ref z4, .ref z5, .ref z6, .int 0, .int 0, .int 0]))]) [0] (by decide) rfl
  have hKc := hK.sub (tys' := []) [] rfl
  have hFc := va_free (wc := [(h0, .inr (7, [.ref z1, .ref z2, .ref z3, .ref z4, .ref z5, .ref z6, .int 0, .int 0, .int 0]))]) hD hS hA [0] rfl
  refine vx_calli (vx_runV (As := [.int i0, .int i1, .int i2]) (rest := [.ref z0]) ⟨hx, hb, hml, hown, hts⟩ (kx_X3_run_17 l hst dC dI ge5 gea gv5 gva gde gic gi0 h0 z1 z2 z3 z4 z5 z6 s.heap.size i0 i0_l i0_u i1 i1_l i1_u i2 i2_l i2_u) (cwV 3 hts gL_run_X3_run rfl rfl rfl (by decide +kernel) ⟨Nat.le_of_ble_eq_true rfl, Nat.le_of_ble_eq_true rfl⟩) ⟨fun a U g mk q => by obtain ⟨q0, q1, qP, qK, qD, qG⟩ := q; exact ⟨q0, q1, qP, va_K.moved (u := U) (U := U.calling g mk a) (Vm.Alike.refl U.vm) qK, qD, gv.fb qG⟩, va_recv hKc hPc (ci := 7) (q0 := 0) rfl rfl, fun U hU hW => ⟨rfl, by rw [hU], by rw [hU]; exact hPc, va_K.moved hW.alike hKc, hDc.weaken (fun _ _ _ _ => trivial), gv.pass hW hU hS hFc hG⟩⟩ rfl rfl hl.1 rfl (lv_room (Nat.le_of_ble_eq_true rfl)) dL_run_6 ⟨Nat.le_of_ble_eq_true rfl, Nat.le_of_ble_eq_true rfl⟩) hS (fun q _ h => hFc q h) hFc (fun q _ h => hFc q h) (fun E ce q9 u t H1 locs ht hvm hpx hB hz1 hk1 hS hce hcv hcl => ?_) (fun r9 u t H1 locs ht hvm hw hB hz1 hk1 hS => hw.elim)
  obtain ⟨rfl, hP1, hK1, hD1⟩ := hB
  rw [ht] at hP1
  have hK1 := va_K.moved hvm.symm hK1
  obtain ⟨hP, hD⟩ := va_join (wr := []) (w1 := [(h0, .inr (7, [.ref z1, .ref z2, .ref z3, .ref z4, .ref z5, .ref z6, .int 0, .int 0, .int 0]))]) hP hD [0] [] rfl rfl (by decide) (by decide) hk1 hFc hP1 hD1
  generalize H1 = H at hP hS hce ⊢
  have hP : va_P (dC, dI) vwCl [(h0, .inr (7, [.ref z1, .ref z2, .ref z3, .ref z4, .ref z5, .ref z6, .int 0, .int 0, .int 0]))] H := hP
  have hD : va_D A [(h0, .inr (7, [.ref z1, .ref z2, .ref z3, .ref z4, .ref z5, .ref z6, .int 0, .int 0, .int 0]))] := hD
  refine vx_catch (own := RL) (name := "java/lang/IndexOutOfBoundsException") hown (tableOf []) ⟨0, 13, 16, 19⟩ (tableOf [(0, 13, 20, 21)]) (by rw [htab]; rfl) (fun z hz => nomatch hz) (by decide +kernel) (by decide) (hts (.classLink RL 19 "java/lang/IndexOutOfBoundsException") (by decide +kernel)) (va_Nw.use rfl g_ca_IO) hce hcv hcl ?_
  refine W.eq (g2 := F0 m 16 ls [.ref q9]) rfl ?_
  refine lv_astore (lv' := [(5, .ref q9), (0, .ref h0), (1, .int i0), (2, .int i1), (3, .int i2), (4, .ref z0)]) hx hb dL_run_16 hl (by decide) rfl (fun ls hl => ?_)
  refine lv_iconst (v := 1) hx hb dL_run_18 (by decide) ?_
  exact W.iret (v := 1) hx hb hr (fun t ht hW => ⟨⟨1, (), rfl, rfl, by rw [ht]; exact hP, va_K.moved hW.alike hK, hD⟩, hS.F ht⟩) hS.2.2 dL_run_19
set_option maxHeartbeats 4000000 in
set_option maxRecDepth 100000 in
theorem kx_X5_run_14 (l : Launch) (dC : Nat → ClassId) (dI : Nat → Nat → Nat) (h0 : Nat) (z0 : Nat) (z1 : Nat) (z2 : Nat) (sz : Nat) (i0 : Int32) (i0_l : (4 : Int) ≤ i0.toInt) (i0_u : i0.toInt ≤ (2147483647 : Int)) (i1 : Int32) (i1_l : (0 : Int) ≤ i1.toInt) (i1_u : i1.toInt ≤ (2 : Int)) (i2 : Int32) (i2_l : (41 : Int) ≤ i2.toInt) (i2_u : i2.toInt ≤ (2147483647 : Int)) : Met l yX5_run wsX5_run ({ frames := 2, cells := 0, slots := 0, locals := 42 }) (va_Pc [.ref h0, .int i0, .int i1, .int i2] (fun U => U.heap.size = sz ∧ va_P (dC, dI) vwCl [(h0, .inr (9, [.int 0, .ref z0, .ref z1, .ref z2, .int 0, .int 0, .int 0]))] U.heap ∧ va_K (dC, dI) vwCl [] U ∧ va_D (fun _ => True) [(h0, .inr (9, [.int 0, .ref z0, .ref z1, .ref z2, .int 0, .int 0, .int 0]))])) (va_Qi (fun (r : Int32) (_ : Unit) => r = 0) (fun (_ : Unit) (t : State) => va_P (dC, dI) vwCl [(h0, .inr (9, [.int 1, .ref z0, .ref z1, .ref z2, .int 0, .int 0, .int 0]))] t.heap ∧ va_K (dC, dI) vwCl [] t ∧ va_D (va_A [(h0, .inr (9, [.int 0, .ref z0, .ref z1, .ref z2, .int 0, .int 0, .int 0]))] sz) [(h0, .inr (9, [.int 1, .ref z0, .ref z1, .ref z2, .int 0, .int 0, .int 0]))]) (va_A [(h0, .inr (9, [.int 0, .ref z0, .ref z1, .ref z2, .int 0, .int 0, .int 0]))] sz)) 0 0 (va_A [(h0, .inr (9, [.int 0, .ref z0, .ref z1, .ref z2, .int 0, .int 0, .int 0]))] sz) := by
  refine Met.ofW (cc := cX5_run) (maxL := 5) (ret := (some .int)) (by decide) rfl ?_
  intro p e s m args below meth c s₁ B hml hv
  obtain ⟨rfl, hsz, hP, hK, hD0⟩ := hv
  have hx := B.exec
  have hb := B.bytes
  have hr := B.returns
  have hts := atoms_spec (ws := wsX5_run) B.pre
  have hown : s.vm.findClass RX5 = some m.cls := findClass_of_methodNamed B.named
  have hlocks := B.notSynchronized
  subst hsz
  have hD := hD0.self (sz := s.heap.size)
  generalize hAe : va_A [(h0, .inr (9, [.int 0, .ref z0, .ref z1, .ref z2, .int 0, .int 0, .int 0]))] s.heap.size = A at hD ⊢
  have hA : ∀ q : Nat, s.heap.size ≤ q → A q := fun q h => by rw [← hAe]; exact Or.inr h
  have hS : va_S A s.heap s.heap [] := va_S.rf
  have hP : va_P (dC, dI) vwCl [(h0, .inr (9, [.int 0, .ref z0, .ref z1, .ref z2, .int 0, .int 0, .int 0]))] s.heap := hP
  have hl := lv_entry ([.ref h0, .int i0, .int i1, .int i2]) (n := 5) (Nat.le_of_ble_eq_true rfl)
  rw [lg_entry_eq]
  generalize (lg_sl ([.ref h0, .int i0, .int i1, .int i2]) ++ List.replicate (5 - (lg_sl ([.ref h0, .int i0, .int i1, .int i2])).length) Slot.unset).toArray = ls at hl ⊢
  have hl : lv_has ls 5 [(0, .ref h0), (1, .int i0), (2, .int i1), (3, .int i2)] := hl
  refine lv_aload_n hx hb dX5_run_0 rfl (lv_at hl 0 rfl) ?_
  refine lv_iload_n hx hb dX5_run_1 rfl (lv_at hl 1 rfl) ?_
  have hPc := hP.sub (ws' := []) [] rfl
  have hDc := hD.sub (ws' := []) [] (by decide) rfl
  have hKc := hK.sub (tys' := []) [] rfl
  have hFc := va_free (wc := []) hD hS hA [] rfl
  refine va_calli (va_runS (As := [.int i0]) (rest := [.ref h0]) ⟨hx, hb, hml, hown, hts⟩ (kx_X5_isNo_2 l dC dI s.heap.size i0 i0_l i0_u) (cwS 1 hts gX5_run_X5_isNo rfl rfl rfl (by decide +kernel) ⟨Nat.le_of_ble_eq_true rfl, Nat.le_of_ble_eq_true rfl⟩) ⟨fun a U g mk q => by obtain ⟨q0, q1, qP, qK, qD⟩ := q; exact ⟨q0, q1, qP, va_K.moved (u := U) (U := U.calling g mk a) (Vm.Alike.refl U.vm) qK, qD⟩, fun U hU hW => ⟨rfl, by rw [hU], by rw [hU]; exact hPc, va_K.moved hW.alike hKc, hDc.weaken (fun _ _ _ _ => trivial)⟩⟩ rfl rfl hl.1 rfl (lv_room (Nat.le_of_ble_eq_true rfl)) dX5_run_2 ⟨Nat.le_of_ble_eq_true rfl, Nat.le_of_ble_eq_true rfl⟩) hS (fun q _ h => hFc q h) hFc (fun r9 u t H1 locs ht hvm hw hB hz1 hk1 hS => ?_)
  obtain rfl := hw
  obtain ⟨hP1, hK1, hD1⟩ := hB
  rw [ht] at hP1
  have hK1 := va_K.moved hvm.symm hK1
  obtain ⟨hP, hD⟩ := va_join (wr := [(h0, .inr (9, [.int 0, .ref z0, .ref z1, .ref z2, .int 0, .int 0, .int 0]))]) (w1 := []) hP hD [] [0] rfl rfl (by decide) (by decide) hk1 hFc hP1 hD1
  generalize H1 = H at hP hS ⊢
  have hP : va_P (dC, dI) vwCl [(h0, .inr (9, [.int 0, .ref z0, .ref z1, .ref z2, .int 0, .int 0, .int 0]))] H := hP
  have hD : va_D A [(h0, .inr (9, [.int 0, .ref z0, .ref z1, .ref z2, .int 0, .int 0, .int 0]))] := hD
  refine lv_iload_n hx hb dX5_run_5 rfl (lv_at hl 2 rfl) ?_
  refine lv_iconst (v := 0) hx hb dX5_run_6 (by decide) ?_
  refine lv_iconst (v := 2) hx hb dX5_run_7 (by decide) ?_
  have hPc := hP.sub (ws' := []) [] rfl
  have hDc := hD.sub (ws' := []) [] (by decide) rfl
  have hKc := hK.sub (tys' := []) [] rfl
  have hFc := va_free (wc := []) hD hS hA [] rfl
  refine va_calli (va_runS (As := [.int i1, .int 0, .int 2]) (rest := [.int 1, .ref h0]) ⟨hx, hb, hml, hown, hts⟩ (kx_X5_isIn_21 l dC dI H.size i1 i1_l i1_u) (cwS 3 hts gX5_run_X5_isIn rfl rfl rfl (by decide +kernel) ⟨Nat.le_of_ble_eq_true rfl, Nat.le_of_ble_eq_true rfl⟩) ⟨fun a U g mk q => by obtain ⟨q0, q1, qP, qK, qD⟩ := q; exact ⟨q0, q1, qP, va_K.moved (u := U) (U := U.calling g mk a) (Vm.Alike.refl U.vm) qK, qD⟩, fun U hU hW => ⟨rfl, by rw [hU], by rw [hU]; exact hPc, va_K.moved hW.alike hKc, hDc.weaken (fun _ _ _ _ => trivial)⟩⟩ rfl rfl hl.1 rfl (lv_room (Nat.le_of_ble_eq_true rfl)) dX5_run_8 ⟨Nat.le_of_ble_eq_true rfl, Nat.le_of_ble_eq_true rfl⟩) hS (fun q _ h => hFc q h) hFc (fun r9 u t H1 locs ht hvm hw hB hz1 hk1 hS => ?_)
  obtain rfl := hw
  obtain ⟨hP1, hK1, hD1⟩ := hB
  rw [ht] at hP1
  have hK1 := va_K.moved hvm.symm hK1
  obtain ⟨hP, hD⟩ := va_join (wr := [(h0, .inr (9, [.int 0, .ref z0, .ref z1, .ref z2, .int 0, .int 0, .int 0]))]) (w1 := []) hP hD [] [0] rfl rfl (by decide) (by decide) hk1 hFc hP1 hD1
  generalize H1 = H at hP hS ⊢
  have hP : va_P (dC, dI) vwCl [(h0, .inr (9, [.int 0, .ref z0, .ref z1, .ref z2, .int 0, .int 0, .int 0]))] H := hP
  have hD : va_D A [(h0, .inr (9, [.int 0, .ref z0, .ref z1, .ref z2, .int 0, .int 0, .int 0]))] := hD
  refine lv_if_eq (tgt := 24) hx hb dX5_run_11 (by decide) (fun c9 => absurd c9 (by decide)) (fun _ => ?_)
  refine lv_iload_n hx hb dX5_run_14 rfl (lv_at hl 3 rfl) ?_
  refine lv_iconst (v := 1) hx hb dX5_run_15 (by decide) ?_
  refine lv_bipush (v := 40) hx hb dX5_run_16 (by decide) ?_
  have hPc := hP.sub (ws' := []) [] rfl
  have hDc := hD.sub (ws' := []) [] (by decide) rfl
  have hKc := hK.sub (tys' := []) [] rfl
  have hFc := va_free (wc := []) hD hS hA [] rfl
  refine va_calli (va_runS (As := [.int i2, .int 1, .int 40]) (rest := [.int 1, .ref h0]) ⟨hx, hb, hml, hown, hts⟩ (kx_X5_isIn_26 l dC dI H.size i2 i2_l i2_u) (cwS 3 hts gX5_run_X5_isIn rfl rfl rfl (by decide +kernel) ⟨Nat.le_of_ble_eq_true rfl, Nat.le_of_ble_eq_true rfl⟩) ⟨fun a U g mk q => by obtain ⟨q0, q1, qP, qK, qD⟩ := q; exact ⟨q0, q1, qP, va_K.moved (u := U) (U := U.calling g mk a) (Vm.Alike.refl U.vm) qK, qD⟩, fun U hU hW => ⟨rfl, by rw [hU], by rw [hU]; exact hPc, va_K.moved hW.alike hKc, hDc.weaken (fun _ _ _ _ => trivial)⟩⟩ rfl rfl hl.1 rfl (lv_room (Nat.le_of_ble_eq_true rfl)) dX5_run_18 ⟨Nat.le_of_ble_eq_true rfl, Nat.le_of_ble_eq_true rfl⟩) hS (fun q _ h => hFc q h) hFc (fun r9 u t H1 locs ht hvm hw hB hz1 hk1 hS => ?_)
  obtain rfl := hw
  obtain ⟨hP1, hK1, hD1⟩ := hB
  rw [ht] at hP1
  have hK1 := va_K.moved hvm.symm hK1
  obtain ⟨hP, hD⟩ := va_join (wr := [(h0, .inr (9, [.int 0, .ref z0, .ref z1, .ref z2, .int 0, .int 0, .int 0]))]) (w1 := []) hP hD [] [0] rfl rfl (by decide) (by decide) hk1 hFc hP1 hD1
  generalize H1 = H at hP hS ⊢
  have hP : va_P (dC, dI) vwCl [(h0, .inr (9, [.int 0, .ref z0, .ref z1, .ref z2, .int 0, .int 0, .int 0]))] H := hP
  have hD : va_D A [(h0, .inr (9, [.int 0, .ref z0, .ref z1, .ref z2, .int 0, .int 0, .int 0]))] := hD
  refine lv_if_ne (tgt := 28) hx hb dX5_run_21 (by decide) (fun c9 => absurd (by decide) c9) (fun _ => ?_)
  refine lv_iconst (v := 1) hx hb dX5_run_24 (by decide) ?_
  refine lv_goto (tgt := 29) hx hb dX5_run_25 (by decide) ?_
  refine lv_iconst (v := 0) hx hb dX5_run_29 (by decide) ?_
  have hPc := hP.sub (ws' := [(h0, .inr (9, [.int 0, .ref z0, .ref z1, .ref z2, .int 0, .int 0, .int 0]))]) [0] rfl
  have hDc := hD.sub (ws' := [(h0, .inr (9, [.int 0, .ref z0, .ref z1, .ref z2, .int 0, .int 0, .int 0]))]) [0] (by decide) rfl
  have hKc := hK.sub (tys' := []) [] rfl
  have hFc := va_free (wc := [(h0, .inr (9, [.int 0, .ref z0, .ref z1, .ref z2, .int 0, .int 0, .int 0]))]) hD hS hA [0] rfl
  refine va_calli (va_runV (As := [.int 1, .int 1, .int 0]) (rest := []) ⟨hx, hb, hml, hown, hts⟩ (kx_X5_fails_2 l dC dI h0 z0 z1 z2 H.size) (cwV 3 hts gX5_run_X5_fails rfl rfl rfl (by decide +kernel) ⟨Nat.le_of_ble_eq_true rfl, Nat.le_of_ble_eq_true rfl⟩) ⟨fun a U g mk q => by obtain ⟨q0, q1, qP, qK, qD⟩ := q; exact ⟨q0, q1, qP, va_K.moved (u := U) (U := U.calling g mk a) (Vm.Alike.refl U.vm) qK, qD⟩, va_recv hKc hPc (ci := 9) (q0 := 0) rfl rfl, fun U hU hW => ⟨rfl, by rw [hU], by rw [hU]; exact hPc, va_K.moved hW.alike hKc, hDc.weaken (fun _ _ _ _ => trivial)⟩⟩ rfl rfl hl.1 rfl (lv_room (Nat.le_of_ble_eq_true rfl)) dX5_run_30 ⟨Nat.le_of_ble_eq_true rfl, Nat.le_of_ble_eq_true rfl⟩) hS (fun q _ h => hFc q h) hFc (fun r9 u t H1 locs ht hvm hw hB hz1 hk1 hS => ?_)
  obtain rfl := hw
  obtain ⟨hP1, hK1, hD1⟩ := hB
  rw [ht] at hP1
  have hK1 := va_K.moved hvm.symm hK1
  obtain ⟨hP, hD⟩ := va_join (wr := []) (w1 := [(h0, .inr (9, [.int 1, .ref z0, .ref z1, .ref z2, .int 0, .int 0, .int 0]))]) hP hD [0] [] rfl rfl (by decide) (by decide) hk1 hFc hP1 hD1
  generalize H1 = H at hP hS ⊢
  have hP : va_P (dC, dI) vwCl [(h0, .inr (9, [.int 1, .ref z0, .ref z1, .ref z2, .int 0, .int 0, .int 0]))] H := hP
  have hD : va_D A [(h0, .inr (9, [.int 1, .ref z0, .ref z1, .ref z2, .int 0, .int 0, .int 0]))] := hD
  refine lv_if_eq (tgt := 38) hx hb dX5_run_33 (by decide) (fun c9 => absurd c9 (by decide)) (fun _ => ?_)
  refine lv_iconst (v := 0) hx hb dX5_run_36 (by decide) ?_
  exact W.iret (v := 0) hx hb hr (fun t ht hW => ⟨⟨0, (), rfl, rfl, by rw [ht]; exact hP, va_K.moved hW.alike hK, hD⟩, hS.F ht⟩) hS.2.2 dX5_run_37
set_option maxHeartbeats 4000000 in
set_option maxRecDepth 100000 in
theorem kx_X3_pick_0 (l : Launch) (hst : l.stackTraces = false) (dC : Nat → ClassId) (dI : Nat → Nat → Nat) (ge5 gea gv5 gva gde gic gi0 : Nat) (h0 : Nat) (z0 : Nat) (z1 : Nat) (z2 : Nat) (z3 : Nat) (z4 : Nat) (z5 : Nat) (sz : Nat) (i0 : Int32) (i0_l : ((-2147483648) : Int) ≤ i0.toInt) (i0_u : i0.toInt ≤ ((-1) : Int)) (i1 : Int32) (i1_l : ((-2147483648) : Int) ≤ i1.toInt) (i1_u : i1.toInt ≤ (2147483647 : Int)) : vx_Met l yX3_pick wsX3_pick ({ frames := 7, cells := 1, slots := 6, locals := 140 }) (va_Pc [.ref h0, .int i0, .int i1] (fun U => U.heap.size = sz ∧ va_P (dC, dI) vwCl [(h0, .inr (7, [.ref z0, .ref z1, .ref z2, .ref z3, .ref z4, .ref z5, .int 0, .int 0, .int 0]))] U.heap ∧ va_K (dC, dI) vwCl [] U ∧ va_D (fun _ => True) [(h0, .inr (7, [.ref z0, .ref z1, .ref z2, .ref z3, .ref z4, .ref z5, .int 0, .int 0, .int 0]))] ∧ gv ge5 gea gv5 gva gde gic gi0 (va_A [(h0, .inr (7, [.ref z0, .ref z1, .ref z2, .ref z3, .ref z4, .ref z5, .int 0, .int 0, .int 0]))] sz) U U.heap)) (va_Qi (fun (_ : Int32) (_ : Unit) => False) (fun _ _ => True) (va_A [(h0, .inr (7, [.ref z0, .ref z1, .ref z2, .ref z3, .ref z4, .ref z5, .int 0, .int 0, .int 0]))] sz)) (vx_X (fun _ : Unit => True) (fun (E : String) (_ : Unit) (t : State) => E = "java/lang/IndexOutOfBoundsException" ∧ va_P (dC, dI) vwCl [(h0, .inr (7, [.ref z0, .ref z1, .ref z2, .ref z3, .ref z4, .ref z5, .int 0, .int 0, .int 0]))] t.heap ∧ va_K (dC, dI) vwCl [] t ∧ va_D (va_A [(h0, .inr (7, [.ref z0, .ref z1, .ref z2, .ref z3, .ref z4, .ref z5, .int 0, .int 0, .int 0]))] sz) [(h0, .inr (7, [.ref z0, .ref z1, .ref z2, .ref z3, .ref z4, .ref z5, .int 0, .int 0, .int 0]))]) (va_A [(h0, .inr (7, [.ref z0, .ref z1, .ref z2, .ref z3, .ref z4, .ref z5, .int 0, .int 0, .int 0]))] sz)) 1 6 (va_A [(h0, .inr (7, [.ref z0, .ref z1, .ref z2, .ref z3, .ref z4, .ref z5, .int 0, .int 0, .int 0]))] sz) := by
  refine vx_ofW (cc := cX3_pick) (maxL := 4) (ret := (some .int)) (by decide) rfl ?_
  intro p e s m args below meth c s₁ B hml ht9 hv
  obtain ⟨rfl, hsz, hP, hK, hD0, hG⟩ := hv
  have hx := B.exec
  have hb := B.bytes
  have hr := B.returns
  have hts := atoms_spec (ws := wsX3_pick) B.pre
  have hown : s.vm.findClass RX3 = some m.cls := findClass_of_methodNamed B.named
  have hlocks := B.notSynchronized
  subst hsz
  have hD := hD0.self (sz := s.heap.size)
  generalize hAe : va_A [(h0, .inr (7, [.ref z0, .ref z1, .ref z2, .ref z3, .ref z4, .ref z5, .int 0, .int 0, .int 0]))] s.heap.size = A at hD hG ⊢
  obtain ⟨⟨g_AO_Text, g_AO_String, g_AO_Object, g_nm_RX1_20, g_nm_RX0_17, g_nm_RX3_31, g_nm_RX2_44, g_nm_RL_121, g_nf_RL_13, g_nf_RL_47, g_ca_IO, g_ca_IA, g_ca_IS, g_ca_IntObj, g_ca_StrObj, g_de_RT, g_de_EX, g_de_TH, g_nc_IA_IO, g_nc_IS_IO, g_nc_IS_IA⟩, ⟨g_s3, g_s5, g_sa, g_x278, g_x280, g_x282, g_x284, g_x286, g_x180, g_x238, g_x250⟩, ⟨g_o5, g_c5, g_v5, g_t5, g_oa, g_ca, g_va, g_ta, g_zc, g_zd, g_td, g_zf, g_zU, g_zN, g_zh, g_zk, g_tk, g_oi, g_vi⟩⟩ := id hG
  have hA : ∀ q : Nat, s.heap.size ≤ q → A q := fun q h => by rw [← hAe]; exact Or.inr h
  have hS : va_S A s.heap s.heap [] := va_S.rf
  have hP : va_P (dC, dI) vwCl [(h0, .inr (7, [.ref z0, .ref z1, .ref z2, .ref z3, .ref z4, .ref z5, .int 0, .int 0, .int 0]))] s.heap := hP
  have hl := lv_entry ([.ref h0, .int i0, .int i1]) (n := 4) (Nat.le_of_ble_eq_true rfl)
  rw [lg_entry_eq]
  generalize (lg_sl ([.ref h0, .int i0, .int i1]) ++ List.replicate (4 - (lg_sl ([.ref h0, .int i0, .int i1])).length) Slot.unset).toArray = ls at hl ⊢
  have hl : lv_has ls 4 [(0, .ref h0), (1, .int i0), (2, .int i1)] := hl
  refine lv_iload_n hx hb dX3_pick_0 rfl (lv_at hl 1 rfl) ?_
  have hPc := hP.sub (ws' := []) [] rfl
  have hDc := hD.sub (ws' := []) [] (by decide) rfl
  have hKc := hK.sub (tys' := []) [] rfl
  have hFc := va_free (wc := []) hD hS hA [] rfl
  refine vx_callv (vx_runS (As := [.int i0]) (rest := []) ⟨hx, hb, hml, hown, hts⟩ (kx_X3_needRope_5 l hst dC dI ge5 gea gv5 gva gde gic gi0 s.heap.size i0 i0_l i0_u) (cwS 1 hts gX3_pick_X3_needRope rfl rfl rfl (by decide +kernel) ⟨Nat.le_of_ble_eq_true rfl, Nat.le_of_ble_eq_true rfl⟩) ⟨fun a U g mk q => by obtain ⟨q0, q1, qP, qK, qD, qG⟩ := q; exact ⟨q0, q1, qP, va_K.moved (u := U) (U := U.calling g mk a) (Vm.Alike.refl U.vm) qK, qD, gv.fb qG⟩, fun U hU hW => ⟨rfl, by rw [hU], by rw [hU]; exact hPc, va_K.moved hW.alike hKc, hDc.weaken (fun _ _ _ _ => trivial), gv.pass hW hU hS hFc hG⟩⟩ rfl rfl hl.1 rfl (lv_room (Nat.le_of_ble_eq_true rfl)) dX3_pick_1 ⟨Nat.le_of_ble_eq_true rfl, Nat.le_of_ble_eq_true rfl⟩) hS (fun q _ h => hFc q h) hFc (fun q _ h => hFc q h) (fun E ce q9 u t H1 locs ht hvm hpx hB hz1 hk1 hS hce hcv hcl => ?_) (fun u t H1 locs ht hvm hw hB hz1 hk1 hS => hw.elim)
  obtain ⟨rfl, hP1, hK1, hD1⟩ := hB
  rw [ht] at hP1
  have hK1 := va_K.moved hvm.symm hK1
  obtain ⟨hP, hD⟩ := va_join (wr := [(h0, .inr (7, [.ref z0, .ref z1, .ref z2, .ref z3, .ref z4, .ref z5, .int 0, .int 0, .int 0]))]) (w1 := []) hP hD [] [0] rfl rfl (by decide) (by decide) hk1 hFc hP1 hD1
  generalize H1 = H at hP hS hce ⊢
  have hP : va_P (dC, dI) vwCl [(h0, .inr (7, [.ref z0, .ref z1, .ref z2, .ref z3, .ref z4, .ref z5, .int 0, .int 0, .int 0]))] H := hP
  have hD : va_D A [(h0, .inr (7, [.ref z0, .ref z1, .ref z2, .ref z3, .ref z4, .ref z5, .int 0, .int 0, .int 0]))] := hD
  exact vx_out (fun x hx9 => (ht9 x hx9).elim) hlocks hce hcv hcl (fun t ht hW => ⟨(), trivial, ⟨rfl, by rw [ht]; exact hP, va_K.moved hW hK, hD⟩, hS.F ht⟩) hS.2.2 (by omega) (by omega)
set_option maxHeartbeats 4000000 in
set_option maxRecDepth 100000 in
theorem kx_L_pick_0 (l : Launch) (hst : l.stackTraces = false) (dC : Nat → ClassId) (dI : Nat → Nat → Nat) (ge5 gea gv5 gva gde gic gi0 : Nat) (h0 : Nat) (z0 : Nat) (z1 : Nat) (z2 : Nat) (z3 : Nat) (z4 : Nat) (z5 : Nat) (z6 : Nat) (sz : Nat) (i0 : Int32) (i0_l : ((-2147483648) : Int) ≤ i0.toInt) (i0_u : i0.toInt ≤ ((-1) : Int)) (i1 : Int32) (i1_l : ((-2147483648) : Int) ≤ i1.toInt) (i1_u : i1.toInt ≤ (2147483647 : Int)) : Met l yL_pick wsL_pick ({ frames := 8, cells := 1, slots := 6, locals := 163 }) (va_Pc [.ref h0, .int i0, .int i1, .ref z0] (fun U => U.heap.size = sz ∧ va_P (dC, dI) vwCl [(h0, .inr (7, [.ref z1, .ref z2, .ref z3, .ref z4, .ref z5, .ref z6, .int 0, .int 0, .int 0]))] U.heap ∧ va_K (dC, dI) vwCl [] U ∧ va_D (fun _ => True) [(h0, .inr (7, [.ref z1, .ref z2, .ref z3, .ref z4, .ref z5, .ref z6, .int 0, .int 0, .int 0]))] ∧ gv ge5 gea gv5 gva gde gic gi0 (va_A [(h0, .inr (7, [.ref z1, .ref z2, .ref z3, .ref z4, .ref z5, .ref z6, .int 0, .int 0, .int 0]))] sz) U U.heap)) (va_Qi (fun (r : Int32) (_ : Unit) => r = 1) (fun (_ : Unit) (t : State) => va_P (dC, dI) vwCl [(h0, .inr (7, [.ref z1, .ref z2, .ref z3, .ref z4, .ref z5, .ref z6, .int 0, .int 0, .int 0]))] t.heap ∧ va_K (dC, dI) vwCl [] t ∧ va_D (va_A [(h0, .inr (7, [.ref z1, .ref z2, .ref z3, .ref z4, .ref z5, .ref z6, .int 0, .int 0, .int 0]))] sz) [(h0, .inr (7, [.ref z1, .ref z2, .ref z3, .ref z4, .ref z5, .ref z6, .int 0, .int 0, .int 0]))]) (va_A [(h0, .inr (7, [.ref z1, .ref z2, .ref z3, .ref z4, .ref z5, .ref z6, .int 0, .int 0, .int 0]))] sz)) 1 6 (va_A [(h0, .inr (7, [.ref z1, .ref z2, .ref z3, .ref z4, .ref z5, .ref z6, .int 0, .int 0, .int 0]))] sz) := by
  refine kz_ofWH (cc := cL_pick) (maxL := 5) (ret := (some .int)) (hh := [(0, 11, 14, 19)]) (by decide) rfl ?_
  intro p e s m args below meth c s₁ B hml hv
  obtain ⟨rfl, hsz, hP, hK, hD0, hG⟩ := hv
  have hx := B.exec
  have hb := B.bytes
  have hr := B.returns
  have hts := atoms_spec (ws := wsL_pick) B.pre
  have hown : s.vm.findClass RL = some m.cls := findClass_of_methodNamed B.named
  have htab := vx_table (x := yL_pick) B (hts (.codeWith yL_pick cL_pick 5 (some .int) [(0, 11, 14, 19)]) (by decide +kernel))
  have hlocks := B.notSynchronized
  subst hsz
  have hD := hD0.self (sz := s.heap.size)
  generalize hAe : va_A [(h0, .inr (7, [.ref z1, .ref z2, .ref z3, .ref z4, .ref z5, .ref z6, .int 0, .int 0, .int 0]))] s.heap.size = A at hD hG ⊢
  obtain ⟨⟨g_AO_Text, g_AO_String, g_AO_Object, g_nm_RX1_20, g_nm_RX0_17, g_nm_RX3_31, g_nm_RX2_44, g_nm_RL_121, g_nf_RL_13, g_nf_RL_47, g_ca_IO, g_ca_IA, g_ca_IS, g_ca_IntObj, g_ca_StrObj, g_de_RT, g_de_EX, g_de_TH, g_nc_IA_IO, g_nc_IS_IO, g_nc_IS_IA⟩, ⟨g_s3, g_s5, g_sa, g_x278, g_x280, g_x282, g_x284, g_x286, g_x180, g_x238, g_x250⟩, ⟨g_o5, g_c5, g_v5, g_t5, g_oa, g_ca, g_va, g_ta, g_zc, g_zd, g_td, g_zf, g_zU, g_zN, g_zh, g_zk, g_tk, g_oi, g_vi⟩⟩ := id hG
  have hA : ∀ q : Nat, s.heap.size ≤ q → A q := fun q h => by rw [← hAe]; exact Or.inr h
  have hS : va_S A s.heap s.heap [] := va_S.rf
  have hP : va_P (dC, dI) vwCl [(h0, .inr (7, [.ref z1, .ref z2, .ref z3, .ref z4, .ref z5, .ref z6, .int 0, .int 0, .int 0]))] s.heap := hP
  have hl := lv_entry ([.ref h0, .int i0, .int i1, .ref z0]) (n := 5) (Nat.le_of_ble_eq_true rfl)
  rw [lg_entry_eq]
  generalize (lg_sl ([.ref h0, .int i0, .int i1, .ref z0]) ++ List.replicate (5 - (lg_sl ([.ref h0, .int i0, .int i1, .ref z0])).length) Slot.unset).toArray = ls at hl ⊢
  have hl : lv_has ls 5 [(0, .ref h0), (1, .int i0), (2, .int i1), (3, .ref z0)] := hl
  refine lv_aload_n hx hb dL_pick_0 rfl (lv_at hl 3 rfl) ?_
  refine lv_aload_n hx hb dL_pick_1 rfl (lv_at hl 0 rfl) ?_
  refine lv_iload_n hx hb dL_pick_2 rfl (lv_at hl 1 rfl) ?_
  refine lv_iload_n hx hb dL_pick_3 rfl (lv_at hl 2 rfl) ?_
  have hPc := hP.sub (ws' := [(h0, .inr (7, [.ref z1, .ref z2, .ref z3, .ref z4, .ref z5, .ref z6, .int 0, .int 0, .int 0]))]) [0] rfl
  have hDc := hD.sub (ws' := [(h0, .inr (7, [.ref z1, .ref z2, .ref z3, .ref z4, .ref z5, .ref z6, .int 0, .int 0, .int 0]))]) [0] (by decide) rfl
  have hKc := hK.sub (tys' := []) [] rfl
  have hFc := va_free (wc := [(h0, .inr (7, [.ref z1, .ref z2, .ref z3, .ref z4, .ref z5, .ref z6, .int 0, .int 0, .int 0]))]) hD hS hA [0] rfl
  refine vx_calli (vx_runV (As := [.int i0, .int i1]) (rest := [.ref z0]) ⟨hx, hb, hml, hown, hts⟩ (kx_X3_pick_0 l hst dC dI ge5 gea gv5 gva gde gic gi0 h0 z1 z2 z3 z4 z5 z6 s.heap.size i0 i0_l i0_u i1 i1_l i1_u) (cwV 2 hts gL_pick_X3_pick rfl rfl rfl (by decide +kernel) ⟨Nat.le_of_ble_eq_true rfl, Nat.le_of_ble_eq_true rfl⟩) ⟨fun a U g mk q => by obtain ⟨q0, q1, qP, qK, qD, qG⟩ := q; exact ⟨q0, q1, qP, va_K.moved (u := U) (U := U.calling g mk a) (Vm.Alike.refl U.vm) qK, qD, gv.fb qG⟩, va_recv hKc hPc (ci := 7) (q0 := 0) rfl rfl, fun U hU hW => ⟨rfl, by rw [hU], by rw [hU]; exact hPc, va_K.moved hW.alike hKc, hDc.weaken (fun _ _ _ _ => trivial), gv.pass hW hU hS hFc hG⟩⟩ rfl rfl hl.1 rfl (lv_room (Nat.le_of_ble_eq_true rfl)) dL_pick_4 ⟨Nat.le_of_ble_eq_true rfl, Nat.le_of_ble_eq_true rfl⟩) hS (fun q _ h => hFc q h) hFc (fun q _ h => hFc q h) (fun E ce q9 u t H1 locs ht hvm hpx hB hz1 hk1 hS hce hcv hcl => ?_) (fun r9 u t H1 locs ht hvm hw hB hz1 hk1 hS => hw.elim)
  obtain ⟨rfl, hP1, hK1, hD1⟩ := hB
  rw [ht] at hP1
  have hK1 := va_K.moved hvm.symm hK1
  obtain ⟨hP, hD⟩ := va_join (wr := []) (w1 := [(h0, .inr (7, [.ref z1, .ref z2, .ref z3, .ref z4, .ref z5, .ref z6, .int 0, .int 0, .int 0]))]) hP hD [0] [] rfl rfl (by decide) (by decide) hk1 hFc hP1 hD1
  generalize H1 = H at hP hS hce ⊢
  have hP : va_P (dC, dI) vwCl [(h0, .inr (7, [.ref z1, .ref z2, .ref z3, .ref z4, .ref z5, .ref z6, .int 0, .int 0, .int 0]))] H := hP
  have hD : va_D A [(h0, .inr (7, [.ref z1, .ref z2, .ref z3, .ref z4, .ref z5, .ref z6, .int 0, .int 0, .int 0]))] := hD
  refine vx_catch (own := RL) (name := "java/lang/IndexOutOfBoundsException") hown (tableOf []) ⟨0, 11, 14, 19⟩ (tableOf []) (by rw [htab]; rfl) (fun z hz => nomatch hz) (by decide +kernel) (by decide) (hts (.classLink RL 19 "java/lang/IndexOutOfBoundsException") (by decide +kernel)) (va_Nw.use rfl g_ca_IO) hce hcv hcl ?_
  refine W.eq (g2 := F0 m 14 ls [.ref q9]) rfl ?_
  refine lv_astore (lv' := [(4, .ref q9), (0, .ref h0), (1, .int i0), (2, .int i1), (3, .ref z0)]) hx hb dL_pick_14 hl (by decide) rfl (fun ls hl => ?_)
  refine lv_iconst (v := 1) hx hb dL_pick_16 (by decide) ?_
  exact W.iret (v := 1) hx hb hr (fun t ht hW => ⟨⟨1, (), rfl, rfl, by rw [ht]; exact hP, va_K.moved hW.alike hK, hD⟩, hS.F ht⟩) hS.2.2 dL_pick_17
set_option maxHeartbeats 4000000 in
set_option maxRecDepth 100000 in
theorem kx_X5_pick_0 (l : Launch) (dC : Nat → ClassId) (dI : Nat → Nat → Nat) (h0 : Nat) (z0 : Nat) (z1 : Nat) (z2 : Nat) (sz : Nat) (i0 : Int32) (i0_l : ((-2147483648) : Int) ≤ i0.toInt) (i0_u : i0.toInt ≤ ((-1) : Int)) (i1 : Int32) (i1_l : ((-2147483648) : Int) ≤ i1.toInt) (i1_u : i1.toInt ≤ (2147483647 : Int)) : Met l yX5_pick wsX5_pick ({ frames := 2, cells := 0, slots := 0, locals := 42 }) (va_Pc [.ref h0, .int i0, .int i1] (fun U => U.heap.size = sz ∧ va_P (dC, dI) vwCl [(h0, .inr (9, [.int 0, .ref z0, .ref z1, .ref z2, .int 0, .int 0, .int 0]))] U.heap ∧ va_K (dC, dI) vwCl [] U ∧ va_D (fun _ => True) [(h0, .inr (9, [.int 0, .ref z0, .ref z1, .ref z2, .int 0, .int 0, .int 0]))])) (va_Qi (fun (r : Int32) (_ : Unit) => r = 0) (fun (_ : Unit) (t : State) => va_P (dC, dI) vwCl [(h0, .inr (9, [.int 1, .ref z0, .ref z1, .ref z2, .int 0, .int 0, .int 0]))] t.heap ∧ va_K (dC, dI) vwCl [] t ∧ va_D (va_A [(h0, .inr (9, [.int 0, .ref z0, .ref z1, .ref z2, .int 0, .int 0, .int 0]))] sz) [(h0, .inr (9, [.int 1, .ref z0, .ref z1, .ref z2, .int 0, .int 0, .int 0]))]) (va_A [(h0, .inr (9, [.int 0, .ref z0, .ref z1, .ref z2, .int 0, .int 0, .int 0]))] sz)) 0 0 (va_A [(h0, .inr (9, [.int 0, .ref z0, .ref z1, .ref z2, .int 0, .int 0, .int 0]))] sz) := by
  refine Met.ofW (cc := cX5_pick) (maxL := 4) (ret := (some .int)) (by decide) rfl ?_
  intro p e s m args below meth c s₁ B hml hv
  obtain ⟨rfl, hsz, hP, hK, hD0⟩ := hv
  have hx := B.exec
  have hb := B.bytes
  have hr := B.returns
  have hts := atoms_spec (ws := wsX5_pick) B.pre
  have hown : s.vm.findClass RX5 = some m.cls := findClass_of_methodNamed B.named
  have hlocks := B.notSynchronized
  subst hsz
  have hD := hD0.self (sz := s.heap.size)
  generalize hAe : va_A [(h0, .inr (9, [.int 0, .ref z0, .ref z1, .ref z2, .int 0, .int 0, .int 0]))] s.heap.size = A at hD ⊢
  have hA : ∀ q : Nat, s.heap.size ≤ q → A q := fun q h => by rw [← hAe]; exact Or.inr h
  have hS : va_S A s.heap s.heap [] := va_S.rf
  have hP : va_P (dC, dI) vwCl [(h0, .inr (9, [.int 0, .ref z0, .ref z1, .ref z2, .int 0, .int 0, .int 0]))] s.heap := hP
  have hl := lv_entry ([.ref h0, .int i0, .int i1]) (n := 4) (Nat.le_of_ble_eq_true rfl)
  rw [lg_entry_eq]
  generalize (lg_sl ([.ref h0, .int i0, .int i1]) ++ List.replicate (4 - (lg_sl ([.ref h0, .int i0, .int i1])).length) Slot.unset).toArray = ls at hl ⊢
  have hl : lv_has ls 4 [(0, .ref h0), (1, .int i0), (2, .int i1)] := hl
  refine lv_aload_n hx hb dX5_pick_0 rfl (lv_at hl 0 rfl) ?_
  refine lv_iload_n hx hb dX5_pick_1 rfl (lv_at hl 1 rfl) ?_
  have hPc := hP.sub (ws' := []) [] rfl
  have hDc := hD.sub (ws' := []) [] (by decide) rfl
  have hKc := hK.sub (tys' := []) [] rfl
  have hFc := va_free (wc := []) hD hS hA [] rfl
  refine va_calli (va_runS (As := [.int i0]) (rest := [.ref h0]) ⟨hx, hb, hml, hown, hts⟩ (kx_X5_isNo_0 l dC dI s.heap.size i0 i0_l i0_u) (cwS 1 hts gX5_pick_X5_isNo rfl rfl rfl (by decide +kernel) ⟨Nat.le_of_ble_eq_true rfl, Nat.le_of_ble_eq_true rfl⟩) ⟨fun a U g mk q => by obtain ⟨q0, q1, qP, qK, qD⟩ := q; exact ⟨q0, q1, qP, va_K.moved (u := U) (U := U.calling g mk a) (Vm.Alike.refl U.vm) qK, qD⟩, fun U hU hW => ⟨rfl, by rw [hU], by rw [hU]; exact hPc, va_K.moved hW.alike hKc, hDc.weaken (fun _ _ _ _ => trivial)⟩⟩ rfl rfl hl.1 rfl (lv_room (Nat.le_of_ble_eq_true rfl)) dX5_pick_2 ⟨Nat.le_of_ble_eq_true rfl, Nat.le_of_ble_eq_true rfl⟩) hS (fun q _ h => hFc q h) hFc (fun r9 u t H1 locs ht hvm hw hB hz1 hk1 hS => ?_)
  obtain rfl := hw
  obtain ⟨hP1, hK1, hD1⟩ := hB
  rw [ht] at hP1
  have hK1 := va_K.moved hvm.symm hK1
  obtain ⟨hP, hD⟩ := va_join (wr := [(h0, .inr (9, [.int 0, .ref z0, .ref z1, .ref z2, .int 0, .int 0, .int 0]))]) (w1 := []) hP hD [] [0] rfl rfl (by decide) (by decide) hk1 hFc hP1 hD1
  generalize H1 = H at hP hS ⊢
  have hP : va_P (dC, dI) vwCl [(h0, .inr (9, [.int 0, .ref z0, .ref z1, .ref z2, .int 0, .int 0, .int 0]))] H := hP
  have hD : va_D A [(h0, .inr (9, [.int 0, .ref z0, .ref z1, .ref z2, .int 0, .int 0, .int 0]))] := hD
  refine lv_iconst (v := 0) hx hb dX5_pick_5 (by decide) ?_
  refine lv_iconst (v := 0) hx hb dX5_pick_6 (by decide) ?_
  have hPc := hP.sub (ws' := [(h0, .inr (9, [.int 0, .ref z0, .ref z1, .ref z2, .int 0, .int 0, .int 0]))]) [0] rfl
  have hDc := hD.sub (ws' := [(h0, .inr (9, [.int 0, .ref z0, .ref z1, .ref z2, .int 0, .int 0, .int 0]))]) [0] (by decide) rfl
  have hKc := hK.sub (tys' := []) [] rfl
  have hFc := va_free (wc := [(h0, .inr (9, [.int 0, .ref z0, .ref z1, .ref z2, .int 0, .int 0, .int 0]))]) hD hS hA [0] rfl
  refine va_calli (va_runV (As := [.int 1, .int 0, .int 0]) (rest := []) ⟨hx, hb, hml, hown, hts⟩ (kx_X5_fails_0 l dC dI h0 z0 z1 z2 H.size) (cwV 3 hts gX5_pick_X5_fails rfl rfl rfl (by decide +kernel) ⟨Nat.le_of_ble_eq_true rfl, Nat.le_of_ble_eq_true rfl⟩) ⟨fun a U g mk q => by obtain ⟨q0, q1, qP, qK, qD⟩ := q; exact ⟨q0, q1, qP, va_K.moved (u := U) (U := U.calling g mk a) (Vm.Alike.refl U.vm) qK, qD⟩, va_recv hKc hPc (ci := 9) (q0 := 0) rfl rfl, fun U hU hW => ⟨rfl, by rw [hU], by rw [hU]; exact hPc, va_K.moved hW.alike hKc, hDc.weaken (fun _ _ _ _ => trivial)⟩⟩ rfl rfl hl.1 rfl (lv_room (Nat.le_of_ble_eq_true rfl)) dX5_pick_7 ⟨Nat.le_of_ble_eq_true rfl, Nat.le_of_ble_eq_true rfl⟩) hS (fun q _ h => hFc q h) hFc (fun r9 u t H1 locs ht hvm hw hB hz1 hk1 hS => ?_)
  obtain rfl := hw
  obtain ⟨hP1, hK1, hD1⟩ := hB
  rw [ht] at hP1
  have hK1 := va_K.moved hvm.symm hK1
  obtain ⟨hP, hD⟩ := va_join (wr := []) (w1 := [(h0, .inr (9, [.int 1, .ref z0, .ref z1, .ref z2, .int 0, .int 0, .int 0]))]) hP hD [0] [] rfl rfl (by decide) (by decide) hk1 hFc hP1 hD1
  generalize H1 = H at hP hS ⊢
  have hP : va_P (dC, dI) vwCl [(h0, .inr (9, [.int 1, .ref z0, .ref z1, .ref z2, .int 0, .int 0, .int 0]))] H := hP
  have hD : va_D A [(h0, .inr (9, [.int 1, .ref z0, .ref z1, .ref z2, .int 0, .int 0, .int 0]))] := hD
  refine lv_if_eq (tgt := 15) hx hb dX5_pick_10 (by decide) (fun c9 => absurd c9 (by decide)) (fun _ => ?_)
  refine lv_iconst (v := 0) hx hb dX5_pick_13 (by decide) ?_
  exact W.iret (v := 0) hx hb hr (fun t ht hW => ⟨⟨0, (), rfl, rfl, by rw [ht]; exact hP, va_K.moved hW.alike hK, hD⟩, hS.F ht⟩) hS.2.2 dX5_pick_14
set_option maxHeartbeats 4000000 in
set_option maxRecDepth 100000 in
theorem kx_X3_pick_1 (l : Launch) (hst : l.stackTraces = false) (dC : Nat → ClassId) (dI : Nat → Nat → Nat) (ge5 gea gv5 gva gde gic gi0 : Nat) (h0 : Nat) (z0 : Nat) (z1 : Nat) (z2 : Nat) (z3 : Nat) (z4 : Nat) (z5 : Nat) (sz : Nat) (i0 : Int32) (i0_l : (4 : Int) ≤ i0.toInt) (i0_u : i0.toInt ≤ (2147483647 : Int)) (i1 : Int32) (i1_l : ((-2147483648) : Int) ≤ i1.toInt) (i1_u : i1.toInt ≤ (2147483647 : Int)) : vx_Met l yX3_pick wsX3_pick ({ frames := 7, cells := 1, slots := 6, locals := 140 }) (va_Pc [.ref h0, .int i0, .int i1] (fun U => U.heap.size = sz ∧ va_P (dC, dI) vwCl [(h0, .inr (7, [.ref z0, .ref z1, .ref z2, .ref z3, .ref z4, .ref z5, .int 0, .int 0, .int 0]))] U.heap ∧ va_K (dC, dI) vwCl [] U ∧ va_D (fun _ => True) [(h0, .inr (7, [.ref z0, .ref z1, .ref z2, .ref z3, .ref z4, .ref z5, .int 0, .int 0, .int 0]))] ∧ gv ge5 gea gv5 gva gde gic gi0 (va_A [(h0, .inr (7, [.ref z0, .ref z1, .ref z2, .ref z3, .ref z4, .ref z5, .int 0, .int 0, .int 0]))] sz) U U.heap)) (va_Qi (fun (_ : Int32) (_ : Unit) => False) (fun _ _ => True) (va_A [(h0, .inr (7, [.ref z0, .ref z1, .ref z2, .ref z3, .ref z4, .ref z5, .int 0, .int 0, .int 0]))] sz)) (vx_X (fun _ : Unit => True) (fun (E : String) (_ : Unit) (t : State) => E = "java/lang/IndexOutOfBoundsException" ∧ va_P (dC, dI) vwCl [(h0, .inr (7, [.ref z0, .ref z1, .ref z2, .ref z3, .ref z4, .ref z5, .int 0, .int 0, .int 0]))] t.heap ∧ va_K (dC, dI) vwCl [] t ∧ va_D (va_A [(h0, .inr (7, [.ref z0, .ref z1, .ref z2, .ref z3, .ref z4, .ref z5, .int 0, .int 0, .int 0]))] sz) [(h0, .inr (7, [.ref z0, .ref z1, .ref z2, .ref z3, .ref z4, .ref z5, .int 0, .int 0, .int 0]))]) (va_A [(h0, .inr (7, [.ref z0, .ref z1, .ref z2, .ref z3, .ref z4, .ref z5, .int 0, .int 0, .int 0]))] sz)) 1 6 (va_A [(h0, .inr (7, [.ref z0, .ref z1, .ref z2, .ref z3, .ref z4, .ref z5, .int 0, .int 0, .int 0]))] sz) := by
  refine vx_ofW (cc := cX3_pick) (maxL := 4) (ret := (some .int)) (by decide) rfl ?_
  intro p e s m args below meth c s₁ B hml ht9 hv
  obtain ⟨rfl, hsz, hP, hK, hD0, hG⟩ := hv
  have hx := B.exec
  have hb := B.bytes
  have hr := B.returns
  have hts := atoms_spec (ws := wsX3_pick) B.pre
  have hown : s.vm.findClass RX3 = some m.cls := findClass_of_methodNamed B.named
  have hlocks := B.notSynchronized
  subst hsz
  have hD := hD0.self (sz := s.heap.size)
  generalize hAe : va_A [(h0, .inr (7, [.ref z0, .ref z1, .ref z2, .ref z3, .ref z4, .ref z5, .int 0, .int 0, .int 0]))] s.heap.size = A at hD hG ⊢
  obtain ⟨⟨g_AO_Text, g_AO_String, g_AO_Object, g_nm_RX1_20, g_nm_RX0_17, g_nm_RX3_31, g_nm_RX2_44, g_nm_RL_121, g_nf_RL_13, g_nf_RL_47, g_ca_IO, g_ca_IA, g_ca_IS, g_ca_IntObj, g_ca_StrObj, g_de_RT, g_de_EX, g_de_TH, g_nc_IA_IO, g_nc_IS_IO, g_nc_IS_IA⟩, ⟨g_s3, g_s5, g_sa, g_x278, g_x280, g_x282, g_x284, g_x286, g_x180, g_x238, g_x250⟩, ⟨g_o5, g_c5, g_v5, g_t5, g_oa, g_ca, g_va, g_ta, g_zc, g_zd, g_td, g_zf, g_zU, g_zN, g_zh, g_zk, g_tk, g_oi, g_vi⟩⟩ := id hG
  have hA : ∀ q : Nat, s.heap.size ≤ q → A q := fun q h => by rw [← hAe]; exact Or.inr h
  have hS : va_S A s.heap s.heap [] := va_S.rf
  have hP : va_P (dC, dI) vwCl [(h0, .inr (7, [.ref z0, .ref z1, .ref z2, .ref z3, .ref z4, .ref z5, .int 0, .int 0, .int 0]))] s.heap := hP
  have hl := lv_entry ([.ref h0, .int i0, .int i1]) (n := 4) (Nat.le_of_ble_eq_true rfl)
  rw [lg_entry_eq]
  generalize (lg_sl ([.ref h0, .int i0, .int i1]) ++ List.replicate (4 - (lg_sl ([.ref h0, .int i0, .int i1])).length) Slot.unset).toArray = ls at hl ⊢
  have hl : lv_has ls 4 [(0, .ref h0), (1, .int i0), (2, .int i1)] := hl
  refine lv_iload_n hx hb dX3_pick_0 rfl (lv_at hl 1 rfl) ?_
  have hPc := hP.sub (ws' := []) [] rfl
  have hDc := hD.sub (ws' := []) [] (by decide) rfl
  have hKc := hK.sub (tys' := []) [] rfl
  have hFc := va_free (wc := []) hD hS hA [] rfl
  refine vx_callv (vx_runS (As := [.int i0]) (rest := []) ⟨hx, hb, hml, hown, hts⟩ (kx_X3_needRope_6 l hst dC dI ge5 gea gv5 gva gde gic gi0 s.heap.size i0 i0_l i0_u) (cwS 1 hts gX3_pick_X3_needRope rfl rfl rfl (by decide +kernel) ⟨Nat.le_of_ble_eq_true rfl, Nat.le_of_ble_eq_true rfl⟩) ⟨fun a U g mk q => by obtain ⟨q0, q1, qP, qK, qD, qG⟩ := q; exact ⟨q0, q1, qP, va_K.moved (u := U) (U := U.calling g mk a) (Vm.Alike.refl U.vm) qK, qD, gv.fb qG⟩, fun U hU hW => ⟨rfl, by rw [hU], by rw [hU]; exact hPc, va_K.moved hW.alike hKc, hDc.weaken (fun _ _ _ _ => trivial), gv.pass hW hU hS hFc hG⟩⟩ rfl rfl hl.1 rfl (lv_room (Nat.le_of_ble_eq_true rfl)) dX3_pick_1 ⟨Nat.le_of_ble_eq_true rfl, Nat.le_of_ble_eq_true rfl⟩) hS (fun q _ h => hFc q h) hFc (fun q _ h => hFc q h) (fun E ce q9 u t H1 locs ht hvm hpx hB hz1 hk1 hS hce hcv hcl => ?_) (fun u t H1 locs ht hvm hw hB hz1 hk1 hS => hw.elim)
  obtain ⟨rfl, hP1, hK1, hD1⟩ := hB
  rw [ht] at hP1
  have hK1 := va_K.moved hvm.symm hK1
  obtain ⟨hP, hD⟩ := va_join (wr := [(h0, .inr (7, [.ref z0, .ref z1, .ref z2, .ref z3, .ref z4, .ref z5, .int 0, .int 0, .int 0]))]) (w1 := []) hP hD [] [0] rfl rfl (by decide) (by decide) hk1 hFc hP1 hD1
  generalize H1 = H at hP hS hce ⊢
  have hP : va_P (dC, dI) vwCl [(h0, .inr (7, [.ref z0, .ref z1, .ref z2, .ref z3, .ref z4, .ref z5, .int 0, .int 0, .int 0]))] H := hP
  have hD : va_D A [(h0, .inr (7, [.ref z0, .ref z1, .ref z2, .ref z3, .ref z4, .ref z5, .int 0, .int 0, .int 0]))] := hD
  exact vx_out (fun x hx9 => (ht9 x hx9).elim) hlocks hce hcv hcl (fun t ht hW => ⟨(), trivial, ⟨rfl, by rw [ht]; exact hP, va_K.moved hW hK, hD⟩, hS.F ht⟩) hS.2.2 (by omega) (by omega)
