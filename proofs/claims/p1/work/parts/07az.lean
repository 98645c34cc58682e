set_option maxHeartbeats 4000000 in
set_option maxRecDepth 100000 in
theorem kx_L_pick_1 (l : Launch) (hst : l.stackTraces = false) (dC : Nat → ClassId) (dI : Nat → Nat → Nat) (ge5 gea gv5 gva gde gic gi0 : Nat) (h0 : Nat) (z0 : Nat) (z1 : Nat) (z2 : Nat) (z3 : Nat) (z4 : Nat) (z5 : Nat) (z6 : Nat) (sz : Nat) (i0 : Int32) (i0_l : (4 : Int) ≤ i0.toInt) (i0_u : i0.toInt ≤ (2147483647 : Int)) (i1 : Int32) (i1_l : ((-2147483648) : Int) ≤ i1.toInt) (i1_u : i1.toInt ≤ (2147483647 : Int)) : Met l yL_pick wsL_pick ({ frames := 8, cells := 1, slots := 6, locals := 163 }) (va_Pc [.ref h0, .int i0, .int i1, .ref z0] (fun U => U.heap.size = sz ∧ va_P (dC, dI) vwCl [(h0, .inr (7, [.ref z1, .ref z2, .ref z3, .ref z4, .ref z5, .ref z6, .int 0, .int 0, .int 0]))] U.heap ∧ va_K (dC, dI) vwCl [] U ∧ va_D (fun _ => True) [(h0, .inr (7, [.ref z1, .ref z2, .ref z3, .ref z4, .ref z5, .ref z6, .int 0, .int 0, .int 0]))] ∧ gv ge5 gea gv5 gva gde gic gi0 (va_A [(h0, .inr (7, [.ref z1, .ref z2, .ref z3, .ref z4, .ref z5, .ref z6, .int 0, .int 0, .int 0]))] sz) U U.heap)) (va_Qi (fun (r : Int32) (_ : Unit) => r = 1) (fun (_ : Unit) (t : State) => va_P (dC, dI) vwCl [(h0, .inr (7, [.ref z1, .ref z2, .ref z3, .ref z4, .ref z5, .ref z6, .int 0, .int 0, .int 0]))] t.heap ∧ va_K (dC, dI) vwCl [] t ∧ va_D (va_A [(h0, .inr (7, [.ref z1, .ref z2, .ref z3, .ref z4, .ref z5, .ref z6, .int 0, .int 0, .int 0]))] sz) [(h0, .inr (7, [.ref z1, .ref z2, .ref z3, .ref z4, .ref z5, .ref z6, .int 0, .int 0, .int 0]))]) (va_A [(h0, .inr (7, [.ref z1, .ref z2, .ref z3, .ref z4, .ref z5, .ref z6, .int 0, .int 0, .int 0]))] sz)) 1 6 (va_A [(h0, .inr (7, [.ref z1, .ref z2, .ref z3, .ref z4, .ref z5, .ref z6, .int 0, .int 0, .int 0]))] sz) := by
  refine kz_ofWH (cc := cL_pick) (maxL := 5) (ret := (some .int)) (hh := [(0, 11, 14, 19)]) (by decide) rfl ?_
  intro p e s m args below meth c s₁ B hml hv
  obtain ⟨rfl, hsz, hP, hK, hD0, hG⟩ := hv
  have hx := B.exec
  have hb := B.bytes
  have hr := B.returns
  have hts := atoms_spec (ws := wsL_pick) B.pre
  have hown : s.vm.findClass RL = some m.cls := findClass_of_methodNamed B.named
  have htab := vx_table (x := yL_pick) B (hts (.codeWith yL_pick cL_pick 5 (some .int) [(0, 11, 14, 19)]) (by decide +kernel))
  have hlocks := B.notSynchronized
  subst hsz
  have hD := hD0.self (sz := s.heap.size)
  generalize hAe : va_A [(h0, .inr (7, [.ref z1, .ref z2, .ref z3, .ref z4, .ref z5, .ref z6, .int 0, .int 0, .int 0]))] s.heap.size = A at hD hG ⊢
  obtain ⟨⟨g_AO_Text, g_AO_String, g_AO_Object, g_nm_RX1_20, g_nm_RX0_17, g_nm_RX3_31, g_nm_RX2_44, g_nm_RL_121, g_nf_RL_13, g_nf_RL_47, g_ca_IO, g_ca_IA, g_ca_IS, g_ca_IntObj, g_ca_StrObj, g_de_RT, g_de_EX, g_de_TH, g_nc_IA_IO, g_nc_IS_IO, g_nc_IS_IA⟩, ⟨g_s3, g_s5, g_sa, g_x278, g_x280, g_x282, g_x284, g_x286, g_x180, g_x238, g_x250⟩, ⟨g_o5, g_c5, g_v5, g_t5, g_oa, g_ca, g_va, g_ta, g_zc, g_zd, g_td, g_zf, g_zU, g_zN, g_zh, g_zk, g_tk, g_oi, g_vi⟩⟩ := id hG
  have hA : ∀ q : Nat, s.heap.size ≤ q → A q := fun q h => by rw [← hAe]; exact Or.inr h
  have hS : va_S A s.heap s.heap [] := va_S.rf
  have hP : va_P (dC, dI) vwCl [(h0, .inr (7, [.ref z1, .ref z2, .ref z3, .ref z4, .ref z5, .ref z6, .int 0, .int 0, .int 0]))] s.heap := hP
  have hl := lv_entry ([.ref h0, .int i0, .int i1, .ref z0]) (n := 5) (Nat.le_of_ble_eq_true rfl)
  rw [lg_entry_eq]
  generalize (lg_sl ([.ref h0, .int i0, .int i1, .ref z0]) ++ List.replicate (5 - (lg_sl ([.ref h0, .int i0, .int i1, .ref z0])).length) Slot.unset).toArray = ls at hl ⊢
  have hl : lv_has ls 5 [(0, .ref h0), (1, .int i0), (2, .int i1), (3, .ref z0)] := hl
  refine lv_aload_n hx hb dL_pick_0 rfl (lv_at hl 3 rfl) ?_
  refine lv_aload_n hx hb dL_pick_1 rfl (lv_at hl 0 rfl) ?_
  refine lv_iload_n hx hb dL_pick_2 rfl (lv_at hl 1 rfl) ?_
  refine lv_iload_n hx hb dL_pick_3 rfl (lv_at hl 2 rfl) ?_
  have hPc := hP.sub (ws' := [(h0, .inr (7, [.ref z1, .ref z2, .ref z3, .ref z4, .ref z5, .ref z6, .int 0, .int 0, .int 0]))]) [0] rfl
  have hDc := hD.sub (ws' := [(h0, .inr (7, [.ref z1, .ref z2, .ref z3, .ref z4, .ref z5, .ref z6, .int 0, .int 0, .int 0]))]) [0] (by decide) rfl
  have hKc := hK.sub (tys' := []) [] rfl
  have hFc := va_free (wc := [(h0, .inr (7, [.ref z1, .ref z2, .ref z3, .ref z4, .ref z5, .ref z6, .int 0, .int 0, .int 0]))]) hD hS hA [0] rfl
  refine vx_calli (vx_runV (As := [.int i0, .int i1]) (rest := [.ref z0]) ⟨hx, hb, hml, hown, hts⟩ (kx_X3_pick_1 l hst dC dI ge5 gea gv5 gva gde gic gi0 h0 z1 z2 z3 z4 z5 z6 s.heap.size i0 i0_l i0_u i1 i1_l i1_u) (cwV 2 hts gL_pick_X3_pick rfl rfl rfl (by decide +kernel) ⟨Nat.le_of_ble_eq_true rfl, Nat.le_of_ble_eq_true rfl⟩) ⟨fun a U g mk q => by obtain ⟨q0, q1, qP, qK, qD, qG⟩ := q; exact ⟨q0, q1, qP, va_K.moved (u := U) (U := U.calling g mk a) (Vm.Alike.refl U.vm) qK, qD, gv.fb qG⟩, va_recv hKc hPc (ci := 7) (q0 := 0) rfl rfl, fun U hU hW => ⟨rfl, by rw [hU], by rw [hU]; exact hPc, va_K.moved hW.alike hKc, hDc.weaken (fun _ _ _ _ => trivial), gv.pass hW hU hS hFc hG⟩⟩ rfl rfl hl.1 rfl (lv_room (Nat.le_of_ble_eq_true rfl)) dL_pick_4 ⟨Nat.le_of_ble_eq_true rfl, Nat.le_of_ble_eq_true rfl⟩) hS (fun q _ h => hFc q h) hFc (fun q _ h => hFc q h) (fun E ce q9 u t H1 locs ht hvm hpx hB hz1 hk1 hS hce hcv hcl => ?_) (fun r9 u t H1 locs ht hvm hw hB hz1 hk1 hS => hw.elim)
  obtain ⟨rfl, hP1, hK1, hD1⟩ := hB
  rw [ht] at hP1
  have hK1 := va_K.moved hvm.symm hK1
  obtain ⟨hP, hD⟩ := va_join (wr := []) (w1 := [(h0, .inr (7, [.ref z1, .ref z2, .ref z3, .ref z4, .ref z5, .ref z6, .int 0, .int 0, .int 0]))]) hP hD [0] [] rfl rfl (by decide) (by decide) hk1 hFc hP1 hD1
  generalize H1 = H at hP hS hce ⊢
  have hP : va_P (dC, dI) vwCl [(h0, .inr (7, [.ref z1, .ref z2, .ref z3, .ref z4, .ref z5, .ref z6, .int 0, .int 0, .int 0]))] H := hP
  have hD : va_D A [(h0, .inr (7, [.ref z1, .ref z2, .ref z3, .ref z4, .ref z5, .ref z6, .int 0, .int 0, .int 0]))] := hD
  refine vx_catch (own := RL) (name := "java/lang/IndexOutOfBoundsException") hown (tableOf []) ⟨0, 11, 14, 19⟩ (tableOf []) (by rw [htab]; rfl) (fun z hz => nomatch hz) (by decide +kernel) (by decide) (hts (.classLink RL 19 "java/lang/IndexOutOfBoundsException") (by decide +kernel)) (va_Nw.use rfl g_ca_IO) hce hcv hcl ?_
  refine W.eq (g2 := F0 m 14 ls [.ref q9]) rfl ?_
  refine lv_astore (lv' := [(4, .ref q9), (0, .ref h0), (1, .int i0), (2, .int i1), (3, .ref z0)]) hx hb dL_pick_14 hl (by decide) rfl (fun ls hl => ?_)
  refine lv_iconst (v := 1) hx hb dL_pick_16 (by decide) ?_
  exact W.iret (v := 1) hx hb hr (fun t ht hW => ⟨⟨1, (), rfl, rfl, by rw [ht]; exact hP, va_K.moved hW.alike hK, hD⟩, hS.F ht⟩) hS.2.2 dL_pick_17
set_option maxHeartbeats 4000000 in
set_option maxRecDepth 100000 in
theorem kx_X5_pick_1 (l : Launch) (dC : Nat → ClassId) (dI : Nat → Nat → Nat) (h0 : Nat) (z0 : Nat) (z1 : Nat) (z2 : Nat) (sz : Nat) (i0 : Int32) (i0_l : (4 : Int) ≤ i0.toInt) (i0_u : i0.toInt ≤ (2147483647 : Int)) (i1 : Int32) (i1_l : ((-2147483648) : Int) ≤ i1.toInt) (i1_u : i1.toInt ≤ (2147483647 : Int)) : Met l yX5_pick wsX5_pick ({ frames := 2, cells := 0, slots := 0, locals := 42 }) (va_Pc [.ref h0, .int i0, .int i1] (fun U => U.heap.size = sz ∧ va_P (dC, dI) vwCl [(h0, .inr (9, [.int 0, .ref z0, .ref z1, .ref z2, .int 0, .int 0, .int 0]))] U.heap ∧ va_K (dC, dI) vwCl [] U ∧ va_D (fun _ => True) [(h0, .inr (9, [.int 0, .ref z0, .ref z1, .ref z2, .int 0, .int 0, .int 0]))])) (va_Qi (fun (r : Int32) (_ : Unit) => r = 0) (fun (_ : Unit) (t : State) => va_P (dC, dI) vwCl [(h0, .inr (9, [.int 1, .ref z0, .ref z1, .ref z2, .int 0, .int 0, .int 0]))] t.heap ∧ va_K (dC, dI) vwCl [] t ∧ va_D (va_A [(h0, .inr (9, [.int 0, .ref z0, .ref z1, .ref z2, .int 0, .int 0, .int 0]))] sz) [(h0, .inr (9, [.int 1, .ref z0, .ref z1, .ref z2, .int 0, .int 0, .int 0]))]) (va_A [(h0, .inr (9, [.int 0, .ref z0, .ref z1, .ref z2, .int 0, .int 0, .int 0]))] sz)) 0 0 (va_A [(h0, .inr (9, [.int 0, .ref z0, .ref z1, .ref z2, .int 0, .int 0, .int 0]))] sz) := by
  refine Met.ofW (cc := cX5_pick) (maxL := 4) (ret := (some .int)) (by decide) rfl ?_
  intro p e s m args below meth c s₁ B hml hv
  obtain ⟨rfl, hsz, hP, hK, hD0⟩ := hv
  have hx := B.exec
  have hb := B.bytes
  have hr := B.returns
  have hts := atoms_spec (ws := wsX5_pick) B.pre
  have hown : s.vm.findClass RX5 = some m.cls := findClass_of_methodNamed B.named
  have hlocks := B.notSynchronized
  subst hsz
  have hD := hD0.self (sz := s.heap.size)
  generalize hAe : va_A [(h0, .inr (9, [.int 0, .ref z0, .ref z1, .ref z2, .int 0, .int 0, .int 0]))] s.heap.size = A at hD ⊢
  have hA : ∀ q : Nat, s.heap.size ≤ q → A q := fun q h => by rw [← hAe]; exact Or.inr h
  have hS : va_S A s.heap s.heap [] := va_S.rf
  have hP : va_P (dC, dI) vwCl [(h0, .inr (9, [.int 0, .ref z0, .ref z1, .ref z2, .int 0, .int 0, .int 0]))] s.heap := hP
  have hl := lv_entry ([.ref h0, .int i0, .int i1]) (n := 4) (Nat.le_of_ble_eq_true rfl)
  rw [lg_entry_eq]
  generalize (lg_sl ([.ref h0, .int i0, .int i1]) ++ List.replicate (4 - (lg_sl ([.ref h0, .int i0, .int i1])).length) Slot.unset).toArray = ls at hl ⊢
  have hl : lv_has ls 4 [(0, .ref h0), (1, .int i0), (2, .int i1)] := hl
  refine lv_aload_n hx hb dX5_pick_0 rfl (lv_at hl 0 rfl) ?_
  refine lv_iload_n hx hb dX5_pick_1 rfl (lv_at hl 1 rfl) ?_
  have hPc := hP.sub (ws' := []) [] rfl
  have hDc := hD.sub (ws' := []) [] (by decide) rfl
  have hKc := hK.sub (tys' := []) [] rfl
  have hFc := va_free (wc := []) hD hS hA [] rfl
  refine va_calli (va_runS (As := [.int i0]) (rest := [.ref h0]) ⟨hx, hb, hml, hown, hts⟩ (kx_X5_isNo_2 l dC dI s.heap.size i0 i0_l i0_u) (cwS 1 hts gX5_pick_X5_isNo rfl rfl rfl (by decide +kernel) ⟨Nat.le_of_ble_eq_true rfl, Nat.le_of_ble_eq_true rfl⟩) ⟨fun a U g mk q => by obtain ⟨q0, q1, qP, qK, qD⟩ := q; exact ⟨q0, q1, qP, va_K.moved (u := U) (U := U.calling g mk a) (Vm.Alike.refl U.vm) qK, qD⟩, fun U hU hW => ⟨rfl, by rw [hU], by rw [hU]; exact hPc, va_K.moved hW.alike hKc, hDc.weaken (fun _ _ _ _ => trivial)⟩⟩ rfl rfl hl.1 rfl (lv_room (Nat.le_of_ble_eq_true rfl)) dX5_pick_2 ⟨Nat.le_of_ble_eq_true rfl, Nat.le_of_ble_eq_true rfl⟩) hS (fun q _ h => hFc q h) hFc (fun r9 u t H1 locs ht hvm hw hB hz1 hk1 hS => ?_)
  obtain rfl := hw
  obtain ⟨hP1, hK1, hD1⟩ := hB
  rw [ht] at hP1
  have hK1 := va_K.moved hvm.symm hK1
  obtain ⟨hP, hD⟩ := va_join (wr := [(h0, .inr (9, [.int 0, .ref z0, .ref z1, .ref z2, .int 0, .int 0, .int 0]))]) (w1 := []) hP hD [] [0] rfl rfl (by decide) (by decide) hk1 hFc hP1 hD1
  generalize H1 = H at hP hS ⊢
  have hP : va_P (dC, dI) vwCl [(h0, .inr (9, [.int 0, .ref z0, .ref z1, .ref z2, .int 0, .int 0, .int 0]))] H := hP
  have hD : va_D A [(h0, .inr (9, [.int 0, .ref z0, .ref z1, .ref z2, .int 0, .int 0, .int 0]))] := hD
  refine lv_iconst (v := 0) hx hb dX5_pick_5 (by decide) ?_
  refine lv_iconst (v := 0) hx hb dX5_pick_6 (by decide) ?_
  have hPc := hP.sub (ws' := [(h0, .inr (9, [.int 0, .ref z0, .ref z1, .ref z2, .int 0, .int 0, .int 0]))]) [0] rfl
  have hDc := hD.sub (ws' := [(h0, .inr (9, [.int 0, .ref z0, .ref z1, .ref z2, .int 0, .int 0, .int 0]))]) [0] (by decide) rfl
  have hKc := hK.sub (tys' := []) [] rfl
  have hFc := va_free (wc := [(h0, .inr (9, [.int 0, .ref z0, .ref z1, .ref z2, .int 0, .int 0, .int 0]))]) hD hS hA [0] rfl
  refine va_calli (va_runV (As := [.int 1, .int 0, .int 0]) (rest := []) ⟨hx, hb, hml, hown, hts⟩ (kx_X5_fails_0 l dC dI h0 z0 z1 z2 H.size) (cwV 3 hts gX5_pick_X5_fails rfl rfl rfl (by decide +kernel) ⟨Nat.le_of_ble_eq_true rfl, Nat.le_of_ble_eq_true rfl⟩) ⟨fun a U g mk q => by obtain ⟨q0, q1, qP, qK, qD⟩ := q; exact ⟨q0, q1, qP, va_K.moved (u := U) (U := U.calling g mk a) (Vm.Alike.refl U.vm) qK, qD⟩, va_recv hKc hPc (ci := 9) (q0 := 0) rfl rfl, fun U hU hW => ⟨rfl, by rw [hU], by rw [hU]; exact hPc, va_K.moved hW.alike hKc, hDc.weaken (fun _ _ _ _ => trivial)⟩⟩ rfl rfl hl.1 rfl (lv_room (Nat.le_of_ble_eq_true rfl)) dX5_pick_7 ⟨Nat.le_of_ble_eq_true rfl, Nat.le_of_ble_eq_true rfl⟩) hS (fun q _ h => hFc q h) hFc (fun r9 u t H1 locs ht hvm hw hB hz1 hk1 hS => ?_)
  obtain rfl := hw
  obtain ⟨hP1, hK1, hD1⟩ := hB
  rw [ht] at hP1
  have hK1 := va_K.moved hvm.symm hK1
  obtain ⟨hP, hD⟩ := va_join (wr := []) (w1 := [(h0, .inr (9, [.int 1, .ref z0, .ref z1, .ref z2, .int 0, .int 0, .int 0]))]) hP hD [0] [] rfl rfl (by decide) (by decide) hk1 hFc hP1 hD1
  generalize H1 = H at hP hS ⊢
  have hP : va_P (dC, dI) vwCl [(h0, .inr (9, [.int 1, .ref z0, .ref z1, .ref z2, .int 0, .int 0, .int 0]))] H := hP
  have hD : va_D A [(h0, .inr (9, [.int 1, .ref z0, .ref z1, .ref z2, .int 0, .int 0, .int 0]))] := hD
  refine lv_if_eq (tgt := 15) hx hb dX5_pick_10 (by decide) (fun c9 => absurd c9 (by decide)) (fun _ => ?_)
  refine lv_iconst (v := 0) hx hb dX5_pick_13 (by decide) ?_
  exact W.iret (v := 0) hx hb hr (fun t ht hW => ⟨⟨0, (), rfl, rfl, by rw [ht]; exact hP, va_K.moved hW.alike hK, hD⟩, hS.F ht⟩) hS.2.2 dX5_pick_14
set_option maxHeartbeats 4000000 in
set_option maxRecDepth 100000 in
theorem kx_X1_spotOfNumber_0 (l : Launch) (dC : Nat → ClassId) (dI : Nat → Nat → Nat) (h0 : Nat) (z0 : Nat) (z1 : Nat) (z2 : Nat) (z3 : Nat) (z4 : Nat) (z5 : Nat) (z6 : Nat) (sz : Nat) (i0 : Int32) (i0_l : ((-2147483648) : Int) ≤ i0.toInt) (i0_u : i0.toInt ≤ ((-1) : Int)) : Met l yX1_spotOfNumber wsX1_spotOfNumber ({ frames := 0, cells := 0, slots := 0, locals := 0 }) (va_Pc [.ref h0, .ref z0, .int i0] (fun U => U.heap.size = sz ∧ va_P (dC, dI) vwCl [(h0, .inr (5, [.ref z1, .ref z2, .ref z3, .ref z4, .ref z5, .ref z6, .int 0, .int 0]))] U.heap ∧ va_K (dC, dI) vwCl [] U ∧ va_D (fun _ => True) [(h0, .inr (5, [.ref z1, .ref z2, .ref z3, .ref z4, .ref z5, .ref z6, .int 0, .int 0]))])) (va_Qi (fun (r : Int32) (_ : Unit) => r = (-1)) (fun (_ : Unit) (t : State) => va_P (dC, dI) vwCl [(h0, .inr (5, [.ref z1, .ref z2, .ref z3, .ref z4, .ref z5, .ref z6, .int 0, .int 0]))] t.heap ∧ va_K (dC, dI) vwCl [] t ∧ va_D (va_A [(h0, .inr (5, [.ref z1, .ref z2, .ref z3, .ref z4, .ref z5, .ref z6, .int 0, .int 0]))] sz) [(h0, .inr (5, [.ref z1, .ref z2, .ref z3, .ref z4, .ref z5, .ref z6, .int 0, .int 0]))]) (va_A [(h0, .inr (5, [.ref z1, .ref z2, .ref z3, .ref z4, .ref z5, .ref z6, .int 0, .int 0]))] sz)) 0 0 (va_A [(h0, .inr (5, [.ref z1, .ref z2, .ref z3, .ref z4, .ref z5, .ref z6, .int 0, .int 0]))] sz) := by
  refine Met.ofW (cc := cX1_spotOfNumber) (maxL := 5) (ret := (some .int)) (by decide) rfl ?_
  intro p e s m args below meth c s₁ B hml hv
  obtain ⟨rfl, hsz, hP, hK, hD0⟩ := hv
  have hx := B.exec
  have hb := B.bytes
  have hr := B.returns
  have hts := atoms_spec (ws := wsX1_spotOfNumber) B.pre
  have hown : s.vm.findClass RX1 = some m.cls := findClass_of_methodNamed B.named
  have hlocks := B.notSynchronized
  subst hsz
  have hD := hD0.self (sz := s.heap.size)
  generalize hAe : va_A [(h0, .inr (5, [.ref z1, .ref z2, .ref z3, .ref z4, .ref z5, .ref z6, .int 0, .int 0]))] s.heap.size = A at hD ⊢
  have hA : ∀ q : Nat, s.heap.size ≤ q → A q := fun q h => by rw [← hAe]; exact Or.inr h
  have hS : va_S A s.heap s.heap [] := va_S.rf
  have hP : va_P (dC, dI) vwCl [(h0, .inr (5, [.ref z1, .ref z2, .ref z3, .ref z4, .ref z5, .ref z6, .int 0, .int 0]))] s.heap := hP
  have hl := lv_entry ([.ref h0, .ref z0, .int i0]) (n := 5) (Nat.le_of_ble_eq_true rfl)
  rw [lg_entry_eq]
  generalize (lg_sl ([.ref h0, .ref z0, .int i0]) ++ List.replicate (5 - (lg_sl ([.ref h0, .ref z0, .int i0])).length) Slot.unset).toArray = ls at hl ⊢
  have hl : lv_has ls 5 [(0, .ref h0), (1, .ref z0), (2, .int i0)] := hl
  refine lv_iload_n hx hb dX1_spotOfNumber_0 rfl (lv_at hl 2 rfl) ?_
  refine lv_if_lt (tgt := 15) hx hb dX1_spotOfNumber_1 (by decide) (fun _ => ?_) (fun c9 => absurd (Int32.lt_iff_toInt_lt.mpr (by rw [show (0 : Int32).toInt = 0 from by decide]; omega)) c9)
  refine lv_iconst (v := (-1)) hx hb dX1_spotOfNumber_15 (by decide) ?_
  exact W.iret (v := (-1)) hx hb hr (fun t ht hW => ⟨⟨(-1), (), rfl, rfl, by rw [ht]; exact hP, va_K.moved hW.alike hK, hD⟩, hS.F ht⟩) hS.2.2 dX1_spotOfNumber_16
set_option maxHeartbeats 4000000 in
set_option maxRecDepth 100000 in
theorem kx_X3_pick_2 (l : Launch) (dC : Nat → ClassId) (dI : Nat → Nat → Nat) (h0 : Nat) (h1 : Nat) (h2 : Nat) (z0 : Nat) (z1 : Nat) (z2 : Nat) (z3 : Nat) (z4 : Nat) (z5 : Nat) (z6 : Nat) (z7 : Nat) (z8 : Nat) (z9 : Nat) (z10 : Nat) (z11 : Nat) (z12 : Nat) (z13 : Nat) (k0 : ClassId) (sz : Nat) (i0 : Int32) (i0_l : ((-2147483648) : Int) ≤ i0.toInt) (i0_u : i0.toInt ≤ ((-1) : Int)) : Met l yX3_pick wsX3_pick ({ frames := 1, cells := 0, slots := 0, locals := 24 }) (va_Pc [.ref h0, .int 0, .int i0] (fun U => U.heap.size = sz ∧ va_P (dC, dI) vwCl [(h0, .inr (7, [.ref h1, .ref h2, .ref z0, .ref z1, .ref z2, .ref z3, .int 0, .int 0, .int 0])), (h1, .inl (k0, 4, .inr (.inr (.inr (.inr (va_up (va_up (va_up (va_up (fun _ => none) 0 (some z4)) 1 (some z5)) 2 (some z6)) 3 (some z7))))))), (h2, .inr (5, [.ref z8, .ref z9, .ref z10, .ref z11, .ref z12, .ref z13, .int 0, .int 0]))] U.heap ∧ va_K (dC, dI) vwCl [(k0, .object "Rewriterope$Text")] U ∧ va_D (fun _ => True) [(h0, .inr (7, [.ref h1, .ref h2, .ref z0, .ref z1, .ref z2, .ref z3, .int 0, .int 0, .int 0])), (h1, .inl (k0, 4, .inr (.inr (.inr (.inr (va_up (va_up (va_up (va_up (fun _ => none) 0 (some z4)) 1 (some z5)) 2 (some z6)) 3 (some z7))))))), (h2, .inr (5, [.ref z8, .ref z9, .ref z10, .ref z11, .ref z12, .ref z13, .int 0, .int 0]))])) (va_Qi (fun (r : Int32) (_ : Unit) => r = (-9)) (fun (_ : Unit) (t : State) => va_P (dC, dI) vwCl [(h0, .inr (7, [.ref h1, .ref h2, .ref z0, .ref z1, .ref z2, .ref z3, .int 1, .int 0, .int 0])), (h1, .inl (k0, 4, .inr (.inr (.inr (.inr (va_up (va_up (va_up (va_up (fun _ => none) 0 (some z4)) 1 (some z5)) 2 (some z6)) 3 (some z7))))))), (h2, .inr (5, [.ref z8, .ref z9, .ref z10, .ref z11, .ref z12, .ref z13, .int 0, .int 0]))] t.heap ∧ va_K (dC, dI) vwCl [(k0, .object "Rewriterope$Text")] t ∧ va_D (va_A [(h0, .inr (7, [.ref h1, .ref h2, .ref z0, .ref z1, .ref z2, .ref z3, .int 0, .int 0, .int 0])), (h1, .inl (k0, 4, .inr (.inr (.inr (.inr (va_up (va_up (va_up (va_up (fun _ => none) 0 (some z4)) 1 (some z5)) 2 (some z6)) 3 (some z7))))))), (h2, .inr (5, [.ref z8, .ref z9, .ref z10, .ref z11, .ref z12, .ref z13, .int 0, .int 0]))] sz) [(h0, .inr (7, [.ref h1, .ref h2, .ref z0, .ref z1, .ref z2, .ref z3, .int 1, .int 0, .int 0])), (h1, .inl (k0, 4, .inr (.inr (.inr (.inr (va_up (va_up (va_up (va_up (fun _ => none) 0 (some z4)) 1 (some z5)) 2 (some z6)) 3 (some z7))))))), (h2, .inr (5, [.ref z8, .ref z9, .ref z10, .ref z11, .ref z12, .ref z13, .int 0, .int 0]))]) (va_A [(h0, .inr (7, [.ref h1, .ref h2, .ref z0, .ref z1, .ref z2, .ref z3, .int 0, .int 0, .int 0])), (h1, .inl (k0, 4, .inr (.inr (.inr (.inr (va_up (va_up (va_up (va_up (fun _ => none) 0 (some z4)) 1 (some z5)) 2 (some z6)) 3 (some z7))))))), (h2, .inr (5, [.ref z8, .ref z9, .ref z10, .ref z11, .ref z12, .ref z13, .int 0, .int 0]))] sz)) 0 0 (va_A [(h0, .inr (7, [.ref h1, .ref h2, .ref z0, .ref z1, .ref z2, .ref z3, .int 0, .int 0, .int 0])), (h1, .inl (k0, 4, .inr (.inr (.inr (.inr (va_up (va_up (va_up (va_up (fun _ => none) 0 (some z4)) 1 (some z5)) 2 (some z6)) 3 (some z7))))))), (h2, .inr (5, [.ref z8, .ref z9, .ref z10, .ref z11, .ref z12, .ref z13, .int 0, .int 0]))] sz) := by
  refine Met.ofW (cc := cX3_pick) (maxL := 4) (ret := (some .int)) (by decide) rfl ?_
  intro p e s m args below meth c s₁ B hml hv
  obtain ⟨rfl, hsz, hP, hK, hD0⟩ := hv
  have hx := B.exec
  have hb := B.bytes
  have hr := B.returns
  have hts := atoms_spec (ws := wsX3_pick) B.pre
  have hown : s.vm.findClass RX3 = some m.cls := findClass_of_methodNamed B.named
  have hlocks := B.notSynchronized
  subst hsz
  have hD := hD0.self (sz := s.heap.size)
  generalize hAe : va_A [(h0, .inr (7, [.ref h1, .ref h2, .ref z0, .ref z1, .ref z2, .ref z3, .int 0, .int 0, .int 0])), (h1, .inl (k0, 4, .inr (.inr (.inr (.inr (va_up (va_up (va_up (va_up (fun _ => none) 0 (some z4)) 1 (some z5)) 2 (some z6)) 3 (some z7))))))), (h2, .inr (5, [.ref z8, .ref z9, .ref z10, .ref z11, .ref z12, .ref z13, .int 0, .int 0]))] s.heap.size = A at hD ⊢
  have hA : ∀ q : Nat, s.heap.size ≤ q → A q := fun q h => by rw [← hAe]; exact Or.inr h
  have hS : va_S A s.heap s.heap [] := va_S.rf
  have hP : va_P (dC, dI) vwCl [(h0, .inr (7, [.ref h1, .ref h2, .ref z0, .ref z1, .ref z2, .ref z3, .int 0, .int 0, .int 0])), (h1, .inl (k0, 4, .inr (.inr (.inr (.inr (va_up (va_up (va_up (va_up (fun _ => none) 0 (some z4)) 1 (some z5)) 2 (some z6)) 3 (some z7))))))), (h2, .inr (5, [.ref z8, .ref z9, .ref z10, .ref z11, .ref z12, .ref z13, .int 0, .int 0]))] s.heap := hP
  have hl := lv_entry ([.ref h0, .int 0, .int i0]) (n := 4) (Nat.le_of_ble_eq_true rfl)
  rw [lg_entry_eq]
  generalize (lg_sl ([.ref h0, .int 0, .int i0]) ++ List.replicate (4 - (lg_sl ([.ref h0, .int 0, .int i0])).length) Slot.unset).toArray = ls at hl ⊢
  have hl : lv_has ls 4 [(0, .ref h0), (1, .int 0), (2, .int i0)] := hl
  refine lv_iload_n hx hb dX3_pick_0 rfl (lv_at hl 1 rfl) ?_
  have hPc := hP.sub (ws' := []) [] rfl
  have hDc := hD.sub (ws' := []) [] (by decide) rfl
  have hKc := hK.sub (tys' := []) [] rfl
  have hFc := va_free (wc := []) hD hS hA [] rfl
  refine va_callv (va_runS (As := [.int 0]) (rest := []) ⟨hx, hb, hml, hown, hts⟩ (kx_X3_needRope_0 l dC dI s.heap.size) (cwS 1 hts gX3_pick_X3_needRope rfl rfl rfl (by decide +kernel) ⟨Nat.le_of_ble_eq_true rfl, Nat.le_of_ble_eq_true rfl⟩) ⟨fun a U g mk q => by obtain ⟨q0, q1, qP, qK, qD⟩ := q; exact ⟨q0, q1, qP, va_K.moved (u := U) (U := U.calling g mk a) (Vm.Alike.refl U.vm) qK, qD⟩, fun U hU hW => ⟨rfl, by rw [hU], by rw [hU]; exact hPc, va_K.moved hW.alike hKc, hDc.weaken (fun _ _ _ _ => trivial)⟩⟩ rfl rfl hl.1 rfl (lv_room (Nat.le_of_ble_eq_true rfl)) dX3_pick_1 ⟨Nat.le_of_ble_eq_true rfl, Nat.le_of_ble_eq_true rfl⟩) hS (fun q _ h => hFc q h) hFc (fun u t H1 locs ht hvm hw hB hz1 hk1 hS => ?_)
  obtain ⟨hP1, hK1, hD1⟩ := hB
  rw [ht] at hP1
  have hK1 := va_K.moved hvm.symm hK1
  obtain ⟨hP, hD⟩ := va_join (wr := [(h0, .inr (7, [.ref h1, .ref h2, .ref z0, .ref z1, .ref z2, .ref z3, .int 0, .int 0, .int 0])), (h1, .inl (k0, 4, .inr (.inr (.inr (.inr (va_up (va_up (va_up (va_up (fun _ => none) 0 (some z4)) 1 (some z5)) 2 (some z6)) 3 (some z7))))))), (h2, .inr (5, [.ref z8, .ref z9, .ref z10, .ref z11, .ref z12, .ref z13, .int 0, .int 0]))]) (w1 := []) hP hD [] [0, 1, 2] rfl rfl (by decide) (by decide) hk1 hFc hP1 hD1
  generalize H1 = H at hP hS ⊢
  have hP : va_P (dC, dI) vwCl [(h0, .inr (7, [.ref h1, .ref h2, .ref z0, .ref z1, .ref z2, .ref z3, .int 0, .int 0, .int 0])), (h1, .inl (k0, 4, .inr (.inr (.inr (.inr (va_up (va_up (va_up (va_up (fun _ => none) 0 (some z4)) 1 (some z5)) 2 (some z6)) 3 (some z7))))))), (h2, .inr (5, [.ref z8, .ref z9, .ref z10, .ref z11, .ref z12, .ref z13, .int 0, .int 0]))] H := hP
  have hD : va_D A [(h0, .inr (7, [.ref h1, .ref h2, .ref z0, .ref z1, .ref z2, .ref z3, .int 0, .int 0, .int 0])), (h1, .inl (k0, 4, .inr (.inr (.inr (.inr (va_up (va_up (va_up (va_up (fun _ => none) 0 (some z4)) 1 (some z5)) 2 (some z6)) 3 (some z7))))))), (h2, .inr (5, [.ref z8, .ref z9, .ref z10, .ref z11, .ref z12, .ref z13, .int 0, .int 0]))] := hD
  refine lv_aload_n hx hb dX3_pick_4 rfl (lv_at hl 0 rfl) ?_
  refine va_get (D := (dC, dI)) (ci := 7) (v := .ref h2) (C := RX3) (T := TX3) (N := 9) hx hb hts (by decide +kernel) hown hK hP 0 rfl rfl 1 (by decide) (hts (.fieldLink RX3 18 "Rewriterope" "book" "LRewriterope$RuleBook;") (by decide +kernel)) (fun _ h9 => h9) rfl dX3_pick_5 ?_
  refine lv_aload_n hx hb dX3_pick_8 rfl (lv_at hl 0 rfl) ?_
  refine va_get (D := (dC, dI)) (ci := 7) (v := .ref h1) (C := RX3) (T := TX3) (N := 9) hx hb hts (by decide +kernel) hown hK hP 0 rfl rfl 0 (by decide) (hts (.fieldLink RX3 11 "Rewriterope" "ropes" "[LRewriterope$Text;") (by decide +kernel)) (fun _ h9 => h9) rfl dX3_pick_9 ?_
  refine lv_iload_n hx hb dX3_pick_12 rfl (lv_at hl 1 rfl) ?_
  refine va_aldq (D := (dC, dI)) hx hb hK hP 1 0 rfl rfl (by unfold vp_in; decide) dX3_pick_13 ?_
  refine W.eq (g2 := F0 m 14 ls [.ref z4, .ref h2]) rfl ?_
  refine lv_iload_n hx hb dX3_pick_14 rfl (lv_at hl 2 rfl) ?_
  have hPc := hP.sub (ws' := [(h2, .inr (5, [.ref z8, .ref z9, .ref z10, .ref z11, .ref z12, .ref z13, .int 0, .int 0]))]) [2] rfl
  have hDc := hD.sub (ws' := [(h2, .inr (5, [.ref z8, .ref z9, .ref z10, .ref z11, .ref z12, .ref z13, .int 0, .int 0]))]) [2] (by decide) rfl
  have hKc := hK.sub (tys' := []) [] rfl
  have hFc := va_free (wc := [(h2, .inr (5, [.ref z8, .ref z9, .ref z10, .ref z11, .ref z12, .ref z13, .int 0, .int 0]))]) hD hS hA [2] rfl
  refine va_calli (va_runV (As := [.ref z4, .int i0]) (rest := []) ⟨hx, hb, hml, hown, hts⟩ (kx_X1_spotOfNumber_0 l dC dI h2 z4 z8 z9 z10 z11 z12 z13 H.size i0 i0_l i0_u) (cwV 2 hts gX3_pick_X1_spotOfNumber rfl rfl rfl (by decide +kernel) ⟨Nat.le_of_ble_eq_true rfl, Nat.le_of_ble_eq_true rfl⟩) ⟨fun a U g mk q => by obtain ⟨q0, q1, qP, qK, qD⟩ := q; exact ⟨q0, q1, qP, va_K.moved (u := U) (U := U.calling g mk a) (Vm.Alike.refl U.vm) qK, qD⟩, va_recv hKc hPc (ci := 5) (q0 := 0) rfl rfl, fun U hU hW => ⟨rfl, by rw [hU], by rw [hU]; exact hPc, va_K.moved hW.alike hKc, hDc.weaken (fun _ _ _ _ => trivial)⟩⟩ rfl rfl hl.1 rfl (lv_room (Nat.le_of_ble_eq_true rfl)) dX3_pick_15 ⟨Nat.le_of_ble_eq_true rfl, Nat.le_of_ble_eq_true rfl⟩) hS (fun q _ h => hFc q h) hFc (fun r9 u t H1 locs ht hvm hw hB hz1 hk1 hS => ?_)
  obtain rfl := hw
  obtain ⟨hP1, hK1, hD1⟩ := hB
  rw [ht] at hP1
  have hK1 := va_K.moved hvm.symm hK1
  obtain ⟨hP, hD⟩ := va_join (wr := [(h0, .inr (7, [.ref h1, .ref h2, .ref z0, .ref z1, .ref z2, .ref z3, .int 0, .int 0, .int 0])), (h1, .inl (k0, 4, .inr (.inr (.inr (.inr (va_up (va_up (va_up (va_up (fun _ => none) 0 (some z4)) 1 (some z5)) 2 (some z6)) 3 (some z7)))))))]) (w1 := [(h2, .inr (5, [.ref z8, .ref z9, .ref z10, .ref z11, .ref z12, .ref z13, .int 0, .int 0]))]) hP hD [2] [0, 1] rfl rfl (by decide) (by decide) hk1 hFc hP1 hD1
  generalize H1 = H at hP hS ⊢
  have hP : va_P (dC, dI) vwCl [(h0, .inr (7, [.ref h1, .ref h2, .ref z0, .ref z1, .ref z2, .ref z3, .int 0, .int 0, .int 0])), (h1, .inl (k0, 4, .inr (.inr (.inr (.inr (va_up (va_up (va_up (va_up (fun _ => none) 0 (some z4)) 1 (some z5)) 2 (some z6)) 3 (some z7))))))), (h2, .inr (5, [.ref z8, .ref z9, .ref z10, .ref z11, .ref z12, .ref z13, .int 0, .int 0]))] H := hP
  have hD : va_D A [(h0, .inr (7, [.ref h1, .ref h2, .ref z0, .ref z1, .ref z2, .ref z3, .int 0, .int 0, .int 0])), (h1, .inl (k0, 4, .inr (.inr (.inr (.inr (va_up (va_up (va_up (va_up (fun _ => none) 0 (some z4)) 1 (some z5)) 2 (some z6)) 3 (some z7))))))), (h2, .inr (5, [.ref z8, .ref z9, .ref z10, .ref z11, .ref z12, .ref z13, .int 0, .int 0]))] := hD
  refine lv_istore_n (lv' := [(3, .int (-1)), (0, .ref h0), (1, .int 0), (2, .int i0)]) hx hb dX3_pick_18 rfl hl (by decide) rfl (fun ls hl => ?_)
  refine lv_iload_n hx hb dX3_pick_19 rfl (lv_at hl 0 rfl) ?_
  refine lv_iconst (v := (-1)) hx hb dX3_pick_20 (by decide) ?_
  refine lv_icmp_ne (tgt := 29) hx hb dX3_pick_21 (by decide) (fun c9 => absurd (by decide) c9) (fun _ => ?_)
  refine lv_aload_n hx hb dX3_pick_24 rfl (lv_at hl 1 rfl) ?_
  have hPc := hP.sub (ws' := [(h0, .inr (7, [.ref h1, .ref h2, .ref z0, .ref z1, .ref z2, .ref z3, .int 0, .int 0, .int 0]))]) [0] rfl
  have hDc := hD.sub (ws' := [(h0, .inr (7, [.ref h1, .ref h2, .ref z0, .ref z1, .ref z2, .ref z3, .int 0, .int 0, .int 0]))]) [0] (by decide) rfl
  have hKc := hK.sub (tys' := []) [] rfl
  have hFc := va_free (wc := [(h0, .inr (7, [.ref h1, .ref h2, .ref z0, .ref z1, .ref z2, .ref z3, .int 0, .int 0, .int 0]))]) hD hS hA [0] rfl
  refine va_calli (va_runV (As := []) (rest := []) ⟨hx, hb, hml, hown, hts⟩ (kx_X3_refuse_0 l dC dI h0 h1 h2 z0 z1 z2 z3 H.size) (cwV 0 hts gX3_pick_X3_refuse rfl rfl rfl (by decide +kernel) ⟨Nat.le_of_ble_eq_true rfl, Nat.le_of_ble_eq_true rfl⟩) ⟨fun a U g mk q => by obtain ⟨q0, q1, qP, qK, qD⟩ := q; exact ⟨q0, q1, qP, va_K.moved (u := U) (U := U.calling g mk a) (Vm.Alike.refl U.vm) qK, qD⟩, va_recv hKc hPc (ci := 7) (q0 := 0) rfl rfl, fun U hU hW => ⟨rfl, by rw [hU], by rw [hU]; exact hPc, va_K.moved hW.alike hKc, hDc.weaken (fun _ _ _ _ => trivial)⟩⟩ rfl rfl hl.1 rfl (lv_room (Nat.le_of_ble_eq_true rfl)) dX3_pick_25 ⟨Nat.le_of_ble_eq_true rfl, Nat.le_of_ble_eq_true rfl⟩) hS (fun q _ h => hFc q h) hFc (fun r9 u t H1 locs ht hvm hw hB hz1 hk1 hS => ?_)
  obtain rfl := hw
  obtain ⟨hP1, hK1, hD1⟩ := hB
  rw [ht] at hP1
  have hK1 := va_K.moved hvm.symm hK1
  obtain ⟨hP, hD⟩ := va_join (wr := [(h1, .inl (k0, 4, .inr (.inr (.inr (.inr (va_up (va_up (va_up (va_up (fun _ => none) 0 (some z4)) 1 (some z5)) 2 (some z6)) 3 (some z7))))))), (h2, .inr (5, [.ref z8, .ref z9, .ref z10, .ref z11, .ref z12, .ref z13, .int 0, .int 0]))]) (w1 := [(h0, .inr (7, [.ref h1, .ref h2, .ref z0, .ref z1, .ref z2, .ref z3, .int 1, .int 0, .int 0]))]) hP hD [0] [1, 2] rfl rfl (by decide) (by decide) hk1 hFc hP1 hD1
  generalize H1 = H at hP hS ⊢
  have hP : va_P (dC, dI) vwCl [(h1, .inl (k0, 4, .inr (.inr (.inr (.inr (va_up (va_up (va_up (va_up (fun _ => none) 0 (some z4)) 1 (some z5)) 2 (some z6)) 3 (some z7))))))), (h2, .inr (5, [.ref z8, .ref z9, .ref z10, .ref z11, .ref z12, .ref z13, .int 0, .int 0])), (h0, .inr (7, [.ref h1, .ref h2, .ref z0, .ref z1, .ref z2, .ref z3, .int 1, .int 0, .int 0]))] H := hP
  have hD : va_D A [(h1, .inl (k0, 4, .inr (.inr (.inr (.inr (va_up (va_up (va_up (va_up (fun _ => none) 0 (some z4)) 1 (some z5)) 2 (some z6)) 3 (some z7))))))), (h2, .inr (5, [.ref z8, .ref z9, .ref z10, .ref z11, .ref z12, .ref z13, .int 0, .int 0])), (h0, .inr (7, [.ref h1, .ref h2, .ref z0, .ref z1, .ref z2, .ref z3, .int 1, .int 0, .int 0]))] := hD
  have hP := hP.sub (ws' := [(h0, .inr (7, [.ref h1, .ref h2, .ref z0, .ref z1, .ref z2, .ref z3, .int 1, .int 0, .int 0])), (h1, .inl (k0, 4, .inr (.inr (.inr (.inr (va_up (va_up (va_up (va_up (fun _ => none) 0 (some z4)) 1 (some z5)) 2 (some z6)) 3 (some z7))))))), (h2, .inr (5, [.ref z8, .ref z9, .ref z10, .ref z11, .ref z12, .ref z13, .int 0, .int 0]))]) [2, 0, 1] rfl
  have hD := hD.sub (ws' := [(h0, .inr (7, [.ref h1, .ref h2, .ref z0, .ref z1, .ref z2, .ref z3, .int 1, .int 0, .int 0])), (h1, .inl (k0, 4, .inr (.inr (.inr (.inr (va_up (va_up (va_up (va_up (fun _ => none) 0 (some z4)) 1 (some z5)) 2 (some z6)) 3 (some z7))))))), (h2, .inr (5, [.ref z8, .ref z9, .ref z10, .ref z11, .ref z12, .ref z13, .int 0, .int 0]))]) [2, 0, 1] (by decide) rfl
  exact W.iret (v := (-9)) hx hb hr (fun t ht hW => ⟨⟨(-9), (), rfl, rfl, by rw [ht]; exact hP, va_K.moved hW.alike hK, hD⟩, hS.F ht⟩) hS.2.2 dX3_pick_28
set_option maxHeartbeats 4000000 in
set_option maxRecDepth 100000 in
theorem kx_X3_pick_3 (l : Launch) (dC : Nat → ClassId) (dI : Nat → Nat → Nat) (h0 : Nat) (h1 : Nat) (h2 : Nat) (z0 : Nat) (z1 : Nat) (z2 : Nat) (z3 : Nat) (z4 : Nat) (z5 : Nat) (z6 : Nat) (z7 : Nat) (z8 : Nat) (z9 : Nat) (z10 : Nat) (z11 : Nat) (z12 : Nat) (z13 : Nat) (k0 : ClassId) (sz : Nat) (i0 : Int32) (i0_l : ((-2147483648) : Int) ≤ i0.toInt) (i0_u : i0.toInt ≤ ((-1) : Int)) : Met l yX3_pick wsX3_pick ({ frames := 1, cells := 0, slots := 0, locals := 24 }) (va_Pc [.ref h0, .int 1, .int i0] (fun U => U.heap.size = sz ∧ va_P (dC, dI) vwCl [(h0, .inr (7, [.ref h1, .ref h2, .ref z0, .ref z1, .ref z2, .ref z3, .int 0, .int 0, .int 0])), (h1, .inl (k0, 4, .inr (.inr (.inr (.inr (va_up (va_up (va_up (va_up (fun _ => none) 0 (some z4)) 1 (some z5)) 2 (some z6)) 3 (some z7))))))), (h2, .inr (5, [.ref z8, .ref z9, .ref z10, .ref z11, .ref z12, .ref z13, .int 0, .int 0]))] U.heap ∧ va_K (dC, dI) vwCl [(k0, .object "Rewriterope$Text")] U ∧ va_D (fun _ => True) [(h0, .inr (7, [.ref h1, .ref h2, .ref z0, .ref z1, .ref z2, .ref z3, .int 0, .int 0, .int 0])), (h1, .inl (k0, 4, .inr (.inr (.inr (.inr (va_up (va_up (va_up (va_up (fun _ => none) 0 (some z4)) 1 (some z5)) 2 (some z6)) 3 (some z7))))))), (h2, .inr (5, [.ref z8, .ref z9, .ref z10, .ref z11, .ref z12, .ref z13, .int 0, .int 0]))])) (va_Qi (fun (r : Int32) (_ : Unit) => r = (-9)) (fun (_ : Unit) (t : State) => va_P (dC, dI) vwCl [(h0, .inr (7, [.ref h1, .ref h2, .ref z0, .ref z1, .ref z2, .ref z3, .int 1, .int 0, .int 0])), (h1, .inl (k0, 4, .inr (.inr (.inr (.inr (va_up (va_up (va_up (va_up (fun _ => none) 0 (some z4)) 1 (some z5)) 2 (some z6)) 3 (some z7))))))), (h2, .inr (5, [.ref z8, .ref z9, .ref z10, .ref z11, .ref z12, .ref z13, .int 0, .int 0]))] t.heap ∧ va_K (dC, dI) vwCl [(k0, .object "Rewriterope$Text")] t ∧ va_D (va_A [(h0, .inr (7, [.ref h1, .ref h2, .ref z0, .ref z1, .ref z2, .ref z3, .int 0, .int 0, .int 0])), (h1, .inl (k0, 4, .inr (.inr (.inr (.inr (va_up (va_up (va_up (va_up (fun _ => none) 0 (some z4)) 1 (some z5)) 2 (some z6)) 3 (some z7))))))), (h2, .inr (5, [.ref z8, .ref z9, .ref z10, .ref z11, .ref z12, .ref z13, .int 0, .int 0]))] sz) [(h0, .inr (7, [.ref h1, .ref h2, .ref z0, .ref z1, .ref z2, .ref z3, .int 1, .int 0, .int 0])), (h1, .inl (k0, 4, .inr (.inr (.inr (.inr (va_up (va_up (va_up (va_up (fun _ => none) 0 (some z4)) 1 (some z5)) 2 (some z6)) 3 (some z7))))))), (h2, .inr (5, [.ref z8, .ref z9, .ref z10, .ref z11, .ref z12, .ref z13, .int 0, .int 0]))]) (va_A [(h0, .inr (7, [.ref h1, .ref h2, .ref z0, .ref z1, .ref z2, .ref z3, .int 0, .int 0, .int 0])), (h1, .inl (k0, 4, .inr (.inr (.inr (.inr (va_up (va_up (va_up (va_up (fun _ => none) 0 (some z4)) 1 (some z5)) 2 (some z6)) 3 (some z7))))))), (h2, .inr (5, [.ref z8, .ref z9, .ref z10, .ref z11, .ref z12, .ref z13, .int 0, .int 0]))] sz)) 0 0 (va_A [(h0, .inr (7, [.ref h1, .ref h2, .ref z0, .ref z1, .ref z2, .ref z3, .int 0, .int 0, .int 0])), (h1, .inl (k0, 4, .inr (.inr (.inr (.inr (va_up (va_up (va_up (va_up (fun _ => none) 0 (some z4)) 1 (some z5)) 2 (some z6)) 3 (some z7))))))), (h2, .inr (5, [.ref z8, .ref z9, .ref z10, .ref z11, .ref z12, .ref z13, .int 0, .int 0]))] sz) := by
  refine Met.ofW (cc := cX3_pick) (maxL := 4) (ret := (some .int)) (by decide) rfl ?_
  intro p e s m args below meth c s₁ B hml hv
  obtain ⟨rfl, hsz, hP, hK, hD0⟩ := hv
  have hx := B.exec
  have hb := B.bytes
  have hr := B.returns
  have hts := atoms_spec (ws := wsX3_pick) B.pre
  have hown : s.vm.findClass RX3 = some m.cls := findClass_of_methodNamed B.named
  have hlocks := B.notSynchronized
  subst hsz
  have hD := hD0.self (sz := s.heap.size)
  generalize hAe : va_A [(h0, .inr (7, [.ref h1, .ref h2, .ref z0, .ref z1, .ref z2, .ref z3, .int 0, .int 0, .int 0])), (h1, .inl (k0, 4, .inr (.inr (.inr (.inr (va_up (va_up (va_up (va_up (fun _ => none) 0 (some z4)) 1 (some z5)) 2 (some z6)) 3 (some z7))))))), (h2, .inr (5, [.ref z8, .ref z9, .ref z10, .ref z11, .ref z12, .ref z13, .int 0, .int 0]))] s.heap.size = A at hD ⊢
  have hA : ∀ q : Nat, s.heap.size ≤ q → A q := fun q h => by rw [← hAe]; exact Or.inr h
  have hS : va_S A s.heap s.heap [] := va_S.rf
  have hP : va_P (dC, dI) vwCl [(h0, .inr (7, [.ref h1, .ref h2, .ref z0, .ref z1, .ref z2, .ref z3, .int 0, .int 0, .int 0])), (h1, .inl (k0, 4, .inr (.inr (.inr (.inr (va_up (va_up (va_up (va_up (fun _ => none) 0 (some z4)) 1 (some z5)) 2 (some z6)) 3 (some z7))))))), (h2, .inr (5, [.ref z8, .ref z9, .ref z10, .ref z11, .ref z12, .ref z13, .int 0, .int 0]))] s.heap := hP
  have hl := lv_entry ([.ref h0, .int 1, .int i0]) (n := 4) (Nat.le_of_ble_eq_true rfl)
  rw [lg_entry_eq]
  generalize (lg_sl ([.ref h0, .int 1, .int i0]) ++ List.replicate (4 - (lg_sl ([.ref h0, .int 1, .int i0])).length) Slot.unset).toArray = ls at hl ⊢
  have hl : lv_has ls 4 [(0, .ref h0), (1, .int 1), (2, .int i0)] := hl
  refine lv_iload_n hx hb dX3_pick_0 rfl (lv_at hl 1 rfl) ?_
  have hPc := hP.sub (ws' := []) [] rfl
  have hDc := hD.sub (ws' := []) [] (by decide) rfl
  have hKc := hK.sub (tys' := []) [] rfl
  have hFc := va_free (wc := []) hD hS hA [] rfl
  refine va_callv (va_runS (As := [.int 1]) (rest := []) ⟨hx, hb, hml, hown, hts⟩ (kx_X3_needRope_1 l dC dI s.heap.size) (cwS 1 hts gX3_pick_X3_needRope rfl rfl rfl (by decide +kernel) ⟨Nat.le_of_ble_eq_true rfl, Nat.le_of_ble_eq_true rfl⟩) ⟨fun a U g mk q => by obtain ⟨q0, q1, qP, qK, qD⟩ := q; exact ⟨q0, q1, qP, va_K.moved (u := U) (U := U.calling g mk a) (Vm.Alike.refl U.vm) qK, qD⟩, fun U hU hW => ⟨rfl, by rw [hU], by rw [hU]; exact hPc, va_K.moved hW.alike hKc, hDc.weaken (fun _ _ _ _ => trivial)⟩⟩ rfl rfl hl.1 rfl (lv_room (Nat.le_of_ble_eq_true rfl)) dX3_pick_1 ⟨Nat.le_of_ble_eq_true rfl, Nat.le_of_ble_eq_true rfl⟩) hS (fun q _ h => hFc q h) hFc (fun u t H1 locs ht hvm hw hB hz1 hk1 hS => ?_)
  obtain ⟨hP1, hK1, hD1⟩ := hB
  rw [ht] at hP1
  have hK1 := va_K.moved hvm.symm hK1
  obtain ⟨hP, hD⟩ := va_join (wr := [(h0, .inr (7, [.ref h1, .ref h2, .ref z0, .ref z1, .ref z2, .ref z3, .int 0, .int 0, .int 0])), (h1, .inl (k0, 4, .inr (.inr (.inr (.inr (va_up (va_up (va_up (va_up (fun _ => none) 0 (some z4)) 1 (some z5)) 2 (some z6)) 3 (some z7))))))), (h2, .inr (5, [.ref z8, .ref z9, .ref z10, .ref z11, .ref z12, .ref z13, .int 0, .int 0]))]) (w1 := []) hP hD [] [0, 1, 2] rfl rfl (by decide) (by decide) hk1 hFc hP1 hD1
  generalize H1 = H at hP hS ⊢
  have hP : va_P (dC, dI) vwCl [(h0, .inr (7, [.ref h1, .ref h2, .ref z0, .ref z1, .ref z2, .ref z3, .int 0, .int 0, .int 0])), (h1, .inl (k0, 4, .inr (.inr (.inr (.inr (va_up (va_up (va_up (va_up (fun _ => none) 0 (some z4)) 1 (some z5)) 2 (some z6)) 3 (some z7))))))), (h2, .inr (5, [.ref z8, .ref z9, .ref z10, .ref z11, .ref z12, .ref z13, .int 0, .int 0]))] H := hP
  have hD : va_D A [(h0, .inr (7, [.ref h1, .ref h2, .ref z0, .ref z1, .ref z2, .ref z3, .int 0, .int 0, .int 0])), (h1, .inl (k0, 4, .inr (.inr (.inr (.inr (va_up (va_up (va_up (va_up (fun _ => none) 0 (some z4)) 1 (some z5)) 2 (some z6)) 3 (some z7))))))), (h2, .inr (5, [.ref z8, .ref z9, .ref z10, .ref z11, .ref z12, .ref z13, .int 0, .int 0]))] := hD
  refine lv_aload_n hx hb dX3_pick_4 rfl (lv_at hl 0 rfl) ?_
  refine va_get (D := (dC, dI)) (ci := 7) (v := .ref h2) (C := RX3) (T := TX3) (N := 9) hx hb hts (by decide +kernel) hown hK hP 0 rfl rfl 1 (by decide) (hts (.fieldLink RX3 18 "Rewriterope" "book" "LRewriterope$RuleBook;") (by decide +kernel)) (fun _ h9 => h9) rfl dX3_pick_5 ?_
  refine lv_aload_n hx hb dX3_pick_8 rfl (lv_at hl 0 rfl) ?_
  refine va_get (D := (dC, dI)) (ci := 7) (v := .ref h1) (C := RX3) (T := TX3) (N := 9) hx hb hts (by decide +kernel) hown hK hP 0 rfl rfl 0 (by decide) (hts (.fieldLink RX3 11 "Rewriterope" "ropes" "[LRewriterope$Text;") (by decide +kernel)) (fun _ h9 => h9) rfl dX3_pick_9 ?_
  refine lv_iload_n hx hb dX3_pick_12 rfl (lv_at hl 1 rfl) ?_
  refine va_aldq (D := (dC, dI)) hx hb hK hP 1 0 rfl rfl (by unfold vp_in; decide) dX3_pick_13 ?_
  refine W.eq (g2 := F0 m 14 ls [.ref z5, .ref h2]) rfl ?_
  refine lv_iload_n hx hb dX3_pick_14 rfl (lv_at hl 2 rfl) ?_
  have hPc := hP.sub (ws' := [(h2, .inr (5, [.ref z8, .ref z9, .ref z10, .ref z11, .ref z12, .ref z13, .int 0, .int 0]))]) [2] rfl
  have hDc := hD.sub (ws' := [(h2, .inr (5, [.ref z8, .ref z9, .ref z10, .ref z11, .ref z12, .ref z13, .int 0, .int 0]))]) [2] (by decide) rfl
  have hKc := hK.sub (tys' := []) [] rfl
  have hFc := va_free (wc := [(h2, .inr (5, [.ref z8, .ref z9, .ref z10, .ref z11, .ref z12, .ref z13, .int 0, .int 0]))]) hD hS hA [2] rfl
  refine va_calli (va_runV (As := [.ref z5, .int i0]) (rest := []) ⟨hx, hb, hml, hown, hts⟩ (kx_X1_spotOfNumber_0 l dC dI h2 z5 z8 z9 z10 z11 z12 z13 H.size i0 i0_l i0_u) (cwV 2 hts gX3_pick_X1_spotOfNumber rfl rfl rfl (by decide +kernel) ⟨Nat.le_of_ble_eq_true rfl, Nat.le_of_ble_eq_true rfl⟩) ⟨fun a U g mk q => by obtain ⟨q0, q1, qP, qK, qD⟩ := q; exact ⟨q0, q1, qP, va_K.moved (u := U) (U := U.calling g mk a) (Vm.Alike.refl U.vm) qK, qD⟩, va_recv hKc hPc (ci := 5) (q0 := 0) rfl rfl, fun U hU hW => ⟨rfl, by rw [hU], by rw [hU]; exact hPc, va_K.moved hW.alike hKc, hDc.weaken (fun _ _ _ _ => trivial)⟩⟩ rfl rfl hl.1 rfl (lv_room (Nat.le_of_ble_eq_true rfl)) dX3_pick_15 ⟨Nat.le_of_ble_eq_true rfl, Nat.le_of_ble_eq_true rfl⟩) hS (fun q _ h => hFc q h) hFc (fun r9 u t H1 locs ht hvm hw hB hz1 hk1 hS => ?_)
  obtain rfl := hw
  obtain ⟨hP1, hK1, hD1⟩ := hB
  rw [ht] at hP1
  have hK1 := va_K.moved hvm.symm hK1
  obtain ⟨hP, hD⟩ := va_join (wr := [(h0, .inr (7, [.ref h1, .ref h2, .ref z0, .ref z1, .ref z2, .ref z3, .int 0, .int 0, .int 0])), (h1, .inl (k0, 4, .inr (.inr (.inr (.inr (va_up (va_up (va_up (va_up (fun _ => none) 0 (some z4)) 1 (some z5)) 2 (some z6)) 3 (some z7)))))))]) (w1 := [(h2, .inr (5, [.ref z8, .ref z9, .ref z10, .ref z11, .ref z12, .ref z13, .int 0, .int 0]))]) hP hD [2] [0, 1] rfl rfl (by decide) (by decide) hk1 hFc hP1 hD1
  generalize H1 = H at hP hS ⊢
  have hP : va_P (dC, dI) vwCl [(h0, .inr (7, [.ref h1, .ref h2, .ref z0, .ref z1, .ref z2, .ref z3, .int 0, .int 0, .int 0])), (h1, .inl (k0, 4, .inr (.inr (.inr (.inr (va_up (va_up (va_up (va_up (fun _ => none) 0 (some z4)) 1 (some z5)) 2 (some z6)) 3 (some z7))))))), (h2, .inr (5, [.ref z8, .ref z9, .ref z10, .ref z11, .ref z12, .ref z13, .int 0, .int 0]))] H := hP
  have hD : va_D A [(h0, .inr (7, [.ref h1, .ref h2, .ref z0, .ref z1, .ref z2, .ref z3, .int 0, .int 0, .int 0])), (h1, .inl (k0, 4, .inr (.inr (.inr (.inr (va_up (va_up (va_up (va_up (fun _ => none) 0 (some z4)) 1 (some z5)) 2 (some z6)) 3 (some z7))))))), (h2, .inr (5, [.ref z8, .ref z9, .ref z10, .ref z11, .ref z12, .ref z13, .int 0, .int 0]))] := hD
  refine lv_istore_n (lv' := [(3, .int (-1)), (0, .ref h0), (1, .int 1), (2, .int i0)]) hx hb dX3_pick_18 rfl hl (by decide) rfl (fun ls hl => ?_)
  refine lv_iload_n hx hb dX3_pick_19 rfl (lv_at hl 0 rfl) ?_
  refine lv_iconst (v := (-1)) hx hb dX3_pick_20 (by decide) ?_
  refine lv_icmp_ne (tgt := 29) hx hb dX3_pick_21 (by decide) (fun c9 => absurd (by decide) c9) (fun _ => ?_)
  refine lv_aload_n hx hb dX3_pick_24 rfl (lv_at hl 1 rfl) ?_
  have hPc := hP.sub (ws' := [(h0, .inr (7, [.ref h1, .ref h2, .ref z0, .ref z1, .ref z2, .ref z3, .int 0, .int 0, .int 0]))]) [0] rfl
  have hDc := hD.sub (ws' := [(h0, .inr (7, [.ref h1, .ref h2, .ref z0, .ref z1, .ref z2, .ref z3, .int 0, .int 0, .int 0]))]) [0] (by decide) rfl
  have hKc := hK.sub (tys' := []) [] rfl
  have hFc := va_free (wc := [(h0, .inr (7, [.ref h1, .ref h2, .ref z0, .ref z1, .ref z2, .ref z3, .int 0, .int 0, .int 0]))]) hD hS hA [0] rfl
  refine va_calli (va_runV (As := []) (rest := []) ⟨hx, hb, hml, hown, hts⟩ (kx_X3_refuse_0 l dC dI h0 h1 h2 z0 z1 z2 z3 H.size) (cwV 0 hts gX3_pick_X3_refuse rfl rfl rfl (by decide +kernel) ⟨Nat.le_of_ble_eq_true rfl, Nat.le_of_ble_eq_true rfl⟩) ⟨fun a U g mk q => by obtain ⟨q0, q1, qP, qK, qD⟩ := q; exact ⟨q0, q1, qP, va_K.moved (u := U) (U := U.calling g mk a) (Vm.Alike.refl U.vm) qK, qD⟩, va_recv hKc hPc (ci := 7) (q0 := 0) rfl rfl, fun U hU hW => ⟨rfl, by rw [hU], by rw [hU]; exact hPc, va_K.moved hW.alike hKc, hDc.weaken (fun _ _ _ _ => trivial)⟩⟩ rfl rfl hl.1 rfl (lv_room (Nat.le_of_ble_eq_true rfl)) dX3_pick_25 ⟨Nat.le_of_ble_eq_true rfl, Nat.le_of_ble_eq_true rfl⟩) hS (fun q _ h => hFc q h) hFc (fun r9 u t H1 locs ht hvm hw hB hz1 hk1 hS => ?_)
  obtain rfl := hw
  obtain ⟨hP1, hK1, hD1⟩ := hB
  rw [ht] at hP1
  have hK1 := va_K.moved hvm.symm hK1
  obtain ⟨hP, hD⟩ := va_join (wr := [(h1, .inl (k0, 4, .inr (.inr (.inr (.inr (va_up (va_up (va_up (va_up (fun _ => none) 0 (some z4)) 1 (some z5)) 2 (some z6)) 3 (some z7))))))), (h2, .inr (5, [.ref z8, .ref z9, .ref z10, .ref z11, .ref z12, .ref z13, .int 0, .int 0]))]) (w1 := [(h0, .inr (7, [.ref h1, .ref h2, .ref z0, .ref z1, .ref z2, .ref z3, .int 1, .int 0, .int 0]))]) hP hD [0] [1, 2] rfl rfl (by decide) (by decide) hk1 hFc hP1 hD1
  generalize H1 = H at hP hS ⊢
  have hP : va_P (dC, dI) vwCl [(h1, .inl (k0, 4, .inr (.inr (.inr (.inr (va_up (va_up (va_up (va_up (fun _ => none) 0 (some z4)) 1 (some z5)) 2 (some z6)) 3 (some z7))))))), (h2, .inr (5, [.ref z8, .ref z9, .ref z10, .ref z11, .ref z12, .ref z13, .int 0, .int 0])), (h0, .inr (7, [.ref h1, .ref h2, .ref z0, .ref z1, .ref z2, .ref z3, .int 1, .int 0, .int 0]))] H := hP
  have hD : va_D A [(h1, .inl (k0, 4, .inr (.inr (.inr (.inr (va_up (va_up (va_up (va_up (fun _ => none) 0 (some z4)) 1 (some z5)) 2 (some z6)) 3 (some z7))))))), (h2, .inr (5, [.ref z8, .ref z9, .ref z10, .ref z11, .ref z12, .ref z13, .int 0, .int 0])), (h0, .inr (7, [.ref h1, .ref h2, .ref z0, .ref z1, .ref z2, .ref z3, .int 1, .int 0, .int 0]))] := hD
  have hP := hP.sub (ws' := [(h0, .inr (7, [.ref h1, .ref h2, .ref z0, .ref z1, .ref z2, .ref z3, .int 1, .int 0, .int 0])), (h1, .inl (k0, 4, .inr (.inr (.inr (.inr (va_up (va_up (va_up (va_up (fun _ => none) 0 (some z4)) 1 (some z5)) 2 (some z6)) 3 (some z7))))))), (h2, .inr (5, [.ref z8, .ref z9, .ref z10, .ref z11, .ref z12, .ref z13, .int 0, .int 0]))]) [2, 0, 1] rfl
  have hD := hD.sub (ws' := [(h0, .inr (7, [.ref h1, .ref h2, .ref z0, .ref z1, .ref z2, .ref z3, .int 1, .int 0, .int 0])), (h1, .inl (k0, 4, .inr (.inr (.inr (.inr (va_up (va_up (va_up (va_up (fun _ => none) 0 (some z4)) 1 (some z5)) 2 (some z6)) 3 (some z7))))))), (h2, .inr (5, [.ref z8, .ref z9, .ref z10, .ref z11, .ref z12, .ref z13, .int 0, .int 0]))]) [2, 0, 1] (by decide) rfl
  exact W.iret (v := (-9)) hx hb hr (fun t ht hW => ⟨⟨(-9), (), rfl, rfl, by rw [ht]; exact hP, va_K.moved hW.alike hK, hD⟩, hS.F ht⟩) hS.2.2 dX3_pick_28
set_option maxHeartbeats 4000000 in
set_option maxRecDepth 100000 in
theorem kx_X3_pick_4 (l : Launch) (dC : Nat → ClassId) (dI : Nat → Nat → Nat) (h0 : Nat) (h1 : Nat) (h2 : Nat) (z0 : Nat) (z1 : Nat) (z2 : Nat) (z3 : Nat) (z4 : Nat) (z5 : Nat) (z6 : Nat) (z7 : Nat) (z8 : Nat) (z9 : Nat) (z10 : Nat) (z11 : Nat) (z12 : Nat) (z13 : Nat) (k0 : ClassId) (sz : Nat) (i0 : Int32) (i0_l : ((-2147483648) : Int) ≤ i0.toInt) (i0_u : i0.toInt ≤ ((-1) : Int)) : Met l yX3_pick wsX3_pick ({ frames := 1, cells := 0, slots := 0, locals := 24 }) (va_Pc [.ref h0, .int 2, .int i0] (fun U => U.heap.size = sz ∧ va_P (dC, dI) vwCl [(h0, .inr (7, [.ref h1, .ref h2, .ref z0, .ref z1, .ref z2, .ref z3, .int 0, .int 0, .int 0])), (h1, .inl (k0, 4, .inr (.inr (.inr (.inr (va_up (va_up (va_up (va_up (fun _ => none) 0 (some z4)) 1 (some z5)) 2 (some z6)) 3 (some z7))))))), (h2, .inr (5, [.ref z8, .ref z9, .ref z10, .ref z11, .ref z12, .ref z13, .int 0, .int 0]))] U.heap ∧ va_K (dC, dI) vwCl [(k0, .object "Rewriterope$Text")] U ∧ va_D (fun _ => True) [(h0, .inr (7, [.ref h1, .ref h2, .ref z0, .ref z1, .ref z2, .ref z3, .int 0, .int 0, .int 0])), (h1, .inl (k0, 4, .inr (.inr (.inr (.inr (va_up (va_up (va_up (va_up (fun _ => none) 0 (some z4)) 1 (some z5)) 2 (some z6)) 3 (some z7))))))), (h2, .inr (5, [.ref z8, .ref z9, .ref z10, .ref z11, .ref z12, .ref z13, .int 0, .int 0]))])) (va_Qi (fun (r : Int32) (_ : Unit) => r = (-9)) (fun (_ : Unit) (t : State) => va_P (dC, dI) vwCl [(h0, .inr (7, [.ref h1, .ref h2, .ref z0, .ref z1, .ref z2, .ref z3, .int 1, .int 0, .int 0])), (h1, .inl (k0, 4, .inr (.inr (.inr (.inr (va_up (va_up (va_up (va_up (fun _ => none) 0 (some z4)) 1 (some z5)) 2 (some z6)) 3 (some z7))))))), (h2, .inr (5, [.ref z8, .ref z9, .ref z10, .ref z11, .ref z12, .ref z13, .int 0, .int 0]))] t.heap ∧ va_K (dC, dI) vwCl [(k0, .object "Rewriterope$Text")] t ∧ va_D (va_A [(h0, .inr (7, [.ref h1, .ref h2, .ref z0, .ref z1, .ref z2, .ref z3, .int 0, .int 0, .int 0])), (h1, .inl (k0, 4, .inr (.inr (.inr (.inr (va_up (va_up (va_up (va_up (fun _ => none) 0 (some z4)) 1 (some z5)) 2 (some z6)) 3 (some z7))))))), (h2, .inr (5, [.ref z8, .ref z9, .ref z10, .ref z11, .ref z12, .ref z13, .int 0, .int 0]))] sz) [(h0, .inr (7, [.ref h1, .ref h2, .ref z0, .ref z1, .ref z2, .ref z3, .int 1, .int 0, .int 0])), (h1, .inl (k0, 4, .inr (.inr (.inr (.inr (va_up (va_up (va_up (va_up (fun _ => none) 0 (some z4)) 1 (some z5)) 2 (some z6)) 3 (some z7))))))), (h2, .inr (5, [.ref z8, .ref z9, .ref z10, .ref z11, .ref z12, .ref z13, .int 0, .int 0]))]) (va_A [(h0, .inr (7, [.ref h1, .ref h2, .ref z0, .ref z1, .ref z2, .ref z3, .int 0, .int 0, .int 0])), (h1, .inl (k0, 4, .inr (.inr (.inr (.inr (va_up (va_up (va_up (va_up (fun _ => none) 0 (some z4)) 1 (some z5)) 2 (some z6)) 3 (some z7))))))), (h2, .inr (5, [.ref z8, .ref z9, .ref z10, .ref z11, .ref z12, .ref z13, .int 0, .int 0]))] sz)) 0 0 (va_A [(h0, .inr (7, [.ref h1, .ref h2, .ref z0, .ref z1, .ref z2, .ref z3, .int 0, .int 0, .int 0])), (h1, .inl (k0, 4, .inr (.inr (.inr (.inr (va_up (va_up (va_up (va_up (fun _ => none) 0 (some z4)) 1 (some z5)) 2 (some z6)) 3 (some z7))))))), (h2, .inr (5, [.ref z8, .ref z9, .ref z10, .ref z11, .ref z12, .ref z13, .int 0, .int 0]))] sz) := by
  refine Met.ofW (cc := cX3_pick) (maxL := 4) (ret := (some .int)) (by decide) rfl ?_
  intro p e s m args below meth c s₁ B hml hv
  obtain ⟨rfl, hsz, hP, hK, hD0⟩ := hv
  have hx := B.exec
  have hb := B.bytes
  have hr := B.returns
  have hts := atoms_spec (ws := wsX3_pick) B.pre
  have hown : s.vm.findClass RX3 = some m.cls := findClass_of_methodNamed B.named
  have hlocks := B.notSynchronized
  subst hsz
  have hD := hD0.self (sz := s.heap.size)
  generalize hAe : va_A [(h0, .inr (7, [.ref h1, .ref h2, .ref z0, .ref z1, .ref z2, .ref z3, .int 0, .int 0, .int 0])), (h1, .inl (k0, 4, .inr (.inr (.inr (.inr (va_up (va_up (va_up (va_up (fun _ => none) 0 (some z4)) 1 (some z5)) 2 (some z6)) 3 (some z7))))))), (h2, .inr (5, [.ref z8, .ref z9, .ref z10, .ref z11, .ref z12, .ref z13, .int 0, .int 0]))] s.heap.size = A at hD ⊢
  have hA : ∀ q : Nat, s.heap.size ≤ q → A q := fun q h => by rw [← hAe]; exact Or.inr h
  have hS : va_S A s.heap s.heap [] := va_S.rf
  have hP : va_P (dC, dI) vwCl [(h0, .inr (7, [.ref h1, .ref h2, .ref z0, .ref z1, .ref z2, .ref z3, .int 0, .int 0, .int 0])), (h1, .inl (k0, 4, .inr (.inr (.inr (.inr (va_up (va_up (va_up (va_up (fun _ => none) 0 (some z4)) 1 (some z5)) 2 (some z6)) 3 (some z7))))))), (h2, .inr (5, [.ref z8, .ref z9, .ref z10, .ref z11, .ref z12, .ref z13, .int 0, .int 0]))] s.heap := hP
  have hl := lv_entry ([.ref h0, .int 2, .int i0]) (n := 4) (Nat.le_of_ble_eq_true rfl)
  rw [lg_entry_eq]
  generalize (lg_sl ([.ref h0, .int 2, .int i0]) ++ List.replicate (4 - (lg_sl ([.ref h0, .int 2, .int i0])).length) Slot.unset).toArray = ls at hl ⊢
  have hl : lv_has ls 4 [(0, .ref h0), (1, .int 2), (2, .int i0)] := hl
  refine lv_iload_n hx hb dX3_pick_0 rfl (lv_at hl 1 rfl) ?_
  have hPc := hP.sub (ws' := []) [] rfl
  have hDc := hD.sub (ws' := []) [] (by decide) rfl
  have hKc := hK.sub (tys' := []) [] rfl
  have hFc := va_free (wc := []) hD hS hA [] rfl
  refine va_callv (va_runS (As := [.int 2]) (rest := []) ⟨hx, hb, hml, hown, hts⟩ (kx_X3_needRope_2 l dC dI s.heap.size) (cwS 1 hts gX3_pick_X3_needRope rfl rfl rfl (by decide +kernel) ⟨Nat.le_of_ble_eq_true rfl, Nat.le_of_ble_eq_true rfl⟩) ⟨fun a U g mk q => by obtain ⟨q0, q1, qP, qK, qD⟩ := q; exact ⟨q0, q1, qP, va_K.moved (u := U) (U := U.calling g mk a) (Vm.Alike.refl U.vm) qK, qD⟩, fun U hU hW => ⟨rfl, by rw [hU], by rw [hU]; exact hPc, va_K.moved hW.alike hKc, hDc.weaken (fun _ _ _ _ => trivial)⟩⟩ rfl rfl hl.1 rfl (lv_room (Nat.le_of_ble_eq_true rfl)) dX3_pick_1 ⟨Nat.le_of_ble_eq_true rfl, Nat.le_of_ble_eq_true rfl⟩) hS (fun q _ h => hFc q h) hFc (fun u t H1 locs ht hvm hw hB hz1 hk1 hS => ?_)
  obtain ⟨hP1, hK1, hD1⟩ := hB
  rw [ht] at hP1
  have hK1 := va_K.moved hvm.symm hK1
  obtain ⟨hP, hD⟩ := va_join (wr := [(h0, .inr (7, [.ref h1, .ref h2, .ref z0, .ref z1, .ref z2, .ref z3, .int 0, .int 0, .int 0])), (h1, .inl (k0, 4, .inr (.inr (.inr (.inr (va_up (va_up (va_up (va_up (fun _ => none) 0 (some z4)) 1 (some z5)) 2 (some z6)) 3 (some z7))))))), (h2, .inr (5, [.ref z8, .ref z9, .ref z10, .ref z11, .ref z12, .ref z13, .int 0, .int 0]))]) (w1 := []) hP hD [] [0, 1, 2] rfl rfl (by decide) (by decide) hk1 hFc hP1 hD1
  generalize H1 = H at hP hS ⊢
  have hP : va_P (dC, dI) vwCl [(h0, .inr (7, [.ref h1, .ref h2, .ref z0, .ref z1, .ref z2, .ref z3, .int 0, .int 0, .int 0])), (h1, .inl (k0, 4, .inr (.inr (.inr (.inr (va_up (va_up (va_up (va_up (fun _ => none) 0 (some z4)) 1 (some z5)) 2 (some z6)) 3 (some z7))))))), (h2, .inr (5, [.ref z8, .ref z9, .ref z10, .ref z11, .ref z12, .ref z13, .int 0, .int 0]))] H := hP
  have hD : va_D A [(h0, .inr (7, [.ref h1, .ref h2, .ref z0, .ref z1, .ref z2, .ref z3, .int 0, .int 0, .int 0])), (h1, .inl (k0, 4, .inr (.inr (.inr (.inr (va_up (va_up (va_up (va_up (fun _ => none) 0 (some z4)) 1 (some z5)) 2 (some z6)) 3 (some z7))))))), (h2, .inr (5, [.ref z8, .ref z9, .ref z10, .ref z11, .ref z12, .ref z13, .int 0, .int 0]))] := hD
  refine lv_aload_n hx hb dX3_pick_4 rfl (lv_at hl 0 rfl) ?_
  refine va_get (D := (dC, dI)) (ci := 7) (v := .ref h2) (C := RX3) (T := TX3) (N := 9) hx hb hts (by decide +kernel) hown hK hP 0 rfl rfl 1 (by decide) (hts (.fieldLink RX3 18 "Rewriterope" "book" "LRewriterope$RuleBook;") (by decide +kernel)) (fun _ h9 => h9) rfl dX3_pick_5 ?_
  refine lv_aload_n hx hb dX3_pick_8 rfl (lv_at hl 0 rfl) ?_
  refine va_get (D := (dC, dI)) (ci := 7) (v := .ref h1) (C := RX3) (T := TX3) (N := 9) hx hb hts (by decide +kernel) hown hK hP 0 rfl rfl 0 (by decide) (hts (.fieldLink RX3 11 "Rewriterope" "ropes" "[LRewriterope$Text;") (by decide +kernel)) (fun _ h9 => h9) rfl dX3_pick_9 ?_
  refine lv_iload_n hx hb dX3_pick_12 rfl (lv_at hl 1 rfl) ?_
  refine va_aldq (D := (dC, dI)) hx hb hK hP 1 0 rfl rfl (by unfold vp_in; decide) dX3_pick_13 ?_
  refine W.eq (g2 := F0 m 14 ls [.ref z6, .ref h2]) rfl ?_
  refine lv_iload_n hx hb dX3_pick_14 rfl (lv_at hl 2 rfl) ?_
  have hPc := hP.sub (ws' := [(h2, .inr (5, [.ref z8, .ref z9, .ref z10, .ref z11, .ref z12, .ref z13, .int 0, .int 0]))]) [2] rfl
  have hDc := hD.sub (ws' := [(h2, .inr (5, [.ref z8, .ref z9, .ref z10, .ref z11, .ref z12, .ref z13, .int 0, .int 0]))]) [2] (by decide) rfl
  have hKc := hK.sub (tys' := []) [] rfl
  have hFc := va_free (wc := [(h2, .inr (5, [.ref z8, .ref z9, .ref z10, .ref z11, .ref z12, .ref z13, .int 0, .int 0]))]) hD hS hA [2] rfl
  refine va_calli (va_runV (As := [.ref z6, .int i0]) (rest := []) ⟨hx, hb, hml, hown, hts⟩ (kx_X1_spotOfNumber_0 l dC dI h2 z6 z8 z9 z10 z11 z12 z13 H.size i0 i0_l i0_u) (cwV 2 hts gX3_pick_X1_spotOfNumber rfl rfl rfl (by decide +kernel) ⟨Nat.le_of_ble_eq_true rfl, Nat.le_of_ble_eq_true rfl⟩) ⟨fun a U g mk q => by obtain ⟨q0, q1, qP, qK, qD⟩ := q; exact ⟨q0, q1, qP, va_K.moved (u := U) (U := U.calling g mk a) (Vm.Alike.refl U.vm) qK, qD⟩, va_recv hKc hPc (ci := 5) (q0 := 0) rfl rfl, fun U hU hW => ⟨rfl, by rw [hU], by rw [hU]; exact hPc, va_K.moved hW.alike hKc, hDc.weaken (fun _ _ _ _ => trivial)⟩⟩ rfl rfl hl.1 rfl (lv_room (Nat.le_of_ble_eq_true rfl)) dX3_pick_15 ⟨Nat.le_of_ble_eq_true rfl, Nat.le_of_ble_eq_true rfl⟩) hS (fun q _ h => hFc q h) hFc (fun r9 u t H1 locs ht hvm hw hB hz1 hk1 hS => ?_)
  obtain rfl := hw
  obtain ⟨hP1, hK1, hD1⟩ := hB
  rw [ht] at hP1
  have hK1 := va_K.moved hvm.symm hK1
  obtain ⟨hP, hD⟩ := va_join (wr := [(h0, .inr (7, [.ref h1, .ref h2, .ref z0, .ref z1, .ref z2, .ref z3, .int 0, .int 0, .int 0])), (h1, .inl (k0, 4, .inr (.inr (.inr (.inr (va_up (va_up (va_up (va_up (fun _ => none) 0 (some z4)) 1 (some z5)) 2 (some z6)) 3 (some z7)))))))]) (w1 := [(h2, .inr (5, [.ref z8, .ref z9, .ref z10, .ref z11, .ref z12, .ref z13, .int 0, .int 0]))]) hP hD [2] [0, 1] rfl rfl (by decide) (by decide) hk1 hFc hP1 hD1
  generalize H1 = H at hP hS ⊢
  have hP : va_P (dC, dI) vwCl [(h0, .inr (7, [.ref h1, .ref h2, .ref z0, .ref z1, .ref z2, .ref z3, .int 0, .int 0, .int 0])), (h1, .inl (k0, 4, .inr (.inr (.inr (.inr (va_up (va_up (va_up (va_up (fun _ => none) 0 (some z4)) 1 (some z5)) 2 (some z6)) 3 (some z7))))))), (h2, .inr (5, [.ref z8, .ref z9, .ref z10, .ref z11, .ref z12, .ref z13, .int 0, .int 0]))] H := hP
  have hD : va_D A [(h0, .inr (7, [.ref h1, .ref h2, .ref z0, .ref z1, .ref z2, .ref z3, .int 0, .int 0, .int 0])), (h1, .inl (k0, 4, .inr (.inr (.inr (.inr (va_up (va_up (va_up (va_up (fun _ => none) 0 (some z4)) 1 (some z5)) 2 (some z6)) 3 (some z7))))))), (h2, .inr (5, [.ref z8, .ref z9, .ref z10, .ref z11, .ref z12, .ref z13, .int 0, .int 0]))] := hD
  refine lv_istore_n (lv' := [(3, .int (-1)), (0, .ref h0), (1, .int 2), (2, .int i0)]) hx hb dX3_pick_18 rfl hl (by decide) rfl (fun ls hl => ?_)
  refine lv_iload_n hx hb dX3_pick_19 rfl (lv_at hl 0 rfl) ?_
  refine lv_iconst (v := (-1)) hx hb dX3_pick_20 (by decide) ?_
  refine lv_icmp_ne (tgt := 29) hx hb dX3_pick_21 (by decide) (fun c9 => absurd (by decide) c9) (fun _ => ?_)
  refine lv_aload_n hx hb dX3_pick_24 rfl (lv_at hl 1 rfl) ?_
  have hPc := hP.sub (ws' := [(h0, .inr (7, [.ref h1, .ref h2, .ref z0, .ref z1, .ref z2, .ref z3, .int 0, .int 0, .int 0]))]) [0] rfl
  have hDc := hD.sub (ws' := [(h0, .inr (7, [.ref h1, .ref h2, .ref z0, .ref z1, .ref z2, .ref z3, .int 0, .int 0, .int 0]))]) [0] (by decide) rfl
  have hKc := hK.sub (tys' := []) [] rfl
  have hFc := va_free (wc := [(h0, .inr (7, [.ref h1, .ref h2, .ref z0, .ref z1, .ref z2, .ref z3, .int 0, .int 0, .int 0]))]) hD hS hA [0] rfl
  refine va_calli (va_runV (As := []) (rest := []) ⟨hx, hb, hml, hown, hts⟩ (kx_X3_refuse_0 l dC dI h0 h1 h2 z0 z1 z2 z3 H.size) (cwV 0 hts gX3_pick_X3_refuse rfl rfl rfl (by decide +kernel) ⟨Nat.le_of_ble_eq_true rfl, Nat.le_of_ble_eq_true rfl⟩) ⟨fun a U g mk q => by obtain ⟨q0, q1, qP, qK, qD⟩ := q; exact ⟨q0, q1, qP, va_K.moved (u := U) (U := U.calling g mk a) (Vm.Alike.refl U.vm) qK, qD⟩, va_recv hKc hPc (ci := 7) (q0 := 0) rfl rfl, fun U hU hW => ⟨rfl, by rw [hU], by rw [hU]; exact hPc, va_K.moved hW.alike hKc, hDc.weaken (fun _ _ _ _ => trivial)⟩⟩ rfl rfl hl.1 rfl (lv_room (Nat.le_of_ble_eq_true rfl)) dX3_pick_25 ⟨Nat.le_of_ble_eq_true rfl, Nat.le_of_ble_eq_true rfl⟩) hS (fun q _ h => hFc q h) hFc (fun r9 u t H1 locs ht hvm hw hB hz1 hk1 hS => ?_)
  obtain rfl := hw
  obtain ⟨hP1, hK1, hD1⟩ := hB
  rw [ht] at hP1
  have hK1 := va_K.moved hvm.symm hK1
  obtain ⟨hP, hD⟩ := va_join (wr := [(h1, .inl (k0, 4, .inr (.inr (.inr (.inr (va_up (va_up (va_up (va_up (fun _ => none) 0 (some z4)) 1 (some z5)) 2 (some z6)) 3 (some z7))))))), (h2, .inr (5, [.ref z8, .ref z9, .ref z10, .ref z11, .ref z12, .ref z13, .int 0, .int 0]))]) (w1 := [(h0, .inr (7, [.ref h1, .ref h2, .ref z0, .ref z1, .ref z2, .ref z3, .int 1, .int 0, .int 0]))]) hP hD [0] [1, 2] rfl rfl (by decide) (by decide) hk1 hFc hP1 hD1
  generalize H1 = H at hP hS ⊢
  have hP : va_P (dC, dI) vwCl [(h1, .inl (k0, 4, .inr (.inr (.inr (.inr (va_up (va_up (va_up (va_up (fun _ => none) 0 (some z4)) 1 (some z5)) 2 (some z6)) 3 (some z7))))))), (h2, .inr (5, [.ref z8, .ref z9, .ref z10, .ref z11, .ref z12, .ref z13, .int 0, .int 0])), (h0, .inr (7, [.ref h1, .ref h2, .ref z0, .ref z1, .ref z2, .ref z3, .int 1, .int 0, .int 0]))] H := hP
  have hD : va_D A [(h1, .inl (k0, 4, .inr (.inr (.inr (.inr (va_up (va_up (va_up (va_up (fun _ => none) 0 (some z4)) 1 (some z5)) 2 (some z6)) 3 (some z7))))))), (h2, .inr (5, [.ref z8, .ref z9, .ref z10, .ref z11, .ref z12, .ref z13, .int 0, .int 0])), (h0, .inr (7, [.ref h1, .ref h2, .ref z0, .ref z1, .ref z2, .ref z3, .int 1, .int 0, .int 0]))] := hD
  have hP := hP.sub (ws' := [(h0, .inr (7, [.ref h1, .ref h2, .ref z0, .ref z1, .ref z2, .ref z3, .int 1, .int 0, .int 0])), (h1, .inl (k0, 4, .inr (.inr (.inr (.inr (va_up (va_up (va_up (va_up (fun _ => none) 0 (some z4)) 1 (some z5)) 2 (some z6)) 3 (some z7))))))), (h2, .inr (5, [.ref z8, .ref z9, .ref z10, .ref z11, .ref z12, .ref z13, .int 0, .int 0]))]) [2, 0, 1] rfl
  have hD := hD.sub (ws' := [(h0, .inr (7, [.ref h1, .ref h2, .ref z0, .ref z1, .ref z2, .ref z3, .int 1, .int 0, .int 0])), (h1, .inl (k0, 4, .inr (.inr (.inr (.inr (va_up (va_up (va_up (va_up (fun _ => none) 0 (some z4)) 1 (some z5)) 2 (some z6)) 3 (some z7))))))), (h2, .inr (5, [.ref z8, .ref z9, .ref z10, .ref z11, .ref z12, .ref z13, .int 0, .int 0]))]) [2, 0, 1] (by decide) rfl
  exact W.iret (v := (-9)) hx hb hr (fun t ht hW => ⟨⟨(-9), (), rfl, rfl, by rw [ht]; exact hP, va_K.moved hW.alike hK, hD⟩, hS.F ht⟩) hS.2.2 dX3_pick_28
set_option maxHeartbeats 4000000 in
set_option maxRecDepth 100000 in
theorem kx_X3_pick_5 (l : Launch) (dC : Nat → ClassId) (dI : Nat → Nat → Nat) (h0 : Nat) (h1 : Nat) (h2 : Nat) (z0 : Nat) (z1 : Nat) (z2 : Nat) (z3 : Nat) (z4 : Nat) (z5 : Nat) (z6 : Nat) (z7 : Nat) (z8 : Nat) (z9 : Nat) (z10 : Nat) (z11 : Nat) (z12 : Nat) (z13 : Nat) (k0 : ClassId) (sz : Nat) (i0 : Int32) (i0_l : ((-2147483648) : Int) ≤ i0.toInt) (i0_u : i0.toInt ≤ ((-1) : Int)) : Met l yX3_pick wsX3_pick ({ frames := 1, cells := 0, slots := 0, locals := 24 }) (va_Pc [.ref h0, .int 3, .int i0] (fun U => U.heap.size = sz ∧ va_P (dC, dI) vwCl [(h0, .inr (7, [.ref h1, .ref h2, .ref z0, .ref z1, .ref z2, .ref z3, .int 0, .int 0, .int 0])), (h1, .inl (k0, 4, .inr (.inr (.inr (.inr (va_up (va_up (va_up (va_up (fun _ => none) 0 (some z4)) 1 (some z5)) 2 (some z6)) 3 (some z7))))))), (h2, .inr (5, [.ref z8, .ref z9, .ref z10, .ref z11, .ref z12, .ref z13, .int 0, .int 0]))] U.heap ∧ va_K (dC, dI) vwCl [(k0, .object "Rewriterope$Text")] U ∧ va_D (fun _ => True) [(h0, .inr (7, [.ref h1, .ref h2, .ref z0, .ref z1, .ref z2, .ref z3, .int 0, .int 0, .int 0])), (h1, .inl (k0, 4, .inr (.inr (.inr (.inr (va_up (va_up (va_up (va_up (fun _ => none) 0 (some z4)) 1 (some z5)) 2 (some z6)) 3 (some z7))))))), (h2, .inr (5, [.ref z8, .ref z9, .ref z10, .ref z11, .ref z12, .ref z13, .int 0, .int 0]))])) (va_Qi (fun (r : Int32) (_ : Unit) => r = (-9)) (fun (_ : Unit) (t : State) => va_P (dC, dI) vwCl [(h0, .inr (7, [.ref h1, .ref h2, .ref z0, .ref z1, .ref z2, .ref z3, .int 1, .int 0, .int 0])), (h1, .inl (k0, 4, .inr (.inr (.inr (.inr (va_up (va_up (va_up (va_up (fun _ => none) 0 (some z4)) 1 (some z5)) 2 (some z6)) 3 (some z7))))))), (h2, .inr (5, [.ref z8, .ref z9, .ref z10, .ref z11, .ref z12, .ref z13, .int 0, .int 0]))] t.heap ∧ va_K (dC, dI) vwCl [(k0, .object "Rewriterope$Text")] t ∧ va_D (va_A [(h0, .inr (7, [.ref h1, .ref h2, .ref z0, .ref z1, .ref z2, .ref z3, .int 0, .int 0, .int 0])), (h1, .inl (k0, 4, .inr (.inr (.inr (.inr (va_up (va_up (va_up (va_up (fun _ => none) 0 (some z4)) 1 (some z5)) 2 (some z6)) 3 (some z7))))))), (h2, .inr (5, [.ref z8, .ref z9, .ref z10, .ref z11, .ref z12, .ref z13, .int 0, .int 0]))] sz) [(h0, .inr (7, [.ref h1, .ref h2, .ref z0, .ref z1, .ref z2, .ref z3, .int 1, .int 0, .int 0])), (h1, .inl (k0, 4, .inr (.inr (.inr (.inr (va_up (va_up (va_up (va_up (fun _ => none) 0 (some z4)) 1 (some z5)) 2 (some z6)) 3 (some z7))))))), (h2, .inr (5, [.ref z8, .ref z9, .ref z10, .ref z11, .ref z12, .ref z13, .int 0, .int 0]))]) (va_A [(h0, .inr (7, [.ref h1, .ref h2, .ref z0, .ref z1, .ref z2, .ref z3, .int 0, .int 0, .int 0])), (h1, .inl (k0, 4, .inr (.inr (.inr (.inr (va_up (va_up (va_up (va_up (fun _ => none) 0 (some z4)) 1 (some z5)) 2 (some z6)) 3 (some z7))))))), (h2, .inr (5, [.ref z8, .ref z9, .ref z10, .ref z11, .ref z12, .ref z13, .int 0, .int 0]))] sz)) 0 0 (va_A [(h0, .inr (7, [.ref h1, .ref h2, .ref z0, .ref z1, .ref z2, .ref z3, .int 0, .int 0, .int 0])), (h1, .inl (k0, 4, .inr (.inr (.inr (.inr (va_up (va_up (va_up (va_up (fun _ => none) 0 (some z4)) 1 (some z5)) 2 (some z6)) 3 (some z7))))))), (h2, .inr (5, [.ref z8, .ref z9, .ref z10, .ref z11, .ref z12, .ref z13, .int 0, .int 0]))] sz) := by
  refine Met.ofW (cc := cX3_pick) (maxL := 4) (ret := (some .int)) (by decide) rfl ?_
  intro p e s m args below meth c s₁ B hml hv
  obtain ⟨rfl, hsz, hP, hK, hD0⟩ := hv
  have hx := B.exec
  have hb := B.bytes
  have hr := B.returns
  have hts := atoms_spec (ws := wsX3_pick) B.pre
  have hown : s.vm.findClass RX3 = some m.cls := findClass_of_methodNamed B.named
  have hlocks := B.notSynchronized
  subst hsz
  have hD := hD0.self (sz := s.heap.size)
  generalize hAe : va_A [(h0, .inr (7, [.ref h1, .ref h2, .ref z0, .ref z1, .ref z2, .ref z3, .int 0, .int 0, .int 0])), (h1, .inl (k0, 4, .inr (.inr (.inr (.inr (va_up (va_up (va_up (va_up (fun _ => none) 0 (some z4)) 1 (some z5)) 2 (some z6)) 3 (some z7))))))), (h2, .inr (5, [.ref z8, .ref z9, .ref z10, .ref z11, .ref z12, .ref z13, .int 0, .int 0]))] s.heap.size = A at hD ⊢
  have hA : ∀ q : Nat, s.heap.size ≤ q → A q := fun q h => by rw [← hAe]; exact Or.inr h
  have hS : va_S A s.heap s.heap [] := va_S.rf
  have hP : va_P (dC, dI) vwCl [(h0, .inr (7, [.ref h1, .ref h2, .ref z0, .ref z1, .ref z2, .ref z3, .int 0, .int 0, .int 0])), (h1, .inl (k0, 4, .inr (.inr (.inr (.inr (va_up (va_up (va_up (va_up (fun _ => none) 0 (some z4)) 1 (some z5)) 2 (some z6)) 3 (some z7))))))), (h2, .inr (5, [.ref z8, .ref z9, .ref z10, .ref z11, .ref z12, .ref z13, .int 0, .int 0]))] s.heap := hP
  have hl := lv_entry ([.ref h0, .int 3, .int i0]) (n := 4) (Nat.le_of_ble_eq_true rfl)
  rw [lg_entry_eq]
  generalize (lg_sl ([.ref h0, .int 3, .int i0]) ++ List.replicate (4 - (lg_sl ([.ref h0, .int 3, .int i0])).length) Slot.unset).toArray = ls at hl ⊢
  have hl : lv_has ls 4 [(0, .ref h0), (1, .int 3), (2, .int i0)] := hl
  refine lv_iload_n hx hb dX3_pick_0 rfl (lv_at hl 1 rfl) ?_
  have hPc := hP.sub (ws' := []) [] rfl
  have hDc := hD.sub (ws' := []) [] (by decide) rfl
  have hKc := hK.sub (tys' := []) [] rfl
  have hFc := va_free (wc := []) hD hS hA [] rfl
  refine va_callv (va_runS (As := [.int 3]) (rest := []) ⟨hx, hb, hml, hown, hts⟩ (kx_X3_needRope_3 l dC dI s.heap.size) (cwS 1 hts gX3_pick_X3_needRope rfl rfl rfl (by decide +kernel) ⟨Nat.le_of_ble_eq_true rfl, Nat.le_of_ble_eq_true rfl⟩) ⟨fun a U g mk q => by obtain ⟨q0, q1, qP, qK, qD⟩ := q; exact ⟨q0, q1, qP, va_K.moved (u := U) (U := U.calling g mk a) (Vm.Alike.refl U.vm) qK, qD⟩, fun U hU hW => ⟨rfl, by rw [hU], by rw [hU]; exact hPc, va_K.moved hW.alike hKc, hDc.weaken (fun _ _ _ _ => trivial)⟩⟩ rfl rfl hl.1 rfl (lv_room (Nat.le_of_ble_eq_true rfl)) dX3_pick_1 ⟨Nat.le_of_ble_eq_true rfl, Nat.le_of_ble_eq_true rfl⟩) hS (fun q _ h => hFc q h) hFc (fun u t H1 locs ht hvm hw hB hz1 hk1 hS => ?_)
  obtain ⟨hP1, hK1, hD1⟩ := hB
  rw [ht] at hP1
  have hK1 := va_K.moved hvm.symm hK1
  obtain ⟨hP, hD⟩ := va_join (wr := [(h0, .inr (7, [.ref h1, .ref h2, .ref z0, .ref z1, .ref z2, .ref z3, .int 0, .int 0, .int 0])), (h1, .inl (k0, 4, .inr (.inr (.inr (.inr (va_up (va_up (va_up (va_up (fun _ => none) 0 (some z4)) 1 (some z5)) 2 (some z6)) 3 (some z7))))))), (h2, .inr (5, [.ref z8, .ref z9, .ref z10, .ref z11, .ref z12, .ref z13, .int 0, .int 0]))]) (w1 := []) hP hD [] [0, 1, 2] rfl rfl (by decide) (by decide) hk1 hFc hP1 hD1
  generalize H1 = H at hP hS ⊢
  have hP : va_P (dC, dI) vwCl [(h0, .inr (7, [.ref h1, .ref h2, .ref z0, .ref z1, .ref z2, .ref z3, .int 0, .int 0, .int 0])), (h1, .inl (k0, 4, .inr (.inr (.inr (.inr (va_up (va_up (va_up (va_up (fun _ => none) 0 (some z4)) 1 (some z5)) 2 (some z6)) 3 (some z7))))))), (h2, .inr (5, [.ref z8, .ref z9, .ref z10, .ref z11, .ref z12, .ref z13, .int 0, .int 0]))] H := hP
  have hD : va_D A [(h0, .inr (7, [.ref h1, .ref h2, .ref z0, .ref z1, .ref z2, .ref z3, .int 0, .int 0, .int 0])), (h1, .inl (k0, 4, .inr (.inr (.inr (.inr (va_up (va_up (va_up (va_up (fun _ => none) 0 (some z4)) 1 (some z5)) 2 (some z6)) 3 (some z7))))))), (h2, .inr (5, [.ref z8, .ref z9, .ref z10, .ref z11, .ref z12, .ref z13, .int 0, .int 0]))] := hD
  refine lv_aload_n hx hb dX3_pick_4 rfl (lv_at hl 0 rfl) ?_
  refine va_get (D := (dC, dI)) (ci := 7) (v := .ref h2) (C := RX3) (T := TX3) (N := 9) hx hb hts (by decide +kernel) hown hK hP 0 rfl rfl 1 (by decide) (hts (.fieldLink RX3 18 "Rewriterope" "book" "LRewriterope$RuleBook;") (by decide +kernel)) (fun _ h9 => h9) rfl dX3_pick_5 ?_
  refine lv_aload_n hx hb dX3_pick_8 rfl (lv_at hl 0 rfl) ?_
  refine va_get (D := (dC, dI)) (ci := 7) (v := .ref h1) (C := RX3) (T := TX3) (N := 9) hx hb hts (by decide +kernel) hown hK hP 0 rfl rfl 0 (by decide) (hts (.fieldLink RX3 11 "Rewriterope" "ropes" "[LRewriterope$Text;") (by decide +kernel)) (fun _ h9 => h9) rfl dX3_pick_9 ?_
  refine lv_iload_n hx hb dX3_pick_12 rfl (lv_at hl 1 rfl) ?_
  refine va_aldq (D := (dC, dI)) hx hb hK hP 1 0 rfl rfl (by unfold vp_in; decide) dX3_pick_13 ?_
  refine W.eq (g2 := F0 m 14 ls [.ref z7, .ref h2]) rfl ?_
  refine lv_iload_n hx hb dX3_pick_14 rfl (lv_at hl 2 rfl) ?_
  have hPc := hP.sub (ws' := [(h2, .inr (5, [.ref z8, .ref z9, .ref z10, .ref z11, .ref z12, .ref z13, .int 0, .int 0]))]) [2] rfl
  have hDc := hD.sub (ws' := [(h2, .inr (5, [.ref z8, .ref z9, .ref z10, .ref z11, .ref z12, .ref z13, .int 0, .int 0]))]) [2] (by decide) rfl
  have hKc := hK.sub (tys' := []) [] rfl
  have hFc := va_free (wc := [(h2, .inr (5, [.ref z8, .ref z9, .ref z10, .ref z11, .ref z12, .ref z13, .int 0, .int 0]))]) hD hS hA [2] rfl
  refine va_calli (va_runV (As := [.ref z7, .int i0]) (rest := []) ⟨hx, hb, hml, hown, hts⟩ (kx_X1_spotOfNumber_0 l dC dI h2 z7 z8 z9 z10 z11 z12 z13 H.size i0 i0_l i0_u) (cwV 2 hts gX3_pick_X1_spotOfNumber rfl rfl rfl (by decide +kernel) ⟨Nat.le_of_ble_eq_true rfl, Nat.le_of_ble_eq_true rfl⟩) ⟨fun a U g mk q => by obtain ⟨q0, q1, qP, qK, qD⟩ := q; exact ⟨q0, q1, qP, va_K.moved (u := U) (U := U.calling g mk a) (Vm.Alike.refl U.vm) qK, qD⟩, va_recv hKc hPc (ci := 5) (q0 := 0) rfl rfl, fun U hU hW => ⟨rfl, by rw [hU], by rw [hU]; exact hPc, va_K.moved hW.alike hKc, hDc.weaken (fun _ _ _ _ => trivial)⟩⟩ rfl rfl hl.1 rfl (lv_room (Nat.le_of_ble_eq_true rfl)) dX3_pick_15 ⟨Nat.le_of_ble_eq_true rfl, Nat.le_of_ble_eq_true rfl⟩) hS (fun q _ h => hFc q h) hFc (fun r9 u t H1 locs ht hvm hw hB hz1 hk1 hS => ?_)
  obtain rfl := hw
  obtain ⟨hP1, hK1, hD1⟩ := hB
  rw [ht] at hP1
  have hK1 := va_K.moved hvm.symm hK1
  obtain ⟨hP, hD⟩ := va_join (wr := [(h0, .inr (7, [.ref h1, .ref h2, .ref z0, .ref z1, .ref z2, .ref z3, .int 0, .int 0, .int 0])), (h1, .inl (k0, 4, .inr (.inr (.inr (.inr (va_up (va_up (va_up (va_up (fun _ => none) 0 (some z4)) 1 (some z5)) 2 (some z6)) 3 (some z7)))))))]) (w1 := [(h2, .inr (5, [.ref z8, .ref z9, .ref z10, .ref z11, .ref z12, .ref z13, .int 0, .int 0]))]) hP hD [2] [0, 1] rfl rfl (by decide) (by decide) hk1 hFc hP1 hD1
  generalize H1 = H at hP hS ⊢
  have hP : va_P (dC, dI) vwCl [(h0, .inr (7, [.ref h1, .ref h2, .ref z0, .ref z1, .ref z2, .ref z3, .int 0, .int 0, .int 0])), (h1, .inl (k0, 4, .inr (.inr (.inr (.inr (va_up (va_up (va_up (va_up (fun _ => none) 0 (some z4)) 1 (some z5)) 2 (some z6)) 3 (some z7))))))), (h2, .inr (5, [.ref z8, .ref z9, .ref z10, .ref z11, .ref z12, .ref z13, .int 0, .int 0]))] H := hP
  have hD : va_D A [(h0, .inr (7, [.ref h1, .ref h2, .ref z0, .ref z1, .ref z2, .ref z3, .int 0, .int 0, .int 0])), (h1, .inl (k0, 4, .inr (.inr (.inr (.inr (va_up (va_up (va_up (va_up (fun _ => none) 0 (some z4)) 1 (some z5)) 2 (some z6)) 3 (some z7))))))), (h2, .inr (5, [.ref z8, .ref z9, .ref z10, .ref z11, .ref z12, .ref z13, .int 0, .int 0]))] := hD
  refine lv_istore_n (lv' := [(3, .int (-1)), (0, .ref h0), (1, .int 3), (2, .int i0)]) hx hb dX3_pick_18 rfl hl (by decide) rfl (fun ls hl => ?_)
  refine lv_iload_n hx hb dX3_pick_19 rfl (lv_at hl 0 rfl) ?_
  refine lv_iconst (v := (-1)) hx hb dX3_pick_20 (by decide) ?_
  refine lv_icmp_ne (tgt := 29) hx hb dX3_pick_21 (by decide) (fun c9 => absurd (by decide) c9) (fun _ => ?_)
  refine lv_aload_n hx hb dX3_pick_24 rfl (lv_at hl 1 rfl) ?_
  have hPc := hP.sub (ws' := [(h0, .inr (7, [.ref h1, .ref h2, .ref z0, .ref z1, .ref z2, .ref z3, .int 0, .int 0, .int 0]))]) [0] rfl
  have hDc := hD.sub (ws' := [(h0, .inr (7, [.ref h1, .ref h2, .ref z0, .ref z1, .ref z2, .ref z3, .int 0, .int 0, .int 0]))]) [0] (by decide) rfl
  have hKc := hK.sub (tys' := []) [] rfl
  have hFc := va_free (wc := [(h0, .inr (7, [.ref h1, .ref h2, .ref z0, .ref z1, .ref z2, .ref z3, .int 0, .int 0, .int 0]))]) hD hS hA [0] rfl
  refine va_calli (va_runV (As := []) (rest := []) ⟨hx, hb, hml, hown, hts⟩ (kx_X3_refuse_0 l dC dI h0 h1 h2 z0 z1 z2 z3 H.size) (cwV 0 hts gX3_pick_X3_refuse rfl rfl rfl (by decide +kernel) ⟨Nat.le_of_ble_eq_true rfl, Nat.le_of_ble_eq_true rfl⟩) ⟨fun a U g mk q => by obtain ⟨q0, q1, qP, qK, qD⟩ := q; exact ⟨q0, q1, qP, va_K.moved (u := U) (U := U.calling g mk a) (Vm.Alike.refl U.vm) qK, qD⟩, va_recv hKc hPc (ci := 7) (q0 := 0) rfl rfl, fun U hU hW => ⟨rfl, by rw [hU], by rw [hU]; exact hPc, va_K.moved hW.alike hKc, hDc.weaken (fun _ _ _ _ => trivial)⟩⟩ rfl rfl hl.1 rfl (lv_room (Nat.le_of_ble_eq_true rfl)) dX3_pick_25 ⟨Nat.le_of_ble_eq_true rfl, Nat.le_of_ble_eq_true rfl⟩) hS (fun q _ h => hFc q h) hFc (fun r9 u t H1 locs ht hvm hw hB hz1 hk1 hS => ?_)
  obtain rfl := hw
  obtain ⟨hP1, hK1, hD1⟩ := hB
  rw [ht] at hP1
  have hK1 := va_K.moved hvm.symm hK1
  obtain ⟨hP, hD⟩ := va_join (wr := [(h1, .inl (k0, 4, .inr (.inr (.inr (.inr (va_up (va_up (va_up (va_up (fun _ => none) 0 (some z4)) 1 (some z5)) 2 (some z6)) 3 (some z7))))))), (h2, .inr (5, [.ref z8, .ref z9, .ref z10, .ref z11, .ref z12, .ref z13, .int 0, .int 0]))]) (w1 := [(h0, .inr (7, [.ref h1, .ref h2, .ref z0, .ref z1, .ref z2, .ref z3, .int 1, .int 0, .int 0]))]) hP hD [0] [1, 2] rfl rfl (by decide) (by decide) hk1 hFc hP1 hD1
  generalize H1 = H at hP hS ⊢
  have hP : va_P (dC, dI) vwCl [(h1, .inl (k0, 4, .inr (.inr (.inr (.inr (va_up (va_up (va_up (va_up (fun _ => none) 0 (some z4)) 1 (some z5)) 2 (some z6)) 3 (some z7))))))), (h2, .inr (5, [.ref z8, .ref z9, .ref z10, .ref z11, .ref z12, .ref z13, .int 0, .int 0])), (h0, .inr (7, [.ref h1, .ref h2, .ref z0, .ref z1, .ref z2, .ref z3, .int 1, .int 0, .int 0]))] H := hP
  have hD : va_D A [(h1, .inl (k0, 4, .inr (.inr (.inr (.inr (va_up (va_up (va_up (va_up (fun _ => none) 0 (some z4)) 1 (some z5)) 2 (some z6)) 3 (some z7))))))), (h2, .inr (5, [.ref z8, .ref z9, .ref z10, .ref z11, .ref z12, .ref z13, .int 0, .int 0])), (h0, .inr (7, [.ref h1, .ref h2, .ref z0, .ref z1, .ref z2, .ref z3, .int 1, .int 0, .int 0]))] := hD
  have hP := hP.sub (ws' := [(h0, .inr (7, [.ref h1, .ref h2, .ref z0, .ref z1, .ref z2, .ref z3, .int 1, .int 0, .int 0])), (h1, .inl (k0, 4, .inr (.inr (.inr (.inr (va_up (va_up (va_up (va_up (fun _ => none) 0 (some z4)) 1 (some z5)) 2 (some z6)) 3 (some z7))))))), (h2, .inr (5, [.ref z8, .ref z9, .ref z10, .ref z11, .ref z12, .ref z13, .int 0, .int 0]))]) [2, 0, 1] rfl
  have hD := hD.sub (ws' := [(h0, .inr (7, [.ref h1, .ref h2, .ref z0, .ref z1, .ref z2, .ref z3, .int 1, .int 0, .int 0])), (h1, .inl (k0, 4, .inr (.inr (.inr (.inr (va_up (va_up (va_up (va_up (fun _ => none) 0 (some z4)) 1 (some z5)) 2 (some z6)) 3 (some z7))))))), (h2, .inr (5, [.ref z8, .ref z9, .ref z10, .ref z11, .ref z12, .ref z13, .int 0, .int 0]))]) [2, 0, 1] (by decide) rfl
  exact W.iret (v := (-9)) hx hb hr (fun t ht hW => ⟨⟨(-9), (), rfl, rfl, by rw [ht]; exact hP, va_K.moved hW.alike hK, hD⟩, hS.F ht⟩) hS.2.2 dX3_pick_28
set_option maxHeartbeats 4000000 in
set_option maxRecDepth 100000 in
theorem kx_X3_pick_s0 (l : Launch) (dC : Nat → ClassId) (dI : Nat → Nat → Nat) (h0 : Nat) (h1 : Nat) (h2 : Nat) (z0 : Nat) (z1 : Nat) (z2 : Nat) (z3 : Nat) (z4 : Nat) (z5 : Nat) (z6 : Nat) (z7 : Nat) (z8 : Nat) (z9 : Nat) (z10 : Nat) (z11 : Nat) (z12 : Nat) (z13 : Nat) (k0 : ClassId) (sz : Nat) (i0 : Int32) (i0_l : ((-2147483648) : Int) ≤ i0.toInt) (i0_u : i0.toInt ≤ ((-1) : Int)) (j1 : Int32) (j1_l : (0 : Int) ≤ j1.toInt) (j1_u : j1.toInt ≤ (3 : Int)) : Met l yX3_pick wsX3_pick ({ frames := 1, cells := 0, slots := 0, locals := 24 }) (va_Pc [.ref h0, .int j1, .int i0] (fun U => U.heap.size = sz ∧ va_P (dC, dI) vwCl [(h0, .inr (7, [.ref h1, .ref h2, .ref z0, .ref z1, .ref z2, .ref z3, .int 0, .int 0, .int 0])), (h1, .inl (k0, 4, .inr (.inr (.inr (.inr (va_up (va_up (va_up (va_up (fun _ => none) 0 (some z4)) 1 (some z5)) 2 (some z6)) 3 (some z7))))))), (h2, .inr (5, [.ref z8, .ref z9, .ref z10, .ref z11, .ref z12, .ref z13, .int 0, .int 0]))] U.heap ∧ va_K (dC, dI) vwCl [(k0, .object "Rewriterope$Text")] U ∧ va_D (fun _ => True) [(h0, .inr (7, [.ref h1, .ref h2, .ref z0, .ref z1, .ref z2, .ref z3, .int 0, .int 0, .int 0])), (h1, .inl (k0, 4, .inr (.inr (.inr (.inr (va_up (va_up (va_up (va_up (fun _ => none) 0 (some z4)) 1 (some z5)) 2 (some z6)) 3 (some z7))))))), (h2, .inr (5, [.ref z8, .ref z9, .ref z10, .ref z11, .ref z12, .ref z13, .int 0, .int 0]))])) (va_Qi (fun (r : Int32) (_ : Unit) => r = (-9)) (fun (_ : Unit) (t : State) => va_P (dC, dI) vwCl [(h0, .inr (7, [.ref h1, .ref h2, .ref z0, .ref z1, .ref z2, .ref z3, .int 1, .int 0, .int 0])), (h1, .inl (k0, 4, .inr (.inr (.inr (.inr (va_up (va_up (va_up (va_up (fun _ => none) 0 (some z4)) 1 (some z5)) 2 (some z6)) 3 (some z7))))))), (h2, .inr (5, [.ref z8, .ref z9, .ref z10, .ref z11, .ref z12, .ref z13, .int 0, .int 0]))] t.heap ∧ va_K (dC, dI) vwCl [(k0, .object "Rewriterope$Text")] t ∧ va_D (va_A [(h0, .inr (7, [.ref h1, .ref h2, .ref z0, .ref z1, .ref z2, .ref z3, .int 0, .int 0, .int 0])), (h1, .inl (k0, 4, .inr (.inr (.inr (.inr (va_up (va_up (va_up (va_up (fun _ => none) 0 (some z4)) 1 (some z5)) 2 (some z6)) 3 (some z7))))))), (h2, .inr (5, [.ref z8, .ref z9, .ref z10, .ref z11, .ref z12, .ref z13, .int 0, .int 0]))] sz) [(h0, .inr (7, [.ref h1, .ref h2, .ref z0, .ref z1, .ref z2, .ref z3, .int 1, .int 0, .int 0])), (h1, .inl (k0, 4, .inr (.inr (.inr (.inr (va_up (va_up (va_up (va_up (fun _ => none) 0 (some z4)) 1 (some z5)) 2 (some z6)) 3 (some z7))))))), (h2, .inr (5, [.ref z8, .ref z9, .ref z10, .ref z11, .ref z12, .ref z13, .int 0, .int 0]))]) (va_A [(h0, .inr (7, [.ref h1, .ref h2, .ref z0, .ref z1, .ref z2, .ref z3, .int 0, .int 0, .int 0])), (h1, .inl (k0, 4, .inr (.inr (.inr (.inr (va_up (va_up (va_up (va_up (fun _ => none) 0 (some z4)) 1 (some z5)) 2 (some z6)) 3 (some z7))))))), (h2, .inr (5, [.ref z8, .ref z9, .ref z10, .ref z11, .ref z12, .ref z13, .int 0, .int 0]))] sz)) 0 0 (va_A [(h0, .inr (7, [.ref h1, .ref h2, .ref z0, .ref z1, .ref z2, .ref z3, .int 0, .int 0, .int 0])), (h1, .inl (k0, 4, .inr (.inr (.inr (.inr (va_up (va_up (va_up (va_up (fun _ => none) 0 (some z4)) 1 (some z5)) 2 (some z6)) 3 (some z7))))))), (h2, .inr (5, [.ref z8, .ref z9, .ref z10, .ref z11, .ref z12, .ref z13, .int 0, .int 0]))] sz) := by
  have e9 : j1 = 0 ∨ j1 = 1 ∨ j1 = 2 ∨ j1 = 3 := by
    have h9 : j1.toInt = 0 ∨ j1.toInt = 1 ∨ j1.toInt = 2 ∨ j1.toInt = 3 := by omega
    rcases h9 with h9 | h9 | h9 | h9
    · exact Or.inl (Int32.toInt_inj.mp (h9.trans (by decide)))
    · exact Or.inr (Or.inl (Int32.toInt_inj.mp (h9.trans (by decide))))
    · exact Or.inr (Or.inr (Or.inl (Int32.toInt_inj.mp (h9.trans (by decide)))))
    · exact Or.inr (Or.inr (Or.inr (Int32.toInt_inj.mp (h9.trans (by decide)))))
  rcases e9 with rfl | rfl | rfl | rfl
  · exact kx_X3_pick_2 l dC dI h0 h1 h2 z0 z1 z2 z3 z4 z5 z6 z7 z8 z9 z10 z11 z12 z13 k0 sz i0 i0_l i0_u
  · exact kx_X3_pick_3 l dC dI h0 h1 h2 z0 z1 z2 z3 z4 z5 z6 z7 z8 z9 z10 z11 z12 z13 k0 sz i0 i0_l i0_u
  · exact kx_X3_pick_4 l dC dI h0 h1 h2 z0 z1 z2 z3 z4 z5 z6 z7 z8 z9 z10 z11 z12 z13 k0 sz i0 i0_l i0_u
  · exact kx_X3_pick_5 l dC dI h0 h1 h2 z0 z1 z2 z3 z4 z5 z6 z7 z8 z9 z10 z11 z12 z13 k0 sz i0 i0_l i0_u
set_option maxHeartbeats 4000000 in
set_option maxRecDepth 100000 in
theorem kx_L_pick_2 (l : Launch) (dC : Nat → ClassId) (dI : Nat → Nat → Nat) (ge5 gea gv5 gva gde gic gi0 : Nat) (h0 : Nat) (h1 : Nat) (h2 : Nat) (h3 : Nat) (z0 : Nat) (z1 : Nat) (z2 : Nat) (z3 : Nat) (z4 : Nat) (z5 : Nat) (z6 : Nat) (z7 : Nat) (z8 : Nat) (z9 : Nat) (z10 : Nat) (z11 : Nat) (z12 : Nat) (z13 : Nat) (k0 : ClassId) (sz : Nat) (i0 : Int32) (i0_l : (0 : Int) ≤ i0.toInt) (i0_u : i0.toInt ≤ (3 : Int)) (i1 : Int32) (i1_l : ((-2147483648) : Int) ≤ i1.toInt) (i1_u : i1.toInt ≤ ((-1) : Int)) : Met l yL_pick wsL_pick ({ frames := 2, cells := 0, slots := 0, locals := 47 }) (va_Pc [.ref h0, .int i0, .int i1, .ref h3] (fun U => U.heap.size = sz ∧ va_P (dC, dI) vwCl [(h0, .inr (7, [.ref h1, .ref h2, .ref z0, .ref z1, .ref z2, .ref z3, .int 0, .int 0, .int 0])), (h1, .inl (k0, 4, .inr (.inr (.inr (.inr (va_up (va_up (va_up (va_up (fun _ => none) 0 (some z4)) 1 (some z5)) 2 (some z6)) 3 (some z7))))))), (h2, .inr (5, [.ref z8, .ref z9, .ref z10, .ref z11, .ref z12, .ref z13, .int 0, .int 0])), (h3, .inr (8, [.long 0, .null]))] U.heap ∧ va_K (dC, dI) vwCl [(k0, .object "Rewriterope$Text")] U ∧ va_D (fun _ => True) [(h0, .inr (7, [.ref h1, .ref h2, .ref z0, .ref z1, .ref z2, .ref z3, .int 0, .int 0, .int 0])), (h1, .inl (k0, 4, .inr (.inr (.inr (.inr (va_up (va_up (va_up (va_up (fun _ => none) 0 (some z4)) 1 (some z5)) 2 (some z6)) 3 (some z7))))))), (h2, .inr (5, [.ref z8, .ref z9, .ref z10, .ref z11, .ref z12, .ref z13, .int 0, .int 0])), (h3, .inr (8, [.long 0, .null]))] ∧ gv ge5 gea gv5 gva gde gic gi0 (va_A [(h0, .inr (7, [.ref h1, .ref h2, .ref z0, .ref z1, .ref z2, .ref z3, .int 0, .int 0, .int 0])), (h1, .inl (k0, 4, .inr (.inr (.inr (.inr (va_up (va_up (va_up (va_up (fun _ => none) 0 (some z4)) 1 (some z5)) 2 (some z6)) 3 (some z7))))))), (h2, .inr (5, [.ref z8, .ref z9, .ref z10, .ref z11, .ref z12, .ref z13, .int 0, .int 0])), (h3, .inr (8, [.long 0, .null]))] sz) U U.heap)) (va_Qi (fun (r : Int32) (_ : Unit) => r = 0) (fun (_ : Unit) (t : State) => va_P (dC, dI) vwCl [(h0, .inr (7, [.ref h1, .ref h2, .ref z0, .ref z1, .ref z2, .ref z3, .int 1, .int 0, .int 0])), (h1, .inl (k0, 4, .inr (.inr (.inr (.inr (va_up (va_up (va_up (va_up (fun _ => none) 0 (some z4)) 1 (some z5)) 2 (some z6)) 3 (some z7))))))), (h2, .inr (5, [.ref z8, .ref z9, .ref z10, .ref z11, .ref z12, .ref z13, .int 0, .int 0])), (h3, .inr (8, [.long (-9), .null]))] t.heap ∧ va_K (dC, dI) vwCl [(k0, .object "Rewriterope$Text")] t ∧ va_D (va_A [(h0, .inr (7, [.ref h1, .ref h2, .ref z0, .ref z1, .ref z2, .ref z3, .int 0, .int 0, .int 0])), (h1, .inl (k0, 4, .inr (.inr (.inr (.inr (va_up (va_up (va_up (va_up (fun _ => none) 0 (some z4)) 1 (some z5)) 2 (some z6)) 3 (some z7))))))), (h2, .inr (5, [.ref z8, .ref z9, .ref z10, .ref z11, .ref z12, .ref z13, .int 0, .int 0])), (h3, .inr (8, [.long 0, .null]))] sz) [(h0, .inr (7, [.ref h1, .ref h2, .ref z0, .ref z1, .ref z2, .ref z3, .int 1, .int 0, .int 0])), (h1, .inl (k0, 4, .inr (.inr (.inr (.inr (va_up (va_up (va_up (va_up (fun _ => none) 0 (some z4)) 1 (some z5)) 2 (some z6)) 3 (some z7))))))), (h2, .inr (5, [.ref z8, .ref z9, .ref z10, .ref z11, .ref z12, .ref z13, .int 0, .int 0])), (h3, .inr (8, [.long (-9), .null]))]) (va_A [(h0, .inr (7, [.ref h1, .ref h2, .ref z0, .ref z1, .ref z2, .ref z3, .int 0, .int 0, .int 0])), (h1, .inl (k0, 4, .inr (.inr (.inr (.inr (va_up (va_up (va_up (va_up (fun _ => none) 0 (some z4)) 1 (some z5)) 2 (some z6)) 3 (some z7))))))), (h2, .inr (5, [.ref z8, .ref z9, .ref z10, .ref z11, .ref z12, .ref z13, .int 0, .int 0])), (h3, .inr (8, [.long 0, .null]))] sz)) 0 0 (va_A [(h0, .inr (7, [.ref h1, .ref h2, .ref z0, .ref z1, .ref z2, .ref z3, .int 0, .int 0, .int 0])), (h1, .inl (k0, 4, .inr (.inr (.inr (.inr (va_up (va_up (va_up (va_up (fun _ => none) 0 (some z4)) 1 (some z5)) 2 (some z6)) 3 (some z7))))))), (h2, .inr (5, [.ref z8, .ref z9, .ref z10, .ref z11, .ref z12, .ref z13, .int 0, .int 0])), (h3, .inr (8, [.long 0, .null]))] sz) := by
  refine kz_ofWH (cc := cL_pick) (maxL := 5) (ret := (some .int)) (hh := [(0, 11, 14, 19)]) (by decide) rfl ?_
  intro p e s m args below meth c s₁ B hml hv
  obtain ⟨rfl, hsz, hP, hK, hD0, hG⟩ := hv
  have hx := B.exec
  have hb := B.bytes
  have hr := B.returns
  have hts := atoms_spec (ws := wsL_pick) B.pre
  have hown : s.vm.findClass RL = some m.cls := findClass_of_methodNamed B.named
  have htab := vx_table (x := yL_pick) B (hts (.codeWith yL_pick cL_pick 5 (some .int) [(0, 11, 14, 19)]) (by decide +kernel))
  have hlocks := B.notSynchronized
  subst hsz
  have hD := hD0.self (sz := s.heap.size)
  generalize hAe : va_A [(h0, .inr (7, [.ref h1, .ref h2, .ref z0, .ref z1, .ref z2, .ref z3, .int 0, .int 0, .int 0])), (h1, .inl (k0, 4, .inr (.inr (.inr (.inr (va_up (va_up (va_up (va_up (fun _ => none) 0 (some z4)) 1 (some z5)) 2 (some z6)) 3 (some z7))))))), (h2, .inr (5, [.ref z8, .ref z9, .ref z10, .ref z11, .ref z12, .ref z13, .int 0, .int 0])), (h3, .inr (8, [.long 0, .null]))] s.heap.size = A at hD hG ⊢
  obtain ⟨⟨g_AO_Text, g_AO_String, g_AO_Object, g_nm_RX1_20, g_nm_RX0_17, g_nm_RX3_31, g_nm_RX2_44, g_nm_RL_121, g_nf_RL_13, g_nf_RL_47, g_ca_IO, g_ca_IA, g_ca_IS, g_ca_IntObj, g_ca_StrObj, g_de_RT, g_de_EX, g_de_TH, g_nc_IA_IO, g_nc_IS_IO, g_nc_IS_IA⟩, ⟨g_s3, g_s5, g_sa, g_x278, g_x280, g_x282, g_x284, g_x286, g_x180, g_x238, g_x250⟩, ⟨g_o5, g_c5, g_v5, g_t5, g_oa, g_ca, g_va, g_ta, g_zc, g_zd, g_td, g_zf, g_zU, g_zN, g_zh, g_zk, g_tk, g_oi, g_vi⟩⟩ := id hG
  have hA : ∀ q : Nat, s.heap.size ≤ q → A q := fun q h => by rw [← hAe]; exact Or.inr h
  have hS : va_S A s.heap s.heap [] := va_S.rf
  have hP : va_P (dC, dI) vwCl [(h0, .inr (7, [.ref h1, .ref h2, .ref z0, .ref z1, .ref z2, .ref z3, .int 0, .int 0, .int 0])), (h1, .inl (k0, 4, .inr (.inr (.inr (.inr (va_up (va_up (va_up (va_up (fun _ => none) 0 (some z4)) 1 (some z5)) 2 (some z6)) 3 (some z7))))))), (h2, .inr (5, [.ref z8, .ref z9, .ref z10, .ref z11, .ref z12, .ref z13, .int 0, .int 0])), (h3, .inr (8, [.long 0, .null]))] s.heap := hP
  have hl := lv_entry ([.ref h0, .int i0, .int i1, .ref h3]) (n := 5) (Nat.le_of_ble_eq_true rfl)
  rw [lg_entry_eq]
  generalize (lg_sl ([.ref h0, .int i0, .int i1, .ref h3]) ++ List.replicate (5 - (lg_sl ([.ref h0, .int i0, .int i1, .ref h3])).length) Slot.unset).toArray = ls at hl ⊢
  have hl : lv_has ls 5 [(0, .ref h0), (1, .int i0), (2, .int i1), (3, .ref h3)] := hl
  refine lv_aload_n hx hb dL_pick_0 rfl (lv_at hl 3 rfl) ?_
  refine lv_aload_n hx hb dL_pick_1 rfl (lv_at hl 0 rfl) ?_
  refine lv_iload_n hx hb dL_pick_2 rfl (lv_at hl 1 rfl) ?_
  refine lv_iload_n hx hb dL_pick_3 rfl (lv_at hl 2 rfl) ?_
  have hPc := hP.sub (ws' := [(h0, .inr (7, [.ref h1, .ref h2, .ref z0, .ref z1, .ref z2, .ref z3, .int 0, .int 0, .int 0])), (h1, .inl (k0, 4, .inr (.inr (.inr (.inr (va_up (va_up (va_up (va_up (fun _ => none) 0 (some z4)) 1 (some z5)) 2 (some z6)) 3 (some z7))))))), (h2, .inr (5, [.ref z8, .ref z9, .ref z10, .ref z11, .ref z12, .ref z13, .int 0, .int 0]))]) [0, 1, 2] rfl
  have hDc := hD.sub (ws' := [(h0, .inr (7, [.ref h1, .ref h2, .ref z0, .ref z1, .ref z2, .ref z3, .int 0, .int 0, .int 0])), (h1, .inl (k0, 4, .inr (.inr (.inr (.inr (va_up (va_up (va_up (va_up (fun _ => none) 0 (some z4)) 1 (some z5)) 2 (some z6)) 3 (some z7))))))), (h2, .inr (5, [.ref z8, .ref z9, .ref z10, .ref z11, .ref z12, .ref z13, .int 0, .int 0]))]) [0, 1, 2] (by decide) rfl
  have hKc := hK.sub (tys' := [(k0, .object "Rewriterope$Text")]) [0] rfl
  have hFc := va_free (wc := [(h0, .inr (7, [.ref h1, .ref h2, .ref z0, .ref z1, .ref z2, .ref z3, .int 0, .int 0, .int 0])), (h1, .inl (k0, 4, .inr (.inr (.inr (.inr (va_up (va_up (va_up (va_up (fun _ => none) 0 (some z4)) 1 (some z5)) 2 (some z6)) 3 (some z7))))))), (h2, .inr (5, [.ref z8, .ref z9, .ref z10, .ref z11, .ref z12, .ref z13, .int 0, .int 0]))]) hD hS hA [0, 1, 2] rfl
  refine va_calli (va_runV (As := [.int i0, .int i1]) (rest := [.ref h3]) ⟨hx, hb, hml, hown, hts⟩ (kx_X3_pick_s0 l dC dI h0 h1 h2 z0 z1 z2 z3 z4 z5 z6 z7 z8 z9 z10 z11 z12 z13 k0 s.heap.size i1 i1_l i1_u i0 i0_l i0_u) (cwV 2 hts gL_pick_X3_pick rfl rfl rfl (by decide +kernel) ⟨Nat.le_of_ble_eq_true rfl, Nat.le_of_ble_eq_true rfl⟩) ⟨fun a U g mk q => by obtain ⟨q0, q1, qP, qK, qD⟩ := q; exact ⟨q0, q1, qP, va_K.moved (u := U) (U := U.calling g mk a) (Vm.Alike.refl U.vm) qK, qD⟩, va_recv hKc hPc (ci := 7) (q0 := 0) rfl rfl, fun U hU hW => ⟨rfl, by rw [hU], by rw [hU]; exact hPc, va_K.moved hW.alike hKc, hDc.weaken (fun _ _ _ _ => trivial)⟩⟩ rfl rfl hl.1 rfl (lv_room (Nat.le_of_ble_eq_true rfl)) dL_pick_4 ⟨Nat.le_of_ble_eq_true rfl, Nat.le_of_ble_eq_true rfl⟩) hS (fun q _ h => hFc q h) hFc (fun r9 u t H1 locs ht hvm hw hB hz1 hk1 hS => ?_)
  obtain rfl := hw
  obtain ⟨hP1, hK1, hD1⟩ := hB
  rw [ht] at hP1
  have hK1 := va_K.moved hvm.symm hK1
  obtain ⟨hP, hD⟩ := va_join (wr := [(h3, .inr (8, [.long 0, .null]))]) (w1 := [(h0, .inr (7, [.ref h1, .ref h2, .ref z0, .ref z1, .ref z2, .ref z3, .int 1, .int 0, .int 0])), (h1, .inl (k0, 4, .inr (.inr (.inr (.inr (va_up (va_up (va_up (va_up (fun _ => none) 0 (some z4)) 1 (some z5)) 2 (some z6)) 3 (some z7))))))), (h2, .inr (5, [.ref z8, .ref z9, .ref z10, .ref z11, .ref z12, .ref z13, .int 0, .int 0]))]) hP hD [0, 1, 2] [3] rfl rfl (by decide) (by decide) hk1 hFc hP1 hD1
  generalize H1 = H at hP hS ⊢
  have hP : va_P (dC, dI) vwCl [(h3, .inr (8, [.long 0, .null])), (h0, .inr (7, [.ref h1, .ref h2, .ref z0, .ref z1, .ref z2, .ref z3, .int 1, .int 0, .int 0])), (h1, .inl (k0, 4, .inr (.inr (.inr (.inr (va_up (va_up (va_up (va_up (fun _ => none) 0 (some z4)) 1 (some z5)) 2 (some z6)) 3 (some z7))))))), (h2, .inr (5, [.ref z8, .ref z9, .ref z10, .ref z11, .ref z12, .ref z13, .int 0, .int 0]))] H := hP
  have hD : va_D A [(h3, .inr (8, [.long 0, .null])), (h0, .inr (7, [.ref h1, .ref h2, .ref z0, .ref z1, .ref z2, .ref z3, .int 1, .int 0, .int 0])), (h1, .inl (k0, 4, .inr (.inr (.inr (.inr (va_up (va_up (va_up (va_up (fun _ => none) 0 (some z4)) 1 (some z5)) 2 (some z6)) 3 (some z7))))))), (h2, .inr (5, [.ref z8, .ref z9, .ref z10, .ref z11, .ref z12, .ref z13, .int 0, .int 0]))] := hD
  refine lv_i2l (v := (-9)) hx hb dL_pick_7 (by decide) ?_
  refine va_putN (D := (dC, dI)) (ci := 8) (v := .long (-9)) (ty := .long) (C := RX4) (T := TX4) (N := 2) hx hb hts (by decide +kernel) tyX4 tyX4_ok nmX4 hown hK hP hD hS 0 rfl rfl 0 (by decide) (va_Nw.use rfl g_nf_RL_13) (fun _ h9 => h9) rfl (by decide +kernel) rfl rfl (Nat.le_of_ble_eq_true rfl) dL_pick_8 (fun H locs hP hD hS => ?_)
  have hP : va_P (dC, dI) vwCl [(h3, .inr (8, [.long (-9), .null])), (h0, .inr (7, [.ref h1, .ref h2, .ref z0, .ref z1, .ref z2, .ref z3, .int 1, .int 0, .int 0])), (h1, .inl (k0, 4, .inr (.inr (.inr (.inr (va_up (va_up (va_up (va_up (fun _ => none) 0 (some z4)) 1 (some z5)) 2 (some z6)) 3 (some z7))))))), (h2, .inr (5, [.ref z8, .ref z9, .ref z10, .ref z11, .ref z12, .ref z13, .int 0, .int 0]))] H := hP
  have hD : va_D A [(h3, .inr (8, [.long (-9), .null])), (h0, .inr (7, [.ref h1, .ref h2, .ref z0, .ref z1, .ref z2, .ref z3, .int 1, .int 0, .int 0])), (h1, .inl (k0, 4, .inr (.inr (.inr (.inr (va_up (va_up (va_up (va_up (fun _ => none) 0 (some z4)) 1 (some z5)) 2 (some z6)) 3 (some z7))))))), (h2, .inr (5, [.ref z8, .ref z9, .ref z10, .ref z11, .ref z12, .ref z13, .int 0, .int 0]))] := hD
  refine lv_goto (tgt := 18) hx hb dL_pick_11 (by decide) ?_
  refine lv_iconst (v := 0) hx hb dL_pick_18 (by decide) ?_
  have hP := hP.sub (ws' := [(h0, .inr (7, [.ref h1, .ref h2, .ref z0, .ref z1, .ref z2, .ref z3, .int 1, .int 0, .int 0])), (h1, .inl (k0, 4, .inr (.inr (.inr (.inr (va_up (va_up (va_up (va_up (fun _ => none) 0 (some z4)) 1 (some z5)) 2 (some z6)) 3 (some z7))))))), (h2, .inr (5, [.ref z8, .ref z9, .ref z10, .ref z11, .ref z12, .ref z13, .int 0, .int 0])), (h3, .inr (8, [.long (-9), .null]))]) [1, 2, 3, 0] rfl
  have hD := hD.sub (ws' := [(h0, .inr (7, [.ref h1, .ref h2, .ref z0, .ref z1, .ref z2, .ref z3, .int 1, .int 0, .int 0])), (h1, .inl (k0, 4, .inr (.inr (.inr (.inr (va_up (va_up (va_up (va_up (fun _ => none) 0 (some z4)) 1 (some z5)) 2 (some z6)) 3 (some z7))))))), (h2, .inr (5, [.ref z8, .ref z9, .ref z10, .ref z11, .ref z12, .ref z13, .int 0, .int 0])), (h3, .inr (8, [.long (-9), .null]))]) [1, 2, 3, 0] (by decide) rfl
  exact W.iret (v := 0) hx hb hr (fun t ht hW => ⟨⟨0, (), rfl, rfl, by rw [ht]; exact hP, va_K.moved hW.alike hK, hD⟩, hS.F ht⟩) hS.2.2 dL_pick_19
set_option maxHeartbeats 4000000 in
set_option maxRecDepth 100000 in
theorem kx_X5_spotsOf_0 (l : Launch) (dC : Nat → ClassId) (dI : Nat → Nat → Nat) (ge5 gea gv5 gva gde gic gi0 : Nat) (h0 : Nat) (z0 : Nat) (z1 : Nat) (z2 : Nat) (sz : Nat) : Met l yX5_spotsOf wsX5_spotsOf ({ frames := 4, cells := 1, slots := 3, locals := 72 }) (va_Pc [.ref h0, .ref ge5] (fun U => U.heap.size = sz ∧ va_P (dC, dI) vwCl [(h0, .inr (9, [.int 0, .ref z0, .ref z1, .ref z2, .int 0, .int 0, .int 0]))] U.heap ∧ va_K (dC, dI) vwCl [] U ∧ va_D (fun _ => True) [(h0, .inr (9, [.int 0, .ref z0, .ref z1, .ref z2, .int 0, .int 0, .int 0]))] ∧ gv ge5 gea gv5 gva gde gic gi0 (va_A [(h0, .inr (9, [.int 0, .ref z0, .ref z1, .ref z2, .int 0, .int 0, .int 0]))] sz) U U.heap)) (va_Qr (fun _ : Unit => True) (fun (_ : Unit) (ra : Nat) (t : State) => ∃ q1 : Nat, ra = q1 ∧ va_P (dC, dI) vwCl [(h0, .inr (9, [.int 0, .ref z0, .ref z1, .ref z2, .int 0, .int 0, .int 0])), (q1, .inr (3, [.int 0, .ref gde, .int 0]))] t.heap ∧ va_K (dC, dI) vwCl [] t ∧ va_D (va_A [(h0, .inr (9, [.int 0, .ref z0, .ref z1, .ref z2, .int 0, .int 0, .int 0]))] sz) [(h0, .inr (9, [.int 0, .ref z0, .ref z1, .ref z2, .int 0, .int 0, .int 0])), (q1, .inr (3, [.int 0, .ref gde, .int 0]))]) (va_A [(h0, .inr (9, [.int 0, .ref z0, .ref z1, .ref z2, .int 0, .int 0, .int 0]))] sz)) 1 3 (va_A [(h0, .inr (9, [.int 0, .ref z0, .ref z1, .ref z2, .int 0, .int 0, .int 0]))] sz) := by
  refine Met.ofW (cc := cX5_spotsOf) (maxL := 5) (ret := (some (.object "java/util/ArrayList"))) (by decide) rfl ?_
  intro p e s m args below meth c s₁ B hml hv
  obtain ⟨rfl, hsz, hP, hK, hD0, hG⟩ := hv
  have hx := B.exec
  have hb := B.bytes
  have hr := B.returns
  have hts := atoms_spec (ws := wsX5_spotsOf) B.pre
  have hown : s.vm.findClass RX5 = some m.cls := findClass_of_methodNamed B.named
  have hlocks := B.notSynchronized
  subst hsz
  have hD := hD0.self (sz := s.heap.size)
  generalize hAe : va_A [(h0, .inr (9, [.int 0, .ref z0, .ref z1, .ref z2, .int 0, .int 0, .int 0]))] s.heap.size = A at hD hG ⊢
  obtain ⟨⟨g_AO_Text, g_AO_String, g_AO_Object, g_nm_RX1_20, g_nm_RX0_17, g_nm_RX3_31, g_nm_RX2_44, g_nm_RL_121, g_nf_RL_13, g_nf_RL_47, g_ca_IO, g_ca_IA, g_ca_IS, g_ca_IntObj, g_ca_StrObj, g_de_RT, g_de_EX, g_de_TH, g_nc_IA_IO, g_nc_IS_IO, g_nc_IS_IA⟩, ⟨g_s3, g_s5, g_sa, g_x278, g_x280, g_x282, g_x284, g_x286, g_x180, g_x238, g_x250⟩, ⟨g_o5, g_c5, g_v5, g_t5, g_oa, g_ca, g_va, g_ta, g_zc, g_zd, g_td, g_zf, g_zU, g_zN, g_zh, g_zk, g_tk, g_oi, g_vi⟩⟩ := id hG
  have hA : ∀ q : Nat, s.heap.size ≤ q → A q := fun q h => by rw [← hAe]; exact Or.inr h
  have hS : va_S A s.heap s.heap [] := va_S.rf
  have hP : va_P (dC, dI) vwCl [(h0, .inr (9, [.int 0, .ref z0, .ref z1, .ref z2, .int 0, .int 0, .int 0]))] s.heap := hP
  have hl := lv_entry ([.ref h0, .ref ge5]) (n := 5) (Nat.le_of_ble_eq_true rfl)
  rw [lg_entry_eq]
  generalize (lg_sl ([.ref h0, .ref ge5]) ++ List.replicate (5 - (lg_sl ([.ref h0, .ref ge5])).length) Slot.unset).toArray = ls at hl ⊢
  have hl : lv_has ls 5 [(0, .ref h0), (1, .ref ge5)] := hl
  refine va_new (ci := 3) (fs := [.int 0, .null, .int 0]) (C := RJx4a65c) (T := TJx4a65c) (N := 3) hx hb hts (by decide +kernel) tyJx4a65c tyJx4a65c_ok hown (hts (.classLink RX5 17 RJx4a65c) (by decide +kernel)) (hts (.instantiable RJx4a65c 3) (by decide +kernel)) (hts (.initialized RJx4a65c) (by decide +kernel)) hK hP hD hS hA rfl (fun j hj => by rcases (show j = 0 ∨ j = 1 ∨ j = 2 by omega) with rfl | rfl | rfl <;> rfl) (Nat.le_of_ble_eq_true rfl) (Nat.le_of_ble_eq_true rfl) dX5_spotsOf_0 (fun q1 H hP hD hS => ?_)
  have hP : va_P (dC, dI) vwCl [(h0, .inr (9, [.int 0, .ref z0, .ref z1, .ref z2, .int 0, .int 0, .int 0])), (q1, .inr (3, [.int 0, .null, .int 0]))] H := hP
  have hD : va_D A [(h0, .inr (9, [.int 0, .ref z0, .ref z1, .ref z2, .int 0, .int 0, .int 0])), (q1, .inr (3, [.int 0, .null, .int 0]))] := hD
  refine W.widen (k := 1) (n := 3) (by omega) (by omega) ?_
  refine lv_dup hx hb dX5_spotsOf_3 rfl ?_
  have hPc := hP.sub (ws' := [(q1, .inr (3, [.int 0, .null, .int 0]))]) [1] rfl
  have hDc := hD.sub (ws' := [(q1, .inr (3, [.int 0, .null, .int 0]))]) [1] (by decide) rfl
  have hKc := hK.sub (tys' := []) [] rfl
  have hFc := va_free (wc := [(q1, .inr (3, [.int 0, .null, .int 0]))]) hD hS hA [1] rfl
  refine va_callv (va_runI (As := []) (rest := [.ref q1]) ⟨hx, hb, hml, hown, hts⟩ (kx_Jx4a65c_init_da8c8_0 l dC dI ge5 gea gv5 gva gde gic gi0 q1 H.size) (cwI 0 hts gX5_spotsOf_Jx4a65c_init_da8c8 rfl rfl rfl (hts (.initialized RJx4a65c) (by decide +kernel)) (hts (.methodLink RX5 19 yJx4a65c_init_da8c8) (by decide +kernel)) (hts (.instanceMethod yJx4a65c_init_da8c8) (by decide +kernel)) rfl (by decide +kernel) ⟨Nat.le_of_ble_eq_true rfl, Nat.le_of_ble_eq_true rfl⟩) ⟨fun a U g mk q => by obtain ⟨q0, q1, qP, qK, qD, qG⟩ := q; exact ⟨q0, q1, qP, va_K.moved (u := U) (U := U.calling g mk a) (Vm.Alike.refl U.vm) qK, qD, gv.fb qG⟩, fun U hU hW => ⟨rfl, by rw [hU], by rw [hU]; exact hPc, va_K.moved hW.alike hKc, hDc.weaken (fun _ _ _ _ => trivial), gv.pass hW hU hS hFc hG⟩⟩ rfl rfl hl.1 rfl (lv_room (Nat.le_of_ble_eq_true rfl)) dX5_spotsOf_4 ⟨Nat.le_of_ble_eq_true rfl, Nat.le_of_ble_eq_true rfl⟩) hS (fun q _ h => hFc q h) hFc (fun u t H1 locs ht hvm hw hB hz1 hk1 hS => ?_)
  obtain ⟨hP1, hK1, hD1⟩ := hB
  rw [ht] at hP1
  have hK1 := va_K.moved hvm.symm hK1
  obtain ⟨hP, hD⟩ := va_join (wr := [(h0, .inr (9, [.int 0, .ref z0, .ref z1, .ref z2, .int 0, .int 0, .int 0]))]) (w1 := [(q1, .inr (3, [.int 0, .ref gde, .int 0]))]) hP hD [1] [0] rfl rfl (by decide) (by decide) hk1 hFc hP1 hD1
  generalize H1 = H at hP hS ⊢
  have hP : va_P (dC, dI) vwCl [(h0, .inr (9, [.int 0, .ref z0, .ref z1, .ref z2, .int 0, .int 0, .int 0])), (q1, .inr (3, [.int 0, .ref gde, .int 0]))] H := hP
  have hD : va_D A [(h0, .inr (9, [.int 0, .ref z0, .ref z1, .ref z2, .int 0, .int 0, .int 0])), (q1, .inr (3, [.int 0, .ref gde, .int 0]))] := hD
  refine lv_astore_n (lv' := [(2, .ref q1), (0, .ref h0), (1, .ref ge5)]) hx hb dX5_spotsOf_7 rfl hl (by decide) rfl (fun ls hl => ?_)
  refine lv_iconst (v := 0) hx hb dX5_spotsOf_8 (by decide) ?_
  refine lv_istore_n (lv' := [(3, .int 0), (2, .ref q1), (0, .ref h0), (1, .ref ge5)]) hx hb dX5_spotsOf_9 rfl hl (by decide) rfl (fun ls hl => ?_)
  refine lv_iload_n hx hb dX5_spotsOf_10 rfl (lv_at hl 0 rfl) ?_
  refine lv_aload_n hx hb dX5_spotsOf_11 rfl (lv_at hl 3 rfl) ?_
  have hPc := hP.sub (ws' := []) [] rfl
  have hDc := hD.sub (ws' := []) [] (by decide) rfl
  have hKc := hK.sub (tys' := []) [] rfl
  have hFc := va_free (wc := []) hD hS hA [] rfl
  refine va_calli (va_runV (As := []) (rest := [.int 0]) ⟨hx, hb, hml, hown, hts⟩ (kx_J0_length_8abf5_0 l dC dI ge5 gea gv5 gva gde gic gi0 H.size) (cwV 0 hts gX5_spotsOf_J0_length_8abf5 rfl rfl rfl (by decide +kernel) ⟨Nat.le_of_ble_eq_true rfl, Nat.le_of_ble_eq_true rfl⟩) ⟨fun a U g mk q => by obtain ⟨q0, q1, qP, qK, qD, qG⟩ := q; exact ⟨q0, q1, qP, va_K.moved (u := U) (U := U.calling g mk a) (Vm.Alike.refl U.vm) qK, qD, gv.fb qG⟩, (by obtain ⟨cell, k1, k2, k3, -⟩ := g_o5.kept hS.2.1; exact ⟨cell, k1, k2, k3⟩), fun U hU hW => ⟨rfl, by rw [hU], by rw [hU]; exact hPc, va_K.moved hW.alike hKc, hDc.weaken (fun _ _ _ _ => trivial), gv.pass hW hU hS hFc hG⟩⟩ rfl rfl hl.1 rfl (lv_room (Nat.le_of_ble_eq_true rfl)) dX5_spotsOf_12 ⟨Nat.le_of_ble_eq_true rfl, Nat.le_of_ble_eq_true rfl⟩) hS (fun q _ h => hFc q h) hFc (fun r9 u t H1 locs ht hvm hw hB hz1 hk1 hS => ?_)
  obtain rfl := hw
  obtain ⟨hP1, hK1, hD1⟩ := hB
  rw [ht] at hP1
  have hK1 := va_K.moved hvm.symm hK1
  obtain ⟨hP, hD⟩ := va_join (wr := [(h0, .inr (9, [.int 0, .ref z0, .ref z1, .ref z2, .int 0, .int 0, .int 0])), (q1, .inr (3, [.int 0, .ref gde, .int 0]))]) (w1 := []) hP hD [] [0, 1] rfl rfl (by decide) (by decide) hk1 hFc hP1 hD1
  generalize H1 = H at hP hS ⊢
  have hP : va_P (dC, dI) vwCl [(h0, .inr (9, [.int 0, .ref z0, .ref z1, .ref z2, .int 0, .int 0, .int 0])), (q1, .inr (3, [.int 0, .ref gde, .int 0]))] H := hP
  have hD : va_D A [(h0, .inr (9, [.int 0, .ref z0, .ref z1, .ref z2, .int 0, .int 0, .int 0])), (q1, .inr (3, [.int 0, .ref gde, .int 0]))] := hD
  refine lv_icmp_ge (tgt := 82) hx hb dX5_spotsOf_15 (by decide) (fun _ => ?_) (fun c9 => absurd (by decide) c9)
  refine lv_aload_n hx hb dX5_spotsOf_82 rfl (lv_at hl 1 rfl) ?_
  exact W.aret (v := .ref q1) hx hb hr (Or.inl ⟨_, rfl⟩) (Or.inr ⟨_, rfl⟩) (fun t ht hW => ⟨⟨(), q1, rfl, trivial, q1, rfl, by rw [ht]; exact hP, va_K.moved hW.alike hK, hD⟩, hS.F ht⟩) hS.2.2 dX5_spotsOf_83
set_option maxHeartbeats 4000000 in
set_option maxRecDepth 100000 in
theorem kx_X5_pick_2 (l : Launch) (dC : Nat → ClassId) (dI : Nat → Nat → Nat) (ge5 gea gv5 gva gde gic gi0 : Nat) (h0 : Nat) (h1 : Nat) (z0 : Nat) (z1 : Nat) (k0 : ClassId) (sz : Nat) (i0 : Int32) (i0_l : (0 : Int) ≤ i0.toInt) (i0_u : i0.toInt ≤ (3 : Int)) (i1 : Int32) (i1_l : ((-2147483648) : Int) ≤ i1.toInt) (i1_u : i1.toInt ≤ ((-1) : Int)) : Met l yX5_pick wsX5_pick ({ frames := 5, cells := 1, slots := 3, locals := 96 }) (va_Pc [.ref h0, .int i0, .int i1] (fun U => U.heap.size = sz ∧ va_P (dC, dI) vwCl [(h0, .inr (9, [.int 0, .ref h1, .ref z0, .ref z1, .int 0, .int 0, .int 0])), (h1, .inl (k0, 4, .inr (.inr (.inr (.inr (va_up (va_up (va_up (va_up (fun _ => none) 0 (some ge5)) 1 (some ge5)) 2 (some ge5)) 3 (some ge5)))))))] U.heap ∧ va_K (dC, dI) vwCl [(k0, .object "java/lang/String")] U ∧ va_D (fun _ => True) [(h0, .inr (9, [.int 0, .ref h1, .ref z0, .ref z1, .int 0, .int 0, .int 0])), (h1, .inl (k0, 4, .inr (.inr (.inr (.inr (va_up (va_up (va_up (va_up (fun _ => none) 0 (some ge5)) 1 (some ge5)) 2 (some ge5)) 3 (some ge5)))))))] ∧ gv ge5 gea gv5 gva gde gic gi0 (va_A [(h0, .inr (9, [.int 0, .ref h1, .ref z0, .ref z1, .int 0, .int 0, .int 0])), (h1, .inl (k0, 4, .inr (.inr (.inr (.inr (va_up (va_up (va_up (va_up (fun _ => none) 0 (some ge5)) 1 (some ge5)) 2 (some ge5)) 3 (some ge5)))))))] sz) U U.heap)) (va_Qi (fun (r : Int32) (_ : Unit) => r = (-9)) (fun (_ : Unit) (t : State) => ∃ q1 : Nat, va_P (dC, dI) vwCl [(h0, .inr (9, [.int 0, .ref h1, .ref z0, .ref z1, .int 1, .int 0, .int 0]))] t.heap ∧ va_K (dC, dI) vwCl [(k0, .object "java/lang/String")] t ∧ va_D (va_A [(h0, .inr (9, [.int 0, .ref h1, .ref z0, .ref z1, .int 0, .int 0, .int 0])), (h1, .inl (k0, 4, .inr (.inr (.inr (.inr (va_up (va_up (va_up (va_up (fun _ => none) 0 (some ge5)) 1 (some ge5)) 2 (some ge5)) 3 (some ge5)))))))] sz) [(h0, .inr (9, [.int 0, .ref h1, .ref z0, .ref z1, .int 1, .int 0, .int 0]))]) (va_A [(h0, .inr (9, [.int 0, .ref h1, .ref z0, .ref z1, .int 0, .int 0, .int 0])), (h1, .inl (k0, 4, .inr (.inr (.inr (.inr (va_up (va_up (va_up (va_up (fun _ => none) 0 (some ge5)) 1 (some ge5)) 2 (some ge5)) 3 (some ge5)))))))] sz)) 1 3 (va_A [(h0, .inr (9, [.int 0, .ref h1, .ref z0, .ref z1, .int 0, .int 0, .int 0])), (h1, .inl (k0, 4, .inr (.inr (.inr (.inr (va_up (va_up (va_up (va_up (fun _ => none) 0 (some ge5)) 1 (some ge5)) 2 (some ge5)) 3 (some ge5)))))))] sz) := by
  refine Met.ofW (cc := cX5_pick) (maxL := 4) (ret := (some .int)) (by decide) rfl ?_
  intro p e s m args below meth c s₁ B hml hv
  obtain ⟨rfl, hsz, hP, hK, hD0, hG⟩ := hv
  have hx := B.exec
  have hb := B.bytes
  have hr := B.returns
  have hts := atoms_spec (ws := wsX5_pick) B.pre
  have hown : s.vm.findClass RX5 = some m.cls := findClass_of_methodNamed B.named
  have hlocks := B.notSynchronized
  subst hsz
  have hD := hD0.self (sz := s.heap.size)
  generalize hAe : va_A [(h0, .inr (9, [.int 0, .ref h1, .ref z0, .ref z1, .int 0, .int 0, .int 0])), (h1, .inl (k0, 4, .inr (.inr (.inr (.inr (va_up (va_up (va_up (va_up (fun _ => none) 0 (some ge5)) 1 (some ge5)) 2 (some ge5)) 3 (some ge5)))))))] s.heap.size = A at hD hG ⊢
  obtain ⟨⟨g_AO_Text, g_AO_String, g_AO_Object, g_nm_RX1_20, g_nm_RX0_17, g_nm_RX3_31, g_nm_RX2_44, g_nm_RL_121, g_nf_RL_13, g_nf_RL_47, g_ca_IO, g_ca_IA, g_ca_IS, g_ca_IntObj, g_ca_StrObj, g_de_RT, g_de_EX, g_de_TH, g_nc_IA_IO, g_nc_IS_IO, g_nc_IS_IA⟩, ⟨g_s3, g_s5, g_sa, g_x278, g_x280, g_x282, g_x284, g_x286, g_x180, g_x238, g_x250⟩, ⟨g_o5, g_c5, g_v5, g_t5, g_oa, g_ca, g_va, g_ta, g_zc, g_zd, g_td, g_zf, g_zU, g_zN, g_zh, g_zk, g_tk, g_oi, g_vi⟩⟩ := id hG
  have hA : ∀ q : Nat, s.heap.size ≤ q → A q := fun q h => by rw [← hAe]; exact Or.inr h
  have hS : va_S A s.heap s.heap [] := va_S.rf
  have hP : va_P (dC, dI) vwCl [(h0, .inr (9, [.int 0, .ref h1, .ref z0, .ref z1, .int 0, .int 0, .int 0])), (h1, .inl (k0, 4, .inr (.inr (.inr (.inr (va_up (va_up (va_up (va_up (fun _ => none) 0 (some ge5)) 1 (some ge5)) 2 (some ge5)) 3 (some ge5)))))))] s.heap := hP
  have hl := lv_entry ([.ref h0, .int i0, .int i1]) (n := 4) (Nat.le_of_ble_eq_true rfl)
  rw [lg_entry_eq]
  generalize (lg_sl ([.ref h0, .int i0, .int i1]) ++ List.replicate (4 - (lg_sl ([.ref h0, .int i0, .int i1])).length) Slot.unset).toArray = ls at hl ⊢
  have hl : lv_has ls 4 [(0, .ref h0), (1, .int i0), (2, .int i1)] := hl
  refine lv_aload_n hx hb dX5_pick_0 rfl (lv_at hl 0 rfl) ?_
  refine lv_iload_n hx hb dX5_pick_1 rfl (lv_at hl 1 rfl) ?_
  have hPc := hP.sub (ws' := []) [] rfl
  have hDc := hD.sub (ws' := []) [] (by decide) rfl
  have hKc := hK.sub (tys' := []) [] rfl
  have hFc := va_free (wc := []) hD hS hA [] rfl
  refine va_calli (va_runS (As := [.int i0]) (rest := [.ref h0]) ⟨hx, hb, hml, hown, hts⟩ (kx_X5_isNo_1 l dC dI s.heap.size i0 i0_l i0_u) (cwS 1 hts gX5_pick_X5_isNo rfl rfl rfl (by decide +kernel) ⟨Nat.le_of_ble_eq_true rfl, Nat.le_of_ble_eq_true rfl⟩) ⟨fun a U g mk q => by obtain ⟨q0, q1, qP, qK, qD⟩ := q; exact ⟨q0, q1, qP, va_K.moved (u := U) (U := U.calling g mk a) (Vm.Alike.refl U.vm) qK, qD⟩, fun U hU hW => ⟨rfl, by rw [hU], by rw [hU]; exact hPc, va_K.moved hW.alike hKc, hDc.weaken (fun _ _ _ _ => trivial)⟩⟩ rfl rfl hl.1 rfl (lv_room (Nat.le_of_ble_eq_true rfl)) dX5_pick_2 ⟨Nat.le_of_ble_eq_true rfl, Nat.le_of_ble_eq_true rfl⟩) hS (fun q _ h => hFc q h) hFc (fun r9 u t H1 locs ht hvm hw hB hz1 hk1 hS => ?_)
  obtain rfl := hw
  obtain ⟨hP1, hK1, hD1⟩ := hB
  rw [ht] at hP1
  have hK1 := va_K.moved hvm.symm hK1
  obtain ⟨hP, hD⟩ := va_join (wr := [(h0, .inr (9, [.int 0, .ref h1, .ref z0, .ref z1, .int 0, .int 0, .int 0])), (h1, .inl (k0, 4, .inr (.inr (.inr (.inr (va_up (va_up (va_up (va_up (fun _ => none) 0 (some ge5)) 1 (some ge5)) 2 (some ge5)) 3 (some ge5)))))))]) (w1 := []) hP hD [] [0, 1] rfl rfl (by decide) (by decide) hk1 hFc hP1 hD1
  generalize H1 = H at hP hS ⊢
  have hP : va_P (dC, dI) vwCl [(h0, .inr (9, [.int 0, .ref h1, .ref z0, .ref z1, .int 0, .int 0, .int 0])), (h1, .inl (k0, 4, .inr (.inr (.inr (.inr (va_up (va_up (va_up (va_up (fun _ => none) 0 (some ge5)) 1 (some ge5)) 2 (some ge5)) 3 (some ge5)))))))] H := hP
  have hD : va_D A [(h0, .inr (9, [.int 0, .ref h1, .ref z0, .ref z1, .int 0, .int 0, .int 0])), (h1, .inl (k0, 4, .inr (.inr (.inr (.inr (va_up (va_up (va_up (va_up (fun _ => none) 0 (some ge5)) 1 (some ge5)) 2 (some ge5)) 3 (some ge5)))))))] := hD
  refine lv_iconst (v := 0) hx hb dX5_pick_5 (by decide) ?_
  refine lv_iconst (v := 0) hx hb dX5_pick_6 (by decide) ?_
  have hPc := hP.sub (ws' := [(h0, .inr (9, [.int 0, .ref h1, .ref z0, .ref z1, .int 0, .int 0, .int 0]))]) [0] rfl
  have hDc := hD.sub (ws' := [(h0, .inr (9, [.int 0, .ref h1, .ref z0, .ref z1, .int 0, .int 0, .int 0]))]) [0] (by decide) rfl
  have hKc := hK.sub (tys' := []) [] rfl
  have hFc := va_free (wc := [(h0, .inr (9, [.int 0, .ref h1, .ref z0, .ref z1, .int 0, .int 0, .int 0]))]) hD hS hA [0] rfl
  refine va_calli (va_runV (As := [.int 0, .int 0, .int 0]) (rest := []) ⟨hx, hb, hml, hown, hts⟩ (kx_X5_fails_1 l dC dI h0 h1 z0 z1 H.size) (cwV 3 hts gX5_pick_X5_fails rfl rfl rfl (by decide +kernel) ⟨Nat.le_of_ble_eq_true rfl, Nat.le_of_ble_eq_true rfl⟩) ⟨fun a U g mk q => by obtain ⟨q0, q1, qP, qK, qD⟩ := q; exact ⟨q0, q1, qP, va_K.moved (u := U) (U := U.calling g mk a) (Vm.Alike.refl U.vm) qK, qD⟩, va_recv hKc hPc (ci := 9) (q0 := 0) rfl rfl, fun U hU hW => ⟨rfl, by rw [hU], by rw [hU]; exact hPc, va_K.moved hW.alike hKc, hDc.weaken (fun _ _ _ _ => trivial)⟩⟩ rfl rfl hl.1 rfl (lv_room (Nat.le_of_ble_eq_true rfl)) dX5_pick_7 ⟨Nat.le_of_ble_eq_true rfl, Nat.le_of_ble_eq_true rfl⟩) hS (fun q _ h => hFc q h) hFc (fun r9 u t H1 locs ht hvm hw hB hz1 hk1 hS => ?_)
  obtain rfl := hw
  obtain ⟨hP1, hK1, hD1⟩ := hB
  rw [ht] at hP1
  have hK1 := va_K.moved hvm.symm hK1
  obtain ⟨hP, hD⟩ := va_join (wr := [(h1, .inl (k0, 4, .inr (.inr (.inr (.inr (va_up (va_up (va_up (va_up (fun _ => none) 0 (some ge5)) 1 (some ge5)) 2 (some ge5)) 3 (some ge5)))))))]) (w1 := [(h0, .inr (9, [.int 0, .ref h1, .ref z0, .ref z1, .int 0, .int 0, .int 0]))]) hP hD [0] [1] rfl rfl (by decide) (by decide) hk1 hFc hP1 hD1
  generalize H1 = H at hP hS ⊢
  have hP : va_P (dC, dI) vwCl [(h1, .inl (k0, 4, .inr (.inr (.inr (.inr (va_up (va_up (va_up (va_up (fun _ => none) 0 (some ge5)) 1 (some ge5)) 2 (some ge5)) 3 (some ge5))))))), (h0, .inr (9, [.int 0, .ref h1, .ref z0, .ref z1, .int 0, .int 0, .int 0]))] H := hP
  have hD : va_D A [(h1, .inl (k0, 4, .inr (.inr (.inr (.inr (va_up (va_up (va_up (va_up (fun _ => none) 0 (some ge5)) 1 (some ge5)) 2 (some ge5)) 3 (some ge5))))))), (h0, .inr (9, [.int 0, .ref h1, .ref z0, .ref z1, .int 0, .int 0, .int 0]))] := hD
  refine lv_if_eq (tgt := 15) hx hb dX5_pick_10 (by decide) (fun _ => ?_) (fun c9 => absurd (by decide) c9)
  refine lv_aload_n hx hb dX5_pick_15 rfl (lv_at hl 0 rfl) ?_
  refine lv_aload_n hx hb dX5_pick_16 rfl (lv_at hl 0 rfl) ?_
  refine va_get (D := (dC, dI)) (ci := 9) (v := .ref h1) (C := RX5) (T := TX5) (N := 7) hx hb hts (by decide +kernel) hown hK hP 1 rfl rfl 1 (by decide) (hts (.fieldLink RX5 11 "RewriteropeModel" "ropes" "[Ljava/lang/String;") (by decide +kernel)) (fun _ h9 => h9) rfl dX5_pick_17 ?_
  refine lv_iload_n hx hb dX5_pick_20 rfl (lv_at hl 1 rfl) ?_
  refine va_aldq (D := (dC, dI)) hx hb hK hP 0 0 rfl rfl (kz_in4 i0_l i0_u) dX5_pick_21 ?_
  rw [show (va_up (va_up (va_up (va_up (fun _ => none) 0 (some ge5)) 1 (some ge5)) 2 (some ge5)) 3 (some ge5)) i0.toNatClampNeg = some ge5 from (kz_ix4 (P := fun z => (va_up (va_up (va_up (va_up (fun _ => none) 0 (some ge5)) 1 (some ge5)) 2 (some ge5)) 3 (some ge5)) z.toNatClampNeg = some ge5) rfl rfl rfl rfl i0_l i0_u)]
  refine W.eq (g2 := F0 m 22 ls [.ref ge5, .ref h0]) rfl ?_
  have hPc := hP.sub (ws' := [(h0, .inr (9, [.int 0, .ref h1, .ref z0, .ref z1, .int 0, .int 0, .int 0]))]) [1] rfl
  have hDc := hD.sub (ws' := [(h0, .inr (9, [.int 0, .ref h1, .ref z0, .ref z1, .int 0, .int 0, .int 0]))]) [1] (by decide) rfl
  have hKc := hK.sub (tys' := []) [] rfl
  have hFc := va_free (wc := [(h0, .inr (9, [.int 0, .ref h1, .ref z0, .ref z1, .int 0, .int 0, .int 0]))]) hD hS hA [1] rfl
  refine va_callr (va_runV (As := [.ref ge5]) (rest := []) ⟨hx, hb, hml, hown, hts⟩ (kx_X5_spotsOf_0 l dC dI ge5 gea gv5 gva gde gic gi0 h0 h1 z0 z1 H.size) (cwV 1 hts gX5_pick_X5_spotsOf rfl rfl rfl (by decide +kernel) ⟨Nat.le_of_ble_eq_true rfl, Nat.le_of_ble_eq_true rfl⟩) ⟨fun a U g mk q => by obtain ⟨q0, q1, qP, qK, qD, qG⟩ := q; exact ⟨q0, q1, qP, va_K.moved (u := U) (U := U.calling g mk a) (Vm.Alike.refl U.vm) qK, qD, gv.fb qG⟩, va_recv hKc hPc (ci := 9) (q0 := 0) rfl rfl, fun U hU hW => ⟨rfl, by rw [hU], by rw [hU]; exact hPc, va_K.moved hW.alike hKc, hDc.weaken (fun _ _ _ _ => trivial), gv.pass hW hU hS hFc hG⟩⟩ rfl rfl hl.1 rfl (lv_room (Nat.le_of_ble_eq_true rfl)) dX5_pick_22 ⟨Nat.le_of_ble_eq_true rfl, Nat.le_of_ble_eq_true rfl⟩) hS (fun q _ h => hFc q h) hFc (fun u ra t H1 locs ht hvm hw hB hz1 hk1 hS => ?_)
  obtain ⟨q1, hra, hP1, hK1, hD1⟩ := hB
  rw [hra]
  rw [ht] at hP1
  have hK1 := va_K.moved hvm.symm hK1
  obtain ⟨hP, hD⟩ := va_join (wr := [(h1, .inl (k0, 4, .inr (.inr (.inr (.inr (va_up (va_up (va_up (va_up (fun _ => none) 0 (some ge5)) 1 (some ge5)) 2 (some ge5)) 3 (some ge5)))))))]) (w1 := [(h0, .inr (9, [.int 0, .ref h1, .ref z0, .ref z1, .int 0, .int 0, .int 0])), (q1, .inr (3, [.int 0, .ref gde, .int 0]))]) hP hD [1] [0] rfl rfl (by decide) (by decide) hk1 hFc hP1 hD1
  generalize H1 = H at hP hS ⊢
  have hP : va_P (dC, dI) vwCl [(h1, .inl (k0, 4, .inr (.inr (.inr (.inr (va_up (va_up (va_up (va_up (fun _ => none) 0 (some ge5)) 1 (some ge5)) 2 (some ge5)) 3 (some ge5))))))), (h0, .inr (9, [.int 0, .ref h1, .ref z0, .ref z1, .int 0, .int 0, .int 0])), (q1, .inr (3, [.int 0, .ref gde, .int 0]))] H := hP
  have hD : va_D A [(h1, .inl (k0, 4, .inr (.inr (.inr (.inr (va_up (va_up (va_up (va_up (fun _ => none) 0 (some ge5)) 1 (some ge5)) 2 (some ge5)) 3 (some ge5))))))), (h0, .inr (9, [.int 0, .ref h1, .ref z0, .ref z1, .int 0, .int 0, .int 0])), (q1, .inr (3, [.int 0, .ref gde, .int 0]))] := hD
  refine W.widen (k := 1) (n := 3) (by omega) (by omega) ?_
  refine lv_astore_n (lv' := [(3, .ref q1), (0, .ref h0), (1, .int i0), (2, .int i1)]) hx hb dX5_pick_25 rfl hl (by decide) rfl (fun ls hl => ?_)
  refine lv_iload_n hx hb dX5_pick_26 rfl (lv_at hl 3 rfl) ?_
  refine lv_iconst (v := 0) hx hb dX5_pick_27 (by decide) ?_
  refine lv_aload_n hx hb dX5_pick_28 rfl (lv_at hl 0 rfl) ?_
  have hPc := hP.sub (ws' := [(q1, .inr (3, [.int 0, .ref gde, .int 0]))]) [2] rfl
  have hDc := hD.sub (ws' := [(q1, .inr (3, [.int 0, .ref gde, .int 0]))]) [2] (by decide) rfl
  have hKc := hK.sub (tys' := []) [] rfl
  have hFc := va_free (wc := [(q1, .inr (3, [.int 0, .ref gde, .int 0]))]) hD hS hA [2] rfl
  refine va_calli (va_runV (As := []) (rest := [.int 0, .int i1]) ⟨hx, hb, hml, hown, hts⟩ (kx_Jx4a65c_size_8abf5_1 l dC dI ge5 gea gv5 gva gde gic gi0 q1 H.size) (cwV 0 hts gX5_pick_Jx4a65c_size_8abf5 rfl rfl rfl (by decide +kernel) ⟨Nat.le_of_ble_eq_true rfl, Nat.le_of_ble_eq_true rfl⟩) ⟨fun a U g mk q => by obtain ⟨q0, q1, qP, qK, qD, qG⟩ := q; exact ⟨q0, q1, qP, va_K.moved (u := U) (U := U.calling g mk a) (Vm.Alike.refl U.vm) qK, qD, gv.fb qG⟩, va_recv hKc hPc (ci := 3) (q0 := 0) rfl rfl, fun U hU hW => ⟨rfl, by rw [hU], by rw [hU]; exact hPc, va_K.moved hW.alike hKc, hDc.weaken (fun _ _ _ _ => trivial), gv.pass hW hU hS hFc hG⟩⟩ rfl rfl hl.1 rfl (lv_room (Nat.le_of_ble_eq_true rfl)) dX5_pick_29 ⟨Nat.le_of_ble_eq_true rfl, Nat.le_of_ble_eq_true rfl⟩) hS (fun q _ h => hFc q h) hFc (fun r9 u t H1 locs ht hvm hw hB hz1 hk1 hS => ?_)
  obtain rfl := hw
  obtain ⟨hP1, hK1, hD1⟩ := hB
  rw [ht] at hP1
  have hK1 := va_K.moved hvm.symm hK1
  obtain ⟨hP, hD⟩ := va_join (wr := [(h1, .inl (k0, 4, .inr (.inr (.inr (.inr (va_up (va_up (va_up (va_up (fun _ => none) 0 (some ge5)) 1 (some ge5)) 2 (some ge5)) 3 (some ge5))))))), (h0, .inr (9, [.int 0, .ref h1, .ref z0, .ref z1, .int 0, .int 0, .int 0]))]) (w1 := [(q1, .inr (3, [.int 0, .ref gde, .int 0]))]) hP hD [2] [0, 1] rfl rfl (by decide) (by decide) hk1 hFc hP1 hD1
  generalize H1 = H at hP hS ⊢
  have hP : va_P (dC, dI) vwCl [(h1, .inl (k0, 4, .inr (.inr (.inr (.inr (va_up (va_up (va_up (va_up (fun _ => none) 0 (some ge5)) 1 (some ge5)) 2 (some ge5)) 3 (some ge5))))))), (h0, .inr (9, [.int 0, .ref h1, .ref z0, .ref z1, .int 0, .int 0, .int 0])), (q1, .inr (3, [.int 0, .ref gde, .int 0]))] H := hP
  have hD : va_D A [(h1, .inl (k0, 4, .inr (.inr (.inr (.inr (va_up (va_up (va_up (va_up (fun _ => none) 0 (some ge5)) 1 (some ge5)) 2 (some ge5)) 3 (some ge5))))))), (h0, .inr (9, [.int 0, .ref h1, .ref z0, .ref z1, .int 0, .int 0, .int 0])), (q1, .inr (3, [.int 0, .ref gde, .int 0]))] := hD
  refine lv_iconst (v := 1) hx hb dX5_pick_32 (by decide) ?_
  refine lv_isub hx hb dX5_pick_33 ?_
  refine lv_topi (fun y2 ey2 => ?_)
  obtain rfl : y2 = (-1) := ey2.trans (by decide)
  have hPc := hP.sub (ws' := []) [] rfl
  have hDc := hD.sub (ws' := []) [] (by decide) rfl
  have hKc := hK.sub (tys' := []) [] rfl
  have hFc := va_free (wc := []) hD hS hA [] rfl
  refine va_calli (va_runS (As := [.int i1, .int 0, .int (-1)]) (rest := []) ⟨hx, hb, hml, hown, hts⟩ (kx_X5_isIn_19 l dC dI H.size i1 i1_l i1_u) (cwS 3 hts gX5_pick_X5_isIn rfl rfl rfl (by decide +kernel) ⟨Nat.le_of_ble_eq_true rfl, Nat.le_of_ble_eq_true rfl⟩) ⟨fun a U g mk q => by obtain ⟨q0, q1, qP, qK, qD⟩ := q; exact ⟨q0, q1, qP, va_K.moved (u := U) (U := U.calling g mk a) (Vm.Alike.refl U.vm) qK, qD⟩, fun U hU hW => ⟨rfl, by rw [hU], by rw [hU]; exact hPc, va_K.moved hW.alike hKc, hDc.weaken (fun _ _ _ _ => trivial)⟩⟩ rfl rfl hl.1 rfl (lv_room (Nat.le_of_ble_eq_true rfl)) dX5_pick_34 ⟨Nat.le_of_ble_eq_true rfl, Nat.le_of_ble_eq_true rfl⟩) hS (fun q _ h => hFc q h) hFc (fun r9 u t H1 locs ht hvm hw hB hz1 hk1 hS => ?_)
  obtain rfl := hw
  obtain ⟨hP1, hK1, hD1⟩ := hB
  rw [ht] at hP1
  have hK1 := va_K.moved hvm.symm hK1
  obtain ⟨hP, hD⟩ := va_join (wr := [(h1, .inl (k0, 4, .inr (.inr (.inr (.inr (va_up (va_up (va_up (va_up (fun _ => none) 0 (some ge5)) 1 (some ge5)) 2 (some ge5)) 3 (some ge5))))))), (h0, .inr (9, [.int 0, .ref h1, .ref z0, .ref z1, .int 0, .int 0, .int 0])), (q1, .inr (3, [.int 0, .ref gde, .int 0]))]) (w1 := []) hP hD [] [0, 1, 2] rfl rfl (by decide) (by decide) hk1 hFc hP1 hD1
  generalize H1 = H at hP hS ⊢
  have hP : va_P (dC, dI) vwCl [(h1, .inl (k0, 4, .inr (.inr (.inr (.inr (va_up (va_up (va_up (va_up (fun _ => none) 0 (some ge5)) 1 (some ge5)) 2 (some ge5)) 3 (some ge5))))))), (h0, .inr (9, [.int 0, .ref h1, .ref z0, .ref z1, .int 0, .int 0, .int 0])), (q1, .inr (3, [.int 0, .ref gde, .int 0]))] H := hP
  have hD : va_D A [(h1, .inl (k0, 4, .inr (.inr (.inr (.inr (va_up (va_up (va_up (va_up (fun _ => none) 0 (some ge5)) 1 (some ge5)) 2 (some ge5)) 3 (some ge5))))))), (h0, .inr (9, [.int 0, .ref h1, .ref z0, .ref z1, .int 0, .int 0, .int 0])), (q1, .inr (3, [.int 0, .ref gde, .int 0]))] := hD
  refine lv_if_eq (tgt := 66) hx hb dX5_pick_37 (by decide) (fun _ => ?_) (fun c9 => absurd (by decide) c9)
  refine lv_aload_n hx hb dX5_pick_66 rfl (lv_at hl 1 rfl) ?_
  have hPc := hP.sub (ws' := [(h0, .inr (9, [.int 0, .ref h1, .ref z0, .ref z1, .int 0, .int 0, .int 0]))]) [1] rfl
  have hDc := hD.sub (ws' := [(h0, .inr (9, [.int 0, .ref h1, .ref z0, .ref z1, .int 0, .int 0, .int 0]))]) [1] (by decide) rfl
  have hKc := hK.sub (tys' := []) [] rfl
  have hFc := va_free (wc := [(h0, .inr (9, [.int 0, .ref h1, .ref z0, .ref z1, .int 0, .int 0, .int 0]))]) hD hS hA [1] rfl
  refine va_calli (va_runV (As := []) (rest := []) ⟨hx, hb, hml, hown, hts⟩ (kx_X5_refuse_0 l dC dI h0 h1 z0 z1 H.size) (cwV 0 hts gX5_pick_X5_refuse rfl rfl rfl (by decide +kernel) ⟨Nat.le_of_ble_eq_true rfl, Nat.le_of_ble_eq_true rfl⟩) ⟨fun a U g mk q => by obtain ⟨q0, q1, qP, qK, qD⟩ := q; exact ⟨q0, q1, qP, va_K.moved (u := U) (U := U.calling g mk a) (Vm.Alike.refl U.vm) qK, qD⟩, va_recv hKc hPc (ci := 9) (q0 := 0) rfl rfl, fun U hU hW => ⟨rfl, by rw [hU], by rw [hU]; exact hPc, va_K.moved hW.alike hKc, hDc.weaken (fun _ _ _ _ => trivial)⟩⟩ rfl rfl hl.1 rfl (lv_room (Nat.le_of_ble_eq_true rfl)) dX5_pick_67 ⟨Nat.le_of_ble_eq_true rfl, Nat.le_of_ble_eq_true rfl⟩) hS (fun q _ h => hFc q h) hFc (fun r9 u t H1 locs ht hvm hw hB hz1 hk1 hS => ?_)
  obtain rfl := hw
  obtain ⟨hP1, hK1, hD1⟩ := hB
  rw [ht] at hP1
  have hK1 := va_K.moved hvm.symm hK1
  obtain ⟨hP, hD⟩ := va_join (wr := [(h1, .inl (k0, 4, .inr (.inr (.inr (.inr (va_up (va_up (va_up (va_up (fun _ => none) 0 (some ge5)) 1 (some ge5)) 2 (some ge5)) 3 (some ge5))))))), (q1, .inr (3, [.int 0, .ref gde, .int 0]))]) (w1 := [(h0, .inr (9, [.int 0, .ref h1, .ref z0, .ref z1, .int 1, .int 0, .int 0]))]) hP hD [1] [0, 2] rfl rfl (by decide) (by decide) hk1 hFc hP1 hD1
  generalize H1 = H at hP hS ⊢
  have hP : va_P (dC, dI) vwCl [(h1, .inl (k0, 4, .inr (.inr (.inr (.inr (va_up (va_up (va_up (va_up (fun _ => none) 0 (some ge5)) 1 (some ge5)) 2 (some ge5)) 3 (some ge5))))))), (q1, .inr (3, [.int 0, .ref gde, .int 0])), (h0, .inr (9, [.int 0, .ref h1, .ref z0, .ref z1, .int 1, .int 0, .int 0]))] H := hP
  have hD : va_D A [(h1, .inl (k0, 4, .inr (.inr (.inr (.inr (va_up (va_up (va_up (va_up (fun _ => none) 0 (some ge5)) 1 (some ge5)) 2 (some ge5)) 3 (some ge5))))))), (q1, .inr (3, [.int 0, .ref gde, .int 0])), (h0, .inr (9, [.int 0, .ref h1, .ref z0, .ref z1, .int 1, .int 0, .int 0]))] := hD
  have hP := hP.sub (ws' := [(h0, .inr (9, [.int 0, .ref h1, .ref z0, .ref z1, .int 1, .int 0, .int 0])), (h1, .inl (k0, 4, .inr (.inr (.inr (.inr (va_up (va_up (va_up (va_up (fun _ => none) 0 (some ge5)) 1 (some ge5)) 2 (some ge5)) 3 (some ge5))))))), (q1, .inr (3, [.int 0, .ref gde, .int 0]))]) [2, 0, 1] rfl
  have hD := hD.sub (ws' := [(h0, .inr (9, [.int 0, .ref h1, .ref z0, .ref z1, .int 1, .int 0, .int 0])), (h1, .inl (k0, 4, .inr (.inr (.inr (.inr (va_up (va_up (va_up (va_up (fun _ => none) 0 (some ge5)) 1 (some ge5)) 2 (some ge5)) 3 (some ge5))))))), (q1, .inr (3, [.int 0, .ref gde, .int 0]))]) [2, 0, 1] (by decide) rfl
  have hP := hP.sub (ws' := [(h0, .inr (9, [.int 0, .ref h1, .ref z0, .ref z1, .int 1, .int 0, .int 0]))]) [0] rfl
  have hD := hD.sub (ws' := [(h0, .inr (9, [.int 0, .ref h1, .ref z0, .ref z1, .int 1, .int 0, .int 0]))]) [0] (by decide) rfl
  exact W.iret (v := (-9)) hx hb hr (fun t ht hW => ⟨⟨(-9), (), rfl, rfl, q1, by rw [ht]; exact hP, va_K.moved hW.alike hK, hD⟩, hS.F ht⟩) hS.2.2 dX5_pick_70
set_option maxHeartbeats 4000000 in
set_option maxRecDepth 100000 in
theorem kx_X1_spotOfNumber_1 (l : Launch) (dC : Nat → ClassId) (dI : Nat → Nat → Nat) (h0 : Nat) (h1 : Nat) (z0 : Nat) (z1 : Nat) (z2 : Nat) (z3 : Nat) (z4 : Nat) (z5 : Nat) (z6 : Nat) (sz : Nat) (i0 : Int32) (i0_l : (0 : Int) ≤ i0.toInt) (i0_u : i0.toInt ≤ (2147483647 : Int)) : Met l yX1_spotOfNumber wsX1_spotOfNumber ({ frames := 0, cells := 0, slots := 0, locals := 0 }) (va_Pc [.ref h0, .ref h1, .int i0] (fun U => U.heap.size = sz ∧ va_P (dC, dI) vwCl [(h0, .inr (5, [.ref z0, .ref z1, .ref z2, .ref z3, .ref z4, .ref z5, .int 0, .int 0])), (h1, .inr (6, [.ref z6, .int 0]))] U.heap ∧ va_K (dC, dI) vwCl [] U ∧ va_D (fun _ => True) [(h0, .inr (5, [.ref z0, .ref z1, .ref z2, .ref z3, .ref z4, .ref z5, .int 0, .int 0])), (h1, .inr (6, [.ref z6, .int 0]))])) (va_Qi (fun (r : Int32) (_ : Unit) => r = (-1)) (fun (_ : Unit) (t : State) => va_P (dC, dI) vwCl [(h0, .inr (5, [.ref z0, .ref z1, .ref z2, .ref z3, .ref z4, .ref z5, .int 0, .int 0])), (h1, .inr (6, [.ref z6, .int 0]))] t.heap ∧ va_K (dC, dI) vwCl [] t ∧ va_D (va_A [(h0, .inr (5, [.ref z0, .ref z1, .ref z2, .ref z3, .ref z4, .ref z5, .int 0, .int 0])), (h1, .inr (6, [.ref z6, .int 0]))] sz) [(h0, .inr (5, [.ref z0, .ref z1, .ref z2, .ref z3, .ref z4, .ref z5, .int 0, .int 0])), (h1, .inr (6, [.ref z6, .int 0]))]) (va_A [(h0, .inr (5, [.ref z0, .ref z1, .ref z2, .ref z3, .ref z4, .ref z5, .int 0, .int 0])), (h1, .inr (6, [.ref z6, .int 0]))] sz)) 0 0 (va_A [(h0, .inr (5, [.ref z0, .ref z1, .ref z2, .ref z3, .ref z4, .ref z5, .int 0, .int 0])), (h1, .inr (6, [.ref z6, .int 0]))] sz) := by
  refine Met.ofW (cc := cX1_spotOfNumber) (maxL := 5) (ret := (some .int)) (by decide) rfl ?_
  intro p e s m args below meth c s₁ B hml hv
  obtain ⟨rfl, hsz, hP, hK, hD0⟩ := hv
  have hx := B.exec
  have hb := B.bytes
  have hr := B.returns
  have hts := atoms_spec (ws := wsX1_spotOfNumber) B.pre
  have hown : s.vm.findClass RX1 = some m.cls := findClass_of_methodNamed B.named
  have hlocks := B.notSynchronized
  subst hsz
  have hD := hD0.self (sz := s.heap.size)
  generalize hAe : va_A [(h0, .inr (5, [.ref z0, .ref z1, .ref z2, .ref z3, .ref z4, .ref z5, .int 0, .int 0])), (h1, .inr (6, [.ref z6, .int 0]))] s.heap.size = A at hD ⊢
  have hA : ∀ q : Nat, s.heap.size ≤ q → A q := fun q h => by rw [← hAe]; exact Or.inr h
  have hS : va_S A s.heap s.heap [] := va_S.rf
  have hP : va_P (dC, dI) vwCl [(h0, .inr (5, [.ref z0, .ref z1, .ref z2, .ref z3, .ref z4, .ref z5, .int 0, .int 0])), (h1, .inr (6, [.ref z6, .int 0]))] s.heap := hP
  have hl := lv_entry ([.ref h0, .ref h1, .int i0]) (n := 5) (Nat.le_of_ble_eq_true rfl)
  rw [lg_entry_eq]
  generalize (lg_sl ([.ref h0, .ref h1, .int i0]) ++ List.replicate (5 - (lg_sl ([.ref h0, .ref h1, .int i0])).length) Slot.unset).toArray = ls at hl ⊢
  have hl : lv_has ls 5 [(0, .ref h0), (1, .ref h1), (2, .int i0)] := hl
  refine lv_iload_n hx hb dX1_spotOfNumber_0 rfl (lv_at hl 2 rfl) ?_
  refine lv_if_lt (tgt := 15) hx hb dX1_spotOfNumber_1 (by decide) (fun c9 => absurd c9 (fun c8 => absurd (Int32.lt_iff_toInt_lt.mp c8) (by rw [show (0 : Int32).toInt = 0 from by decide]; omega))) (fun _ => ?_)
  refine lv_iload_n hx hb dX1_spotOfNumber_4 rfl (lv_at hl 2 rfl) ?_
  refine lv_aload_n hx hb dX1_spotOfNumber_5 rfl (lv_at hl 1 rfl) ?_
  refine va_get (D := (dC, dI)) (ci := 6) (v := .int 0) (C := RX2) (T := TX2) (N := 2) hx hb hts (by decide +kernel) hown hK hP 1 rfl rfl 1 (by decide) (hts (.fieldLink RX1 60 "Rewriterope$Text" "length" "I") (by decide +kernel)) (fun _ h9 => h9) rfl dX1_spotOfNumber_6 ?_
  refine lv_bipush (v := 8) hx hb dX1_spotOfNumber_9 (by decide) ?_
  refine lv_imul hx hb dX1_spotOfNumber_11 ?_
  refine lv_topi (fun y1 ey1 => ?_)
  obtain rfl : y1 = 0 := ey1.trans (by decide)
  refine lv_icmp_lt (tgt := 17) hx hb dX1_spotOfNumber_12 (by decide) (fun c9 => absurd c9 (fun c8 => absurd (Int32.lt_iff_toInt_lt.mp c8) (by rw [show (0 : Int32).toInt = 0 from by decide]; omega))) (fun _ => ?_)
  refine lv_iconst (v := (-1)) hx hb dX1_spotOfNumber_15 (by decide) ?_
  exact W.iret (v := (-1)) hx hb hr (fun t ht hW => ⟨⟨(-1), (), rfl, rfl, by rw [ht]; exact hP, va_K.moved hW.alike hK, hD⟩, hS.F ht⟩) hS.2.2 dX1_spotOfNumber_16
set_option maxHeartbeats 4000000 in
set_option maxRecDepth 100000 in
theorem kx_X3_pick_6 (l : Launch) (dC : Nat → ClassId) (dI : Nat → Nat → Nat) (h0 : Nat) (h1 : Nat) (h2 : Nat) (h3 : Nat) (h4 : Nat) (h5 : Nat) (h6 : Nat) (z0 : Nat) (z1 : Nat) (z2 : Nat) (z3 : Nat) (z4 : Nat) (z5 : Nat) (z6 : Nat) (z7 : Nat) (z8 : Nat) (z9 : Nat) (z10 : Nat) (z11 : Nat) (z12 : Nat) (z13 : Nat) (k0 : ClassId) (sz : Nat) (i0 : Int32) (i0_l : (0 : Int) ≤ i0.toInt) (i0_u : i0.toInt ≤ (2147483647 : Int)) : Met l yX3_pick wsX3_pick ({ frames := 1, cells := 0, slots := 0, locals := 24 }) (va_Pc [.ref h0, .int 0, .int i0] (fun U => U.heap.size = sz ∧ va_P (dC, dI) vwCl [(h0, .inr (7, [.ref h1, .ref h2, .ref z0, .ref z1, .ref z2, .ref z3, .int 0, .int 0, .int 0])), (h1, .inl (k0, 4, .inr (.inr (.inr (.inr (va_up (va_up (va_up (va_up (fun _ => none) 0 (some h3)) 1 (some h4)) 2 (some h5)) 3 (some h6))))))), (h2, .inr (5, [.ref z4, .ref z5, .ref z6, .ref z7, .ref z8, .ref z9, .int 0, .int 0])), (h3, .inr (6, [.ref z10, .int 0])), (h4, .inr (6, [.ref z11, .int 0])), (h5, .inr (6, [.ref z12, .int 0])), (h6, .inr (6, [.ref z13, .int 0]))] U.heap ∧ va_K (dC, dI) vwCl [(k0, .object "Rewriterope$Text")] U ∧ va_D (fun _ => True) [(h0, .inr (7, [.ref h1, .ref h2, .ref z0, .ref z1, .ref z2, .ref z3, .int 0, .int 0, .int 0])), (h1, .inl (k0, 4, .inr (.inr (.inr (.inr (va_up (va_up (va_up (va_up (fun _ => none) 0 (some h3)) 1 (some h4)) 2 (some h5)) 3 (some h6))))))), (h2, .inr (5, [.ref z4, .ref z5, .ref z6, .ref z7, .ref z8, .ref z9, .int 0, .int 0])), (h3, .inr (6, [.ref z10, .int 0])), (h4, .inr (6, [.ref z11, .int 0])), (h5, .inr (6, [.ref z12, .int 0])), (h6, .inr (6, [.ref z13, .int 0]))])) (va_Qi (fun (r : Int32) (_ : Unit) => r = (-9)) (fun (_ : Unit) (t : State) => va_P (dC, dI) vwCl [(h0, .inr (7, [.ref h1, .ref h2, .ref z0, .ref z1, .ref z2, .ref z3, .int 1, .int 0, .int 0])), (h1, .inl (k0, 4, .inr (.inr (.inr (.inr (va_up (va_up (va_up (va_up (fun _ => none) 0 (some h3)) 1 (some h4)) 2 (some h5)) 3 (some h6))))))), (h2, .inr (5, [.ref z4, .ref z5, .ref z6, .ref z7, .ref z8, .ref z9, .int 0, .int 0])), (h3, .inr (6, [.ref z10, .int 0])), (h4, .inr (6, [.ref z11, .int 0])), (h5, .inr (6, [.ref z12, .int 0])), (h6, .inr (6, [.ref z13, .int 0]))] t.heap ∧ va_K (dC, dI) vwCl [(k0, .object "Rewriterope$Text")] t ∧ va_D (va_A [(h0, .inr (7, [.ref h1, .ref h2, .ref z0, .ref z1, .ref z2, .ref z3, .int 0, .int 0, .int 0])), (h1, .inl (k0, 4, .inr (.inr (.inr (.inr (va_up (va_up (va_up (va_up (fun _ => none) 0 (some h3)) 1 (some h4)) 2 (some h5)) 3 (some h6))))))), (h2, .inr (5, [.ref z4, .ref z5, .ref z6, .ref z7, .ref z8, .ref z9, .int 0, .int 0])), (h3, .inr (6, [.ref z10, .int 0])), (h4, .inr (6, [.ref z11, .int 0])), (h5, .inr (6, [.ref z12, .int 0])), (h6, .inr (6, [.ref z13, .int 0]))] sz) [(h0, .inr (7, [.ref h1, .ref h2, .ref z0, .ref z1, .ref z2, .ref z3, .int 1, .int 0, .int 0])), (h1, .inl (k0, 4, .inr (.inr (.inr (.inr (va_up (va_up (va_up (va_up (fun _ => none) 0 (some h3)) 1 (some h4)) 2 (some h5)) 3 (some h6))))))), (h2, .inr (5, [.ref z4, .ref z5, .ref z6, .ref z7, .ref z8, .ref z9, .int 0, .int 0])), (h3, .inr (6, [.ref z10, .int 0])), (h4, .inr (6, [.ref z11, .int 0])), (h5, .inr (6, [.ref z12, .int 0])), (h6, .inr (6, [.ref z13, .int 0]))]) (va_A [(h0, .inr (7, [.ref h1, .ref h2, .ref z0, .ref z1, .ref z2, .ref z3, .int 0, .int 0, .int 0])), (h1, .inl (k0, 4, .inr (.inr (.inr (.inr (va_up (va_up (va_up (va_up (fun _ => none) 0 (some h3)) 1 (some h4)) 2 (some h5)) 3 (some h6))))))), (h2, .inr (5, [.ref z4, .ref z5, .ref z6, .ref z7, .ref z8, .ref z9, .int 0, .int 0])), (h3, .inr (6, [.ref z10, .int 0])), (h4, .inr (6, [.ref z11, .int 0])), (h5, .inr (6, [.ref z12, .int 0])), (h6, .inr (6, [.ref z13, .int 0]))] sz)) 0 0 (va_A [(h0, .inr (7, [.ref h1, .ref h2, .ref z0, .ref z1, .ref z2, .ref z3, .int 0, .int 0, .int 0])), (h1, .inl (k0, 4, .inr (.inr (.inr (.inr (va_up (va_up (va_up (va_up (fun _ => none) 0 (some h3)) 1 (some h4)) 2 (some h5)) 3 (some h6))))))), (h2, .inr (5, [.ref z4, .ref z5, .ref z6, .ref z7, .ref z8, .ref z9, .int 0, .int 0])), (h3, .inr (6, [.ref z10, .int 0])), (h4, .inr (6, [.ref z11, .int 0])), (h5, .inr (6, [.ref z12, .int 0])), (h6, .inr (6, [.ref z13, .int 0]))] sz) := by
  refine Met.ofW (cc := cX3_pick) (maxL := 4) (ret := (some .int)) (by decide) rfl ?_
  intro p e s m args below meth c s₁ B hml hv
  obtain ⟨rfl, hsz, hP, hK, hD0⟩ := hv
  have hx := B.exec
  have hb := B.bytes
  have hr := B.returns
  have hts := atoms_spec (ws := wsX3_pick) B.pre
  have hown : s.vm.findClass RX3 = some m.cls := findClass_of_methodNamed B.named
  have hlocks := B.notSynchronized
  subst hsz
  have hD := hD0.self (sz := s.heap.size)
  generalize hAe : va_A [(h0, .inr (7, [.ref h1, .ref h2, .ref z0, .ref z1, .ref z2, .ref z3, .int 0, .int 0, .int 0])), (h1, .inl (k0, 4, .inr (.inr (.inr (.inr (va_up (va_up (va_up (va_up (fun _ => none) 0 (some h3)) 1 (some h4)) 2 (some h5)) 3 (some h6))))))), (h2, .inr (5, [.ref z4, .ref z5, .ref z6, .ref z7, .ref z8, .ref z9, .int 0, .int 0])), (h3, .inr (6, [.ref z10, .int 0])), (h4, .inr (6, [.ref z11, .int 0])), (h5, .inr (6, [.ref z12, .int 0])), (h6, .inr (6, [.ref z13, .int 0]))] s.heap.size = A at hD ⊢
  have hA : ∀ q : Nat, s.heap.size ≤ q → A q := fun q h => by rw [← hAe]; exact Or.inr h
  have hS : va_S A s.heap s.heap [] := va_S.rf
  have hP : va_P (dC, dI) vwCl [(h0, .inr (7, [.ref h1, .ref h2, .ref z0, .ref z1, .ref z2, .ref z3, .int 0, .int 0, .int 0])), (h1, .inl (k0, 4, .inr (.inr (.inr (.inr (va_up (va_up (va_up (va_up (fun _ => none) 0 (some h3)) 1 (some h4)) 2 (some h5)) 3 (some h6))))))), (h2, .inr (5, [.ref z4, .ref z5, .ref z6, .ref z7, .ref z8, .ref z9, .int 0, .int 0])), (h3, .inr (6, [.ref z10, .int 0])), (h4, .inr (6, [.ref z11, .int 0])), (h5, .inr (6, [.ref z12, .int 0])), (h6, .inr (6, [.ref z13, .int 0]))] s.heap := hP
  have hl := lv_entry ([.ref h0, .int 0, .int i0]) (n := 4) (Nat.le_of_ble_eq_true rfl)
  rw [lg_entry_eq]
  generalize (lg_sl ([.ref h0, .int 0, .int i0]) ++ List.replicate (4 - (lg_sl ([.ref h0, .int 0, .int i0])).length) Slot.unset).toArray = ls at hl ⊢
  have hl : lv_has ls 4 [(0, .ref h0), (1, .int 0), (2, .int i0)] := hl
  refine lv_iload_n hx hb dX3_pick_0 rfl (lv_at hl 1 rfl) ?_
  have hPc := hP.sub (ws' := []) [] rfl
  have hDc := hD.sub (ws' := []) [] (by decide) rfl
  have hKc := hK.sub (tys' := []) [] rfl
  have hFc := va_free (wc := []) hD hS hA [] rfl
  refine va_callv (va_runS (As := [.int 0]) (rest := []) ⟨hx, hb, hml, hown, hts⟩ (kx_X3_needRope_0 l dC dI s.heap.size) (cwS 1 hts gX3_pick_X3_needRope rfl rfl rfl (by decide +kernel) ⟨Nat.le_of_ble_eq_true rfl, Nat.le_of_ble_eq_true rfl⟩) ⟨fun a U g mk q => by obtain ⟨q0, q1, qP, qK, qD⟩ := q; exact ⟨q0, q1, qP, va_K.moved (u := U) (U := U.calling g mk a) (Vm.Alike.refl U.vm) qK, qD⟩, fun U hU hW => ⟨rfl, by rw [hU], by rw [hU]; exact hPc, va_K.moved hW.alike hKc, hDc.weaken (fun _ _ _ _ => trivial)⟩⟩ rfl rfl hl.1 rfl (lv_room (Nat.le_of_ble_eq_true rfl)) dX3_pick_1 ⟨Nat.le_of_ble_eq_true rfl, Nat.le_of_ble_eq_true rfl⟩) hS (fun q _ h => hFc q h) hFc (fun u t H1 locs ht hvm hw hB hz1 hk1 hS => ?_)
  obtain ⟨hP1, hK1, hD1⟩ := hB
  rw [ht] at hP1
  have hK1 := va_K.moved hvm.symm hK1
  obtain ⟨hP, hD⟩ := va_join (wr := [(h0, .inr (7, [.ref h1, .ref h2, .ref z0, .ref z1, .ref z2, .ref z3, .int 0, .int 0, .int 0])), (h1, .inl (k0, 4, .inr (.inr (.inr (.inr (va_up (va_up (va_up (va_up (fun _ => none) 0 (some h3)) 1 (some h4)) 2 (some h5)) 3 (some h6))))))), (h2, .inr (5, [.ref z4, .ref z5, .ref z6, .ref z7, .ref z8, .ref z9, .int 0, .int 0])), (h3, .inr (6, [.ref z10, .int 0])), (h4, .inr (6, [.ref z11, .int 0])), (h5, .inr (6, [.ref z12, .int 0])), (h6, .inr (6, [.ref z13, .int 0]))]) (w1 := []) hP hD [] [0, 1, 2, 3, 4, 5, 6] rfl rfl (by decide) (by decide) hk1 hFc hP1 hD1
  generalize H1 = H at hP hS ⊢
  have hP : va_P (dC, dI) vwCl [(h0, .inr (7, [.ref h1, .ref h2, .ref z0, .ref z1, .ref z2, .ref z3, .int 0, .int 0, .int 0])), (h1, .inl (k0, 4, .inr (.inr (.inr (.inr (va_up (va_up (va_up (va_up (fun _ => none) 0 (some h3)) 1 (some h4)) 2 (some h5)) 3 (some h6))))))), (h2, .inr (5, [.ref z4, .ref z5, .ref z6, .ref z7, .ref z8, .ref z9, .int 0, .int 0])), (h3, .inr (6, [.ref z10, .int 0])), (h4, .inr (6, [.ref z11, .int 0])), (h5, .inr (6, [.ref z12, .int 0])), (h6, .inr (6, [.ref z13, .int 0]))] H := hP
  have hD : va_D A [(h0, .inr (7, [.ref h1, .ref h2, .ref z0, .ref z1, .ref z2, .ref z3, .int 0, .int 0, .int 0])), (h1, .inl (k0, 4, .inr (.inr (.inr (.inr (va_up (va_up (va_up (va_up (fun _ => none) 0 (some h3)) 1 (some h4)) 2 (some h5)) 3 (some h6))))))), (h2, .inr (5, [.ref z4, .ref z5, .ref z6, .ref z7, .ref z8, .ref z9, .int 0, .int 0])), (h3, .inr (6, [.ref z10, .int 0])), (h4, .inr (6, [.ref z11, .int 0])), (h5, .inr (6, [.ref z12, .int 0])), (h6, .inr (6, [.ref z13, .int 0]))] := hD
  refine lv_aload_n hx hb dX3_pick_4 rfl (lv_at hl 0 rfl) ?_
  refine va_get (D := (dC, dI)) (ci := 7) (v := .ref h2) (C := RX3) (T := TX3) (N := 9) hx hb hts (by decide +kernel) hown hK hP 0 rfl rfl 1 (by decide) (hts (.fieldLink RX3 18 "Rewriterope" "book" "LRewriterope$RuleBook;") (by decide +kernel)) (fun _ h9 => h9) rfl dX3_pick_5 ?_
  refine lv_aload_n hx hb dX3_pick_8 rfl (lv_at hl 0 rfl) ?_
  refine va_get (D := (dC, dI)) (ci := 7) (v := .ref h1) (C := RX3) (T := TX3) (N := 9) hx hb hts (by decide +kernel) hown hK hP 0 rfl rfl 0 (by decide) (hts (.fieldLink RX3 11 "Rewriterope" "ropes" "[LRewriterope$Text;") (by decide +kernel)) (fun _ h9 => h9) rfl dX3_pick_9 ?_
  refine lv_iload_n hx hb dX3_pick_12 rfl (lv_at hl 1 rfl) ?_
  refine va_aldq (D := (dC, dI)) hx hb hK hP 1 0 rfl rfl (by unfold vp_in; decide) dX3_pick_13 ?_
  refine W.eq (g2 := F0 m 14 ls [.ref h3, .ref h2]) rfl ?_
  refine lv_iload_n hx hb dX3_pick_14 rfl (lv_at hl 2 rfl) ?_
  have hPc := hP.sub (ws' := [(h2, .inr (5, [.ref z4, .ref z5, .ref z6, .ref z7, .ref z8, .ref z9, .int 0, .int 0])), (h3, .inr (6, [.ref z10, .int 0]))]) [2, 3] rfl
  have hDc := hD.sub (ws' := [(h2, .inr (5, [.ref z4, .ref z5, .ref z6, .ref z7, .ref z8, .ref z9, .int 0, .int 0])), (h3, .inr (6, [.ref z10, .int 0]))]) [2, 3] (by decide) rfl
  have hKc := hK.sub (tys' := []) [] rfl
  have hFc := va_free (wc := [(h2, .inr (5, [.ref z4, .ref z5, .ref z6, .ref z7, .ref z8, .ref z9, .int 0, .int 0])), (h3, .inr (6, [.ref z10, .int 0]))]) hD hS hA [2, 3] rfl
  refine va_calli (va_runV (As := [.ref h3, .int i0]) (rest := []) ⟨hx, hb, hml, hown, hts⟩ (kx_X1_spotOfNumber_1 l dC dI h2 h3 z4 z5 z6 z7 z8 z9 z10 H.size i0 i0_l i0_u) (cwV 2 hts gX3_pick_X1_spotOfNumber rfl rfl rfl (by decide +kernel) ⟨Nat.le_of_ble_eq_true rfl, Nat.le_of_ble_eq_true rfl⟩) ⟨fun a U g mk q => by obtain ⟨q0, q1, qP, qK, qD⟩ := q; exact ⟨q0, q1, qP, va_K.moved (u := U) (U := U.calling g mk a) (Vm.Alike.refl U.vm) qK, qD⟩, va_recv hKc hPc (ci := 5) (q0 := 0) rfl rfl, fun U hU hW => ⟨rfl, by rw [hU], by rw [hU]; exact hPc, va_K.moved hW.alike hKc, hDc.weaken (fun _ _ _ _ => trivial)⟩⟩ rfl rfl hl.1 rfl (lv_room (Nat.le_of_ble_eq_true rfl)) dX3_pick_15 ⟨Nat.le_of_ble_eq_true rfl, Nat.le_of_ble_eq_true rfl⟩) hS (fun q _ h => hFc q h) hFc (fun r9 u t H1 locs ht hvm hw hB hz1 hk1 hS => ?_)
  obtain rfl := hw
  obtain ⟨hP1, hK1, hD1⟩ := hB
  rw [ht] at hP1
  have hK1 := va_K.moved hvm.symm hK1
  obtain ⟨hP, hD⟩ := va_join (wr := [(h0, .inr (7, [.ref h1, .ref h2, .ref z0, .ref z1, .ref z2, .ref z3, .int 0, .int 0, .int 0])), (h1, .inl (k0, 4, .inr (.inr (.inr (.inr (va_up (va_up (va_up (va_up (fun _ => none) 0 (some h3)) 1 (some h4)) 2 (some h5)) 3 (some h6))))))), (h4, .inr (6, [.ref z11, .int 0])), (h5, .inr (6, [.ref z12, .int 0])), (h6, .inr (6, [.ref z13, .int 0]))]) (w1 := [(h2, .inr (5, [.ref z4, .ref z5, .ref z6, .ref z7, .ref z8, .ref z9, .int 0, .int 0])), (h3, .inr (6, [.ref z10, .int 0]))]) hP hD [2, 3] [0, 1, 4, 5, 6] rfl rfl (by decide) (by decide) hk1 hFc hP1 hD1
  generalize H1 = H at hP hS ⊢
  have hP : va_P (dC, dI) vwCl [(h0, .inr (7, [.ref h1, .ref h2, .ref z0, .ref z1, .ref z2, .ref z3, .int 0, .int 0, .int 0])), (h1, .inl (k0, 4, .inr (.inr (.inr (.inr (va_up (va_up (va_up (va_up (fun _ => none) 0 (some h3)) 1 (some h4)) 2 (some h5)) 3 (some h6))))))), (h4, .inr (6, [.ref z11, .int 0])), (h5, .inr (6, [.ref z12, .int 0])), (h6, .inr (6, [.ref z13, .int 0])), (h2, .inr (5, [.ref z4, .ref z5, .ref z6, .ref z7, .ref z8, .ref z9, .int 0, .int 0])), (h3, .inr (6, [.ref z10, .int 0]))] H := hP
  have hD : va_D A [(h0, .inr (7, [.ref h1, .ref h2, .ref z0, .ref z1, .ref z2, .ref z3, .int 0, .int 0, .int 0])), (h1, .inl (k0, 4, .inr (.inr (.inr (.inr (va_up (va_up (va_up (va_up (fun _ => none) 0 (some h3)) 1 (some h4)) 2 (some h5)) 3 (some h6))))))), (h4, .inr (6, [.ref z11, .int 0])), (h5, .inr (6, [.ref z12, .int 0])), (h6, .inr (6, [.ref z13, .int 0])), (h2, .inr (5, [.ref z4, .ref z5, .ref z6, .ref z7, .ref z8, .ref z9, .int 0, .int 0])), (h3, .inr (6, [.ref z10, .int 0]))] := hD
  refine lv_istore_n (lv' := [(3, .int (-1)), (0, .ref h0), (1, .int 0), (2, .int i0)]) hx hb dX3_pick_18 rfl hl (by decide) rfl (fun ls hl => ?_)
  refine lv_iload_n hx hb dX3_pick_19 rfl (lv_at hl 0 rfl) ?_
  refine lv_iconst (v := (-1)) hx hb dX3_pick_20 (by decide) ?_
  refine lv_icmp_ne (tgt := 29) hx hb dX3_pick_21 (by decide) (fun c9 => absurd (by decide) c9) (fun _ => ?_)
  refine lv_aload_n hx hb dX3_pick_24 rfl (lv_at hl 1 rfl) ?_
  have hPc := hP.sub (ws' := [(h0, .inr (7, [.ref h1, .ref h2, .ref z0, .ref z1, .ref z2, .ref z3, .int 0, .int 0, .int 0]))]) [0] rfl
  have hDc := hD.sub (ws' := [(h0, .inr (7, [.ref h1, .ref h2, .ref z0, .ref z1, .ref z2, .ref z3, .int 0, .int 0, .int 0]))]) [0] (by decide) rfl
  have hKc := hK.sub (tys' := []) [] rfl
  have hFc := va_free (wc := [(h0, .inr (7, [.ref h1, .ref h2, .ref z0, .ref z1, .ref z2, .ref z3, .int 0, .int 0, .int 0]))]) hD hS hA [0] rfl
  refine va_calli (va_runV (As := []) (rest := []) ⟨hx, hb, hml, hown, hts⟩ (kx_X3_refuse_0 l dC dI h0 h1 h2 z0 z1 z2 z3 H.size) (cwV 0 hts gX3_pick_X3_refuse rfl rfl rfl (by decide +kernel) ⟨Nat.le_of_ble_eq_true rfl, Nat.le_of_ble_eq_true rfl⟩) ⟨fun a U g mk q => by obtain ⟨q0, q1, qP, qK, qD⟩ := q; exact ⟨q0, q1, qP, va_K.moved (u := U) (U := U.calling g mk a) (Vm.Alike.refl U.vm) qK, qD⟩, va_recv hKc hPc (ci := 7) (q0 := 0) rfl rfl, fun U hU hW => ⟨rfl, by rw [hU], by rw [hU]; exact hPc, va_K.moved hW.alike hKc, hDc.weaken (fun _ _ _ _ => trivial)⟩⟩ rfl rfl hl.1 rfl (lv_room (Nat.le_of_ble_eq_true rfl)) dX3_pick_25 ⟨Nat.le_of_ble_eq_true rfl, Nat.le_of_ble_eq_true rfl⟩) hS (fun q _ h => hFc q h) hFc (fun r9 u t H1 locs ht hvm hw hB hz1 hk1 hS => ?_)
  obtain rfl := hw
  obtain ⟨hP1, hK1, hD1⟩ := hB
  rw [ht] at hP1
  have hK1 := va_K.moved hvm.symm hK1
  obtain ⟨hP, hD⟩ := va_join (wr := [(h1, .inl (k0, 4, .inr (.inr (.inr (.inr (va_up (va_up (va_up (va_up (fun _ => none) 0 (some h3)) 1 (some h4)) 2 (some h5)) 3 (some h6))))))), (h4, .inr (6, [.ref z11, .int 0])), (h5, .inr (6, [.ref z12, .int 0])), (h6, .inr (6, [.ref z13, .int 0])), (h2, .inr (5, [.ref z4, .ref z5, .ref z6, .ref z7, .ref z8, .ref z9, .int 0, .int 0])), (h3, .inr (6, [.ref z10, .int 0]))]) (w1 := [(h0, .inr (7, [.ref h1, .ref h2, .ref z0, .ref z1, .ref z2, .ref z3, .int 1, .int 0, .int 0]))]) hP hD [0] [1, 2, 3, 4, 5, 6] rfl rfl (by decide) (by decide) hk1 hFc hP1 hD1
  generalize H1 = H at hP hS ⊢
  have hP : va_P (dC, dI) vwCl [(h1, .inl (k0, 4, .inr (.inr (.inr (.inr (va_up (va_up (va_up (va_up (fun _ => none) 0 (some h3)) 1 (some h4)) 2 (some h5)) 3 (some h6))))))), (h4, .inr (6, [.ref z11, .int 0])), (h5, .inr (6, [.ref z12, .int 0])), (h6, .inr (6, [.ref z13, .int 0])), (h2, .inr (5, [.ref z4, .ref z5, .ref z6, .ref z7, .ref z8, .ref z9, .int 0, .int 0])), (h3, .inr (6, [.ref z10, .int 0])), (h0, .inr (7, [.ref h1, .ref h2, .ref z0, .ref z1, .ref z2, .ref z3, .int 1, .int 0, .int 0]))] H := hP
  have hD : va_D A [(h1, .inl (k0, 4, .inr (.inr (.inr (.inr (va_up (va_up (va_up (va_up (fun _ => none) 0 (some h3)) 1 (some h4)) 2 (some h5)) 3 (some h6))))))), (h4, .inr (6, [.ref z11, .int 0])), (h5, .inr (6, [.ref z12, .int 0])), (h6, .inr (6, [.ref z13, .int 0])), (h2, .inr (5, [.ref z4, .ref z5, .ref z6, .ref z7, .ref z8, .ref z9, .int 0, .int 0])), (h3, .inr (6, [.ref z10, .int 0])), (h0, .inr (7, [.ref h1, .ref h2, .ref z0, .ref z1, .ref z2, .ref z3, .int 1, .int 0, .int 0]))] := hD
  have hP := hP.sub (ws' := [(h0, .inr (7, [.ref h1, .ref h2, .ref z0, .ref z1, .ref z2, .ref z3, .int 1, .int 0, .int 0])), (h1, .inl (k0, 4, .inr (.inr (.inr (.inr (va_up (va_up (va_up (va_up (fun _ => none) 0 (some h3)) 1 (some h4)) 2 (some h5)) 3 (some h6))))))), (h2, .inr (5, [.ref z4, .ref z5, .ref z6, .ref z7, .ref z8, .ref z9, .int 0, .int 0])), (h3, .inr (6, [.ref z10, .int 0])), (h4, .inr (6, [.ref z11, .int 0])), (h5, .inr (6, [.ref z12, .int 0])), (h6, .inr (6, [.ref z13, .int 0]))]) [6, 0, 4, 5, 1, 2, 3] rfl
  have hD := hD.sub (ws' := [(h0, .inr (7, [.ref h1, .ref h2, .ref z0, .ref z1, .ref z2, .ref z3, .int 1, .int 0, .int 0])), (h1, .inl (k0, 4, .inr (.inr (.inr (.inr (va_up (va_up (va_up (va_up (fun _ => none) 0 (some h3)) 1 (some h4)) 2 (some h5)) 3 (some h6))))))), (h2, .inr (5, [.ref z4, .ref z5, .ref z6, .ref z7, .ref z8, .ref z9, .int 0, .int 0])), (h3, .inr (6, [.ref z10, .int 0])), (h4, .inr (6, [.ref z11, .int 0])), (h5, .inr (6, [.ref z12, .int 0])), (h6, .inr (6, [.ref z13, .int 0]))]) [6, 0, 4, 5, 1, 2, 3] (by decide) rfl
  exact W.iret (v := (-9)) hx hb hr (fun t ht hW => ⟨⟨(-9), (), rfl, rfl, by rw [ht]; exact hP, va_K.moved hW.alike hK, hD⟩, hS.F ht⟩) hS.2.2 dX3_pick_28
set_option maxHeartbeats 4000000 in
set_option maxRecDepth 100000 in
theorem kx_X3_pick_7 (l : Launch) (dC : Nat → ClassId) (dI : Nat → Nat → Nat) (h0 : Nat) (h1 : Nat) (h2 : Nat) (h3 : Nat) (h4 : Nat) (h5 : Nat) (h6 : Nat) (z0 : Nat) (z1 : Nat) (z2 : Nat) (z3 : Nat) (z4 : Nat) (z5 : Nat) (z6 : Nat) (z7 : Nat) (z8 : Nat) (z9 : Nat) (z10 : Nat) (z11 : Nat) (z12 : Nat) (z13 : Nat) (k0 : ClassId) (sz : Nat) (i0 : Int32) (i0_l : (0 : Int) ≤ i0.toInt) (i0_u : i0.toInt ≤ (2147483647 : Int)) : Met l yX3_pick wsX3_pick ({ frames := 1, cells := 0, slots := 0, locals := 24 }) (va_Pc [.ref h0, .int 1, .int i0] (fun U => U.heap.size = sz ∧ va_P (dC, dI) vwCl [(h0, .inr (7, [.ref h1, .ref h2, .ref z0, .ref z1, .ref z2, .ref z3, .int 0, .int 0, .int 0])), (h1, .inl (k0, 4, .inr (.inr (.inr (.inr (va_up (va_up (va_up (va_up (fun _ => none) 0 (some h3)) 1 (some h4)) 2 (some h5)) 3 (some h6))))))), (h2, .inr (5, [.ref z4, .ref z5, .ref z6, .ref z7, .ref z8, .ref z9, .int 0, .int 0])), (h3, .inr (6, [.ref z10, .int 0])), (h4, .inr (6, [.ref z11, .int 0])), (h5, .inr (6, [.ref z12, .int 0])), (h6, .inr (6, [.ref z13, .int 0]))] U.heap ∧ va_K (dC, dI) vwCl [(k0, .object "Rewriterope$Text")] U ∧ va_D (fun _ => True) [(h0, .inr (7, [.ref h1, .ref h2, .ref z0, .ref z1, .ref z2, .ref z3, .int 0, .int 0, .int 0])), (h1, .inl (k0, 4, .inr (.inr (.inr (.inr (va_up (va_up (va_up (va_up (fun _ => none) 0 (some h3)) 1 (some h4)) 2 (some h5)) 3 (some h6))))))), (h2, .inr (5, [.ref z4, .ref z5, .ref z6, .ref z7, .ref z8, .ref z9, .int 0, .int 0])), (h3, .inr (6, [.ref z10, .int 0])), (h4, .inr (6, [.ref z11, .int 0])), (h5, .inr (6, [.ref z12, .int 0])), (h6, .inr (6, [.ref z13, .int 0]))])) (va_Qi (fun (r : Int32) (_ : Unit) => r = (-9)) (fun (_ : Unit) (t : State) => va_P (dC, dI) vwCl [(h0, .inr (7, [.ref h1, .ref h2, .ref z0, .ref z1, .ref z2, .ref z3, .int 1, .int 0, .int 0])), (h1, .inl (k0, 4, .inr (.inr (.inr (.inr (va_up (va_up (va_up (va_up (fun _ => none) 0 (some h3)) 1 (some h4)) 2 (some h5)) 3 (some h6))))))), (h2, .inr (5, [.ref z4, .ref z5, .ref z6, .ref z7, .ref z8, .ref z9, .int 0, .int 0])), (h3, .inr (6, [.ref z10, .int 0])), (h4, .inr (6, [.ref z11, .int 0])), (h5, .inr (6, [.ref z12, .int 0])), (h6, .inr (6, [.ref z13, .int 0]))] t.heap ∧ va_K (dC, dI) vwCl [(k0, .object "Rewriterope$Text")] t ∧ va_D (va_A [(h0, .inr (7, [.ref h1, .ref h2, .ref z0, .ref z1, .ref z2, .ref z3, .int 0, .int 0, .int 0])), (h1, .inl (k0, 4, .inr (.inr (.inr (.inr (va_up (va_up (va_up (va_up (fun _ => none) 0 (some h3)) 1 (some h4)) 2 (some h5)) 3 (some h6))))))), (h2, .inr (5, [.ref z4, .ref z5, .ref z6, .ref z7, .ref z8, .ref z9, .int 0, .int 0])), (h3, .inr (6, [.ref z10, .int 0])), (h4, .inr (6, [.ref z11, .int 0])), (h5, .inr (6, [.ref z12, .int 0])), (h6, .inr (6, [.ref z13, .int 0]))] sz) [(h0, .inr (7, [.ref h1, .ref h2, .ref z0, .ref z1, .ref z2, .ref z3, .int 1, .int 0, .int 0])), (h1, .inl (k0, 4, .inr (.inr (.inr (.inr (va_up (va_up (va_up (va_up (fun _ => none) 0 (some h3)) 1 (some h4)) 2 (some h5)) 3 (some h6))))))), (h2, .inr (5, [.ref z4, .ref z5, .ref z6, .ref z7, .ref z8, .ref z9, .int 0, .int 0])), (h3, .inr (6, [.ref z10, .int 0])), (h4, .inr (6, [.ref z11, .int 0])), (h5, .inr (6, [.ref z12, .int 0])), (h6, .inr (6, [.ref z13, .int 0]))]) (va_A [(h0, .inr (7, [.ref h1, .ref h2, .ref z0, .ref z1, .ref z2, .ref z3, .int 0, .int 0, .int 0])), (h1, .inl (k0, 4, .inr (.inr (.inr (.inr (va_up (va_up (va_up (va_up (fun _ => none) 0 (some h3)) 1 (some h4)) 2 (some h5)) 3 (some h6))))))), (h2, .inr (5, [.ref z4, .ref z5, .ref z6, .ref z7, .ref z8, .ref z9, .int 0, .int 0])), (h3, .inr (6, [.ref z10, .int 0])), (h4, .inr (6, [.ref z11, .int 0])), (h5, .inr (6, [.ref z12, .int 0])), (h6, .inr (6, [.ref z13, .int 0]))] sz)) 0 0 (va_A [(h0, .inr (7, [.ref h1, .ref h2, .ref z0, .ref z1, .ref z2, .ref z3, .int 0, .int 0, .int 0])), (h1, .inl (k0, 4, .inr (.inr (.inr (.inr (va_up (va_up (va_up (va_up (fun _ => none) 0 (some h3)) 1 (some h4)) 2 (some h5)) 3 (some h6))))))), (h2, .inr (5, [.ref z4, .ref z5, .ref z6, .ref z7, .ref z8, .ref z9, .int 0, .int 0])), (h3, .inr (6, [.ref z10, .int 0])), (h4, .inr (6, [.ref z11, .int 0])), (h5, .inr (6, [.ref z12, .int 0])), (h6, .inr (6, [.ref z13, .int 0]))] sz) := by
  refine Met.ofW (cc := cX3_pick) (maxL := 4) (ret := (some .int)) (by decide) rfl ?_
  intro p e s m args below meth c s₁ B hml hv
  obtain ⟨rfl, hsz, hP, hK, hD0⟩ := hv
  have hx := B.exec
  have hb := B.bytes
  have hr := B.returns
  have hts := atoms_spec (ws := wsX3_pick) B.pre
  have hown : s.vm.findClass RX3 = some m.cls := findClass_of_methodNamed B.named
  have hlocks := B.notSynchronized
  subst hsz
  have hD := hD0.self (sz := s.heap.size)
  generalize hAe : va_A [(h0, .inr (7, [.ref h1, .ref h2, .ref z0, .ref z1, .ref z2, .ref z3, .int 0, .int 0, .int 0])), (h1, .inl (k0, 4, .inr (.inr (.inr (.inr (va_up (va_up (va_up (va_up (fun _ => none) 0 (some h3)) 1 (some h4)) 2 (some h5)) 3 (some h6))))))), (h2, .inr (5, [.ref z4, .ref z5, .ref z6, .ref z7, .ref z8, .ref z9, .int 0, .int 0])), (h3, .inr (6, [.ref z10, .int 0])), (h4, .inr (6, [.ref z11, .int 0])), (h5, .inr (6, [.ref z12, .int 0])), (h6, .inr (6, [.ref z13, .int 0]))] s.heap.size = A at hD ⊢
  have hA : ∀ q : Nat, s.heap.size ≤ q → A q := fun q h => by rw [← hAe]; exact Or.inr h
  have hS : va_S A s.heap s.heap [] := va_S.rf
  have hP : va_P (dC, dI) vwCl [(h0, .inr (7, [.ref h1, .ref h2, .ref z0, .ref z1, .ref z2, .ref z3, .int 0, .int 0, .int 0])), (h1, .inl (k0, 4, .inr (.inr (.inr (.inr (va_up (va_up (va_up (va_up (fun _ => none) 0 (some h3)) 1 (some h4)) 2 (some h5)) 3 (some h6))))))), (h2, .inr (5, [.ref z4, .ref z5, .ref z6, .ref z7, .ref z8, .ref z9, .int 0, .int 0])), (h3, .inr (6, [.ref z10, .int 0])), (h4, .inr (6, [.ref z11, .int 0])), (h5, .inr (6, [.ref z12, .int 0])), (h6, .inr (6, [.ref z13, .int 0]))] s.heap := hP
  have hl := lv_entry ([.ref h0, .int 1, .int i0]) (n := 4) (Nat.le_of_ble_eq_true rfl)
  rw [lg_entry_eq]
  generalize (lg_sl ([.ref h0, .int 1, .int i0]) ++ List.replicate (4 - (lg_sl ([.ref h0, .int 1, .int i0])).length) Slot.unset).toArray = ls at hl ⊢
  have hl : lv_has ls 4 [(0, .ref h0), (1, .int 1), (2, .int i0)] := hl
  refine lv_iload_n hx hb dX3_pick_0 rfl (lv_at hl 1 rfl) ?_
  have hPc := hP.sub (ws' := []) [] rfl
  have hDc := hD.sub (ws' := []) [] (by decide) rfl
  have hKc := hK.sub (tys' := []) [] rfl
  have hFc := va_free (wc := []) hD hS hA [] rfl
  refine va_callv (va_runS (As := [.int 1]) (rest := []) ⟨hx, hb, hml, hown, hts⟩ (kx_X3_needRope_1 l dC dI s.heap.size) (cwS 1 hts gX3_pick_X3_needRope rfl rfl rfl (by decide +kernel) ⟨Nat.le_of_ble_eq_true rfl, Nat.le_of_ble_eq_true rfl⟩) ⟨fun a U g mk q => by obtain ⟨q0, q1, qP, qK, qD⟩ := q; exact ⟨q0, q1, qP, va_K.moved (u := U) (U := U.calling g mk a) (Vm.Alike.refl U.vm) qK, qD⟩, fun U hU hW => ⟨rfl, by rw [hU], by rw [hU]; exact hPc, va_K.moved hW.alike hKc, hDc.weaken (fun _ _ _ _ => trivial)⟩⟩ rfl rfl hl.1 rfl (lv_room (Nat.le_of_ble_eq_true rfl)) dX3_pick_1 ⟨Nat.le_of_ble_eq_true rfl, Nat.le_of_ble_eq_true rfl⟩) hS (fun q _ h => hFc q h) hFc (fun u t H1 locs ht hvm hw hB hz1 hk1 hS => ?_)
  obtain ⟨hP1, hK1, hD1⟩ := hB
  rw [ht] at hP1
  have hK1 := va_K.moved hvm.symm hK1
  obtain ⟨hP, hD⟩ := va_join (wr := [(h0, .inr (7, [.ref h1, .ref h2, .ref z0, .ref z1, .ref z2, .ref z3, .int 0, .int 0, .int 0])), (h1, .inl (k0, 4, .inr (.inr (.inr (.inr (va_up (va_up (va_up (va_up (fun _ => none) 0 (some h3)) 1 (some h4)) 2 (some h5)) 3 (some h6))))))), (h2, .inr (5, [.ref z4, .ref z5, .ref z6, .ref z7, .ref z8, .ref z9, .int 0, .int 0])), (h3, .inr (6, [.ref z10, .int 0])), (h4, .inr (6, [.ref z11, .int 0])), (h5, .inr (6, [.ref z12, .int 0])), (h6, .inr (6, [.ref z13, .int 0]))]) (w1 := []) hP hD [] [0, 1, 2, 3, 4, 5, 6] rfl rfl (by decide) (by decide) hk1 hFc hP1 hD1
  generalize H1 = H at hP hS ⊢
  have hP : va_P (dC, dI) vwCl [(h0, .inr (7, [.ref h1, .ref h2, .ref z0, .ref z1, .ref z2, .ref z3, .int 0, .int 0, .int 0])), (h1, .inl (k0, 4, .inr (.inr (.inr (.inr (va_up (va_up (va_up (va_up (fun _ => none) 0 (some h3)) 1 (some h4)) 2 (some h5)) 3 (some h6))))))), (h2, .inr (5, [.ref z4, .ref z5, .ref z6, .ref z7, .ref z8, .ref z9, .int 0, .int 0])), (h3, .inr (6, [.ref z10, .int 0])), (h4, .inr (6, [.ref z11, .int 0])), (h5, .inr (6, [.ref z12, .int 0])), (h6, .inr (6, [.ref z13, .int 0]))] H := hP
  have hD : va_D A [(h0, .inr (7, [.ref h1, .ref h2, .ref z0, .ref z1, .ref z2, .ref z3, .int 0, .int 0, .int 0])), (h1, .inl (k0, 4, .inr (.inr (.inr (.inr (va_up (va_up (va_up (va_up (fun _ => none) 0 (some h3)) 1 (some h4)) 2 (some h5)) 3 (some h6))))))), (h2, .inr (5, [.ref z4, .ref z5, .ref z6, .ref z7, .ref z8, .ref z9, .int 0, .int 0])), (h3, .inr (6, [.ref z10, .int 0])), (h4, .inr (6, [.ref z11, .int 0])), (h5, .inr (6, [.ref z12, .int 0])), (h6, .inr (6, [.ref z13, .int 0]))] := hD
  refine lv_aload_n hx hb dX3_pick_4 rfl (lv_at hl 0 rfl) ?_
  refine va_get (D := (dC, dI)) (ci := 7) (v := .ref h2) (C := RX3) (T := TX3) (N := 9) hx hb hts (by decide +kernel) hown hK hP 0 rfl rfl 1 (by decide) (hts (.fieldLink RX3 18 "Rewriterope" "book" "LRewriterope$RuleBook;") (by decide +kernel)) (fun _ h9 => h9) rfl dX3_pick_5 ?_
  refine lv_aload_n hx hb dX3_pick_8 rfl (lv_at hl 0 rfl) ?_
  refine va_get (D := (dC, dI)) (ci := 7) (v := .ref h1) (C := RX3) (T := TX3) (N := 9) hx hb hts (by decide +kernel) hown hK hP 0 rfl rfl 0 (by decide) (hts (.fieldLink RX3 11 "Rewriterope" "ropes" "[LRewriterope$Text;") (by decide +kernel)) (fun _ h9 => h9) rfl dX3_pick_9 ?_
  refine lv_iload_n hx hb dX3_pick_12 rfl (lv_at hl 1 rfl) ?_
  refine va_aldq (D := (dC, dI)) hx hb hK hP 1 0 rfl rfl (by unfold vp_in; decide) dX3_pick_13 ?_
  refine W.eq (g2 := F0 m 14 ls [.ref h4, .ref h2]) rfl ?_
  refine lv_iload_n hx hb dX3_pick_14 rfl (lv_at hl 2 rfl) ?_
  have hPc := hP.sub (ws' := [(h2, .inr (5, [.ref z4, .ref z5, .ref z6, .ref z7, .ref z8, .ref z9, .int 0, .int 0])), (h4, .inr (6, [.ref z11, .int 0]))]) [2, 4] rfl
  have hDc := hD.sub (ws' := [(h2, .inr (5, [.ref z4, .ref z5, .ref z6, .ref z7, .ref z8, .ref z9, .int 0, .int 0])), (h4, .inr (6, [.ref z11, .int 0]))]) [2, 4] (by decide) rfl
  have hKc := hK.sub (tys' := []) [] rfl
  have hFc := va_free (wc := [(h2, .inr (5, [.ref z4, .ref z5, .ref z6, .ref z7, .ref z8, .ref z9, .int 0, .int 0])), (h4, .inr (6, [.ref z11, .int 0]))]) hD hS hA [2, 4] rfl
  refine va_calli (va_runV (As := [.ref h4, .int i0]) (rest := []) ⟨hx, hb, hml, hown, hts⟩ (kx_X1_spotOfNumber_1 l dC dI h2 h4 z4 z5 z6 z7 z8 z9 z11 H.size i0 i0_l i0_u) (cwV 2 hts gX3_pick_X1_spotOfNumber rfl rfl rfl (by decide +kernel) ⟨Nat.le_of_ble_eq_true rfl, Nat.le_of_ble_eq_true rfl⟩) ⟨fun a U g mk q => by obtain ⟨q0, q1, qP, qK, qD⟩ := q; exact ⟨q0, q1, qP, va_K.moved (u := U) (U := U.calling g mk a) (Vm.Alike.refl U.vm) qK, qD⟩, va_recv hKc hPc (ci := 5) (q0 := 0) rfl rfl, fun U hU hW => ⟨rfl, by rw [hU], by rw [hU]; exact hPc, va_K.moved hW.alike hKc, hDc.weaken (fun _ _ _ _ => trivial)⟩⟩ rfl rfl hl.1 rfl (lv_room (Nat.le_of_ble_eq_true rfl)) dX3_pick_15 ⟨Nat.le_of_ble_eq_true rfl, Nat.le_of_ble_eq_true rfl⟩) hS (fun q _ h => hFc q h) hFc (fun r9 u t H1 locs ht hvm hw hB hz1 hk1 hS => ?_)
  obtain rfl := hw
  obtain ⟨hP1, hK1, hD1⟩ := hB
  rw [ht] at hP1
  have hK1 := va_K.moved hvm.symm hK1
  obtain ⟨hP, hD⟩ := va_join (wr := [(h0, .inr (7, [.ref h1, .ref h2, .ref z0, .ref z1, .ref z2, .ref z3, .int 0, .int 0, .int 0])), (h1, .inl (k0, 4, .inr (.inr (.inr (.inr (va_up (va_up (va_up (va_up (fun _ => none) 0 (some h3)) 1 (some h4)) 2 (some h5)) 3 (some h6))))))), (h3, .inr (6, [.ref z10, .int 0])), (h5, .inr (6, [.ref z12, .int 0])), (h6, .inr (6, [.ref z13, .int 0]))]) (w1 := [(h2, .inr (5, [.ref z4, .ref z5, .ref z6, .ref z7, .ref z8, .ref z9, .int 0, .int 0])), (h4, .inr (6, [.ref z11, .int 0]))]) hP hD [2, 4] [0, 1, 3, 5, 6] rfl rfl (by decide) (by decide) hk1 hFc hP1 hD1
  generalize H1 = H at hP hS ⊢
  have hP : va_P (dC, dI) vwCl [(h0, .inr (7, [.ref h1, .ref h2, .ref z0, .ref z1, .ref z2, .ref z3, .int 0, .int 0, .int 0])), (h1, .inl (k0, 4, .inr (.inr (.inr (.inr (va_up (va_up (va_up (va_up (fun _ => none) 0 (some h3)) 1 (some h4)) 2 (some h5)) 3 (some h6))))))), (h3, .inr (6, [.ref z10, .int 0])), (h5, .inr (6, [.ref z12, .int 0])), (h6, .inr (6, [.ref z13, .int 0])), (h2, .inr (5, [.ref z4, .ref z5, .ref z6, .ref z7, .ref z8, .ref z9, .int 0, .int 0])), (h4, .inr (6, [.ref z11, .int 0]))] H := hP
  have hD : va_D A [(h0, .inr (7, [.ref h1, .ref h2, .ref z0, .ref z1, .ref z2, .ref z3, .int 0, .int 0, .int 0])), (h1, .inl (k0, 4, .inr (.inr (.inr (.inr (va_up (va_up (va_up (va_up (fun _ => none) 0 (some h3)) 1 (some h4)) 2 (some h5)) 3 (some h6))))))), (h3, .inr (6, [.ref z10, .int 0])), (h5, .inr (6, [.ref z12, .int 0])), (h6, .inr (6, [.ref z13, .int 0])), (h2, .inr (5, [.ref z4, .ref z5, .ref z6, .ref z7, .ref z8, .ref z9, .int 0, .int 0])), (h4, .inr (6, [.ref z11, .int 0]))] := hD
  refine lv_istore_n (lv' := [(3, .int (-1)), (0, .ref h0), (1, .int 1), (2, .int i0)]) hx hb dX3_pick_18 rfl hl (by decide) rfl (fun ls hl => ?_)
  refine lv_iload_n hx hb dX3_pick_19 rfl (lv_at hl 0 rfl) ?_
  refine lv_iconst (v := (-1)) hx hb dX3_pick_20 (by decide) ?_
  refine lv_icmp_ne (tgt := 29) hx hb dX3_pick_21 (by decide) (fun c9 => absurd (by decide) c9) (fun _ => ?_)
  refine lv_aload_n hx hb dX3_pick_24 rfl (lv_at hl 1 rfl) ?_
  have hPc := hP.sub (ws' := [(h0, .inr (7, [.ref h1, .ref h2, .ref z0, .ref z1, .ref z2, .ref z3, .int 0, .int 0, .int 0]))]) [0] rfl
  have hDc := hD.sub (ws' := [(h0, .inr (7, [.ref h1, .ref h2, .ref z0, .ref z1, .ref z2, .ref z3, .int 0, .int 0, .int 0]))]) [0] (by decide) rfl
  have hKc := hK.sub (tys' := []) [] rfl
  have hFc := va_free (wc := [(h0, .inr (7, [.ref h1, .ref h2, .ref z0, .ref z1, .ref z2, .ref z3, .int 0, .int 0, .int 0]))]) hD hS hA [0] rfl
  refine va_calli (va_runV (As := []) (rest := []) ⟨hx, hb, hml, hown, hts⟩ (kx_X3_refuse_0 l dC dI h0 h1 h2 z0 z1 z2 z3 H.size) (cwV 0 hts gX3_pick_X3_refuse rfl rfl rfl (by decide +kernel) ⟨Nat.le_of_ble_eq_true rfl, Nat.le_of_ble_eq_true rfl⟩) ⟨fun a U g mk q => by obtain ⟨q0, q1, qP, qK, qD⟩ := q; exact ⟨q0, q1, qP, va_K.moved (u := U) (U := U.calling g mk a) (Vm.Alike.refl U.vm) qK, qD⟩, va_recv hKc hPc (ci := 7) (q0 := 0) rfl rfl, fun U hU hW => ⟨rfl, by rw [hU], by rw [hU]; exact hPc, va_K.moved hW.alike hKc, hDc.weaken (fun _ _ _ _ => trivial)⟩⟩ rfl rfl hl.1 rfl (lv_room (Nat.le_of_ble_eq_true rfl)) dX3_pick_25 ⟨Nat.le_of_ble_eq_true rfl, Nat.le_of_ble_eq_true rfl⟩) hS (fun q _ h => hFc q h) hFc (fun r9 u t H1 locs ht hvm hw hB hz1 hk1 hS => ?_)
  obtain rfl := hw
  obtain ⟨hP1, hK1, hD1⟩ := hB
  rw [ht] at hP1
  have hK1 := va_K.moved hvm.symm hK1
  obtain ⟨hP, hD⟩ := va_join (wr := [(h1, .inl (k0, 4, .inr (.inr (.inr (.inr (va_up (va_up (va_up (va_up (fun _ => none) 0 (some h3)) 1 (some h4)) 2 (some h5)) 3 (some h6))))))), (h3, .inr (6, [.ref z10, .int 0])), (h5, .inr (6, [.ref z12, .int 0])), (h6, .inr (6, [.ref z13, .int 0])), (h2, .inr (5, [.ref z4, .ref z5, .ref z6, .ref z7, .ref z8, .ref z9, .int 0, .int 0])), (h4, .inr (6, [.ref z11, .int 0]))]) (w1 := [(h0, .inr (7, [.ref h1, .ref h2, .ref z0, .ref z1, .ref z2, .ref z3, .int 1, .int 0, .int 0]))]) hP hD [0] [1, 2, 3, 4, 5, 6] rfl rfl (by decide) (by decide) hk1 hFc hP1 hD1
  generalize H1 = H at hP hS ⊢
  have hP : va_P (dC, dI) vwCl [(h1, .inl (k0, 4, .inr (.inr (.inr (.inr (va_up (va_up (va_up (va_up (fun _ => none) 0 (some h3)) 1 (some h4)) 2 (some h5)) 3 (some h6))))))), (h3, .inr (6, [.ref z10, .int 0])), (h5, .inr (6, [.ref z12, .int 0])), (h6, .inr (6, [.ref z13, .int 0])), (h2, .inr (5, [.ref z4, .ref z5, .ref z6, .ref z7, .ref z8, .ref z9, .int 0, .int 0])), (h4, .inr (6, [.ref z11, .int 0])), (h0, .inr (7, [.ref h1, .ref h2, .ref z0, .ref z1, .ref z2, .ref z3, .int 1, .int 0, .int 0]))] H := hP
  have hD : va_D A [(h1, .inl (k0, 4, .inr (.inr (.inr (.inr (va_up (va_up (va_up (va_up (fun _ => none) 0 (some h3)) 1 (some h4)) 2 (some h5)) 3 (some h6))))))), (h3, .inr (6, [.ref z10, .int 0])), (h5, .inr (6, [.ref z12, .int 0])), (h6, .inr (6, [.ref z13, .int 0])), (h2, .inr (5, [.ref z4, .ref z5, .ref z6, .ref z7, .ref z8, .ref z9, .int 0, .int 0])), (h4, .inr (6, [.ref z11, .int 0])), (h0, .inr (7, [.ref h1, .ref h2, .ref z0, .ref z1, .ref z2, .ref z3, .int 1, .int 0, .int 0]))] := hD
  have hP := hP.sub (ws' := [(h0, .inr (7, [.ref h1, .ref h2, .ref z0, .ref z1, .ref z2, .ref z3, .int 1, .int 0, .int 0])), (h1, .inl (k0, 4, .inr (.inr (.inr (.inr (va_up (va_up (va_up (va_up (fun _ => none) 0 (some h3)) 1 (some h4)) 2 (some h5)) 3 (some h6))))))), (h2, .inr (5, [.ref z4, .ref z5, .ref z6, .ref z7, .ref z8, .ref z9, .int 0, .int 0])), (h3, .inr (6, [.ref z10, .int 0])), (h4, .inr (6, [.ref z11, .int 0])), (h5, .inr (6, [.ref z12, .int 0])), (h6, .inr (6, [.ref z13, .int 0]))]) [6, 0, 4, 1, 5, 2, 3] rfl
  have hD := hD.sub (ws' := [(h0, .inr (7, [.ref h1, .ref h2, .ref z0, .ref z1, .ref z2, .ref z3, .int 1, .int 0, .int 0])), (h1, .inl (k0, 4, .inr (.inr (.inr (.inr (va_up (va_up (va_up (va_up (fun _ => none) 0 (some h3)) 1 (some h4)) 2 (some h5)) 3 (some h6))))))), (h2, .inr (5, [.ref z4, .ref z5, .ref z6, .ref z7, .ref z8, .ref z9, .int 0, .int 0])), (h3, .inr (6, [.ref z10, .int 0])), (h4, .inr (6, [.ref z11, .int 0])), (h5, .inr (6, [.ref z12, .int 0])), (h6, .inr (6, [.ref z13, .int 0]))]) [6, 0, 4, 1, 5, 2, 3] (by decide) rfl
  exact W.iret (v := (-9)) hx hb hr (fun t ht hW => ⟨⟨(-9), (), rfl, rfl, by rw [ht]; exact hP, va_K.moved hW.alike hK, hD⟩, hS.F ht⟩) hS.2.2 dX3_pick_28
set_option maxHeartbeats 4000000 in
set_option maxRecDepth 100000 in
theorem kx_X3_pick_8 (l : Launch) (dC : Nat → ClassId) (dI : Nat → Nat → Nat) (h0 : Nat) (h1 : Nat) (h2 : Nat) (h3 : Nat) (h4 : Nat) (h5 : Nat) (h6 : Nat) (z0 : Nat) (z1 : Nat) (z2 : Nat) (z3 : Nat) (z4 : Nat) (z5 : Nat) (z6 : Nat) (z7 : Nat) (z8 : Nat) (z9 : Nat) (z10 : Nat) (z11 : Nat) (z12 : Nat) (z13 : Nat) (k0 : ClassId) (sz : Nat) (i0 : Int32) (i0_l : (0 : Int) ≤ i0.toInt) (i0_u : i0.toInt ≤ (2147483647 : Int)) : Met l yX3_pick wsX3_pick ({ frames := 1, cells := 0, slots := 0, locals := 24 }) (va_Pc [.ref h0, .int 2, .int i0] (fun U => U.heap.size = sz ∧ va_P (dC, dI) vwCl [(h0, .inr (7, [.ref h1, .ref h2, .ref z0, .ref z1, .ref z2, .ref z3, .int 0, .int 0, .int 0])), (h1, .inl (k0, 4, .inr (.inr (.inr (.inr (va_up (va_up (va_up (va_up (fun _ => none) 0 (some h3)) 1 (some h4)) 2 (some h5)) 3 (some h6))))))), (h2, .inr (5, [.ref z4, .ref z5, .ref z6, .ref z7, .ref z8, .ref z9, .int 0, .int 0])), (h3, .inr (6, [.ref z10, .int 0])), (h4, .inr (6, [.ref z11, .int 0])), (h5, .inr (6, [.ref z12, .int 0])), (h6, .inr (6, [.ref z13, .int 0]))] U.heap ∧ va_K (dC, dI) vwCl [(k0, .object "Rewriterope$Text")] U ∧ va_D (fun _ => True) [(h0, .inr (7, [.ref h1, .ref h2, .ref z0, .ref z1, .ref z2, .ref z3, .int 0, .int 0, .int 0])), (h1, .inl (k0, 4, .inr (.inr (.inr (.inr (va_up (va_up (va_up (va_up (fun _ => none) 0 (some h3)) 1 (some h4)) 2 (some h5)) 3 (some h6))))))), (h2, .inr (5, [.ref z4, .ref z5, .ref z6, .ref z7, .ref z8, .ref z9, .int 0, .int 0])), (h3, .inr (6, [.ref z10, .int 0])), (h4, .inr (6, [.ref z11, .int 0])), (h5, .inr (6, [.ref z12, .int 0])), (h6, .inr (6, [.ref z13, .int 0]))])) (va_Qi (fun (r : Int32) (_ : Unit) => r = (-9)) (fun (_ : Unit) (t : State) => va_P (dC, dI) vwCl [(h0, .inr (7, [.ref h1, .ref h2, .ref z0, .ref z1, .ref z2, .ref z3, .int 1, .int 0, .int 0])), (h1, .inl (k0, 4, .inr (.inr (.inr (.inr (va_up (va_up (va_up (va_up (fun _ => none) 0 (some h3)) 1 (some h4)) 2 (some h5)) 3 (some h6))))))), (h2, .inr (5, [.ref z4, .ref z5, .ref z6, .ref z7, .ref z8, .ref z9, .int 0, .int 0])), (h3, .inr (6, [.ref z10, .int 0])), (h4, .inr (6, [.ref z11, .int 0])), (h5, .inr (6, [.ref z12, .int 0])), (h6, .inr (6, [.ref z13, .int 0]))] t.heap ∧ va_K (dC, dI) vwCl [(k0, .object "Rewriterope$Text")] t ∧ va_D (va_A [(h0, .inr (7, [.ref h1, .ref h2, .ref z0, .ref z1, .ref z2, .ref z3, .int 0, .int 0, .int 0])), (h1, .inl (k0, 4, .inr (.inr (.inr (.inr (va_up (va_up (va_up (va_up (fun _ => none) 0 (some h3)) 1 (some h4)) 2 (some h5)) 3 (some h6))))))), (h2, .inr (5, [.ref z4, .ref z5, .ref z6, .ref z7, .ref z8, .ref z9, .int 0, .int 0])), (h3, .inr (6, [.ref z10, .int 0])), (h4, .inr (6, [.ref z11, .int 0])), (h5, .inr (6, [.ref z12, .int 0])), (h6, .inr (6, [.ref z13, .int 0]))] sz) [(h0, .inr (7, [.ref h1, .ref h2, .ref z0, .ref z1, .ref z2, .ref z3, .int 1, .int 0, .int 0])), (h1, .inl (k0, 4, .inr (.inr (.inr (.inr (va_up (va_up (va_up (va_up (fun _ => none) 0 (some h3)) 1 (some h4)) 2 (some h5)) 3 (some h6))))))), (h2, .inr (5, [.ref z4, .ref z5, .ref z6, .ref z7, .ref z8, .ref z9, .int 0, .int 0])), (h3, .inr (6, [.ref z10, .int 0])), (h4, .inr (6, [.ref z11, .int 0])), (h5, .inr (6, [.ref z12, .int 0])), (h6, .inr (6, [.ref z13, .int 0]))]) (va_A [(h0, .inr (7, [.ref h1, .ref h2, .ref z0, .ref z1, .ref z2, .ref z3, .int 0, .int 0, .int 0])), (h1, .inl (k0, 4, .inr (.inr (.inr (.inr (va_up (va_up (va_up (va_up (fun _ => none) 0 (some h3)) 1 (some h4)) 2 (some h5)) 3 (some h6))))))), (h2, .inr (5, [.ref z4, .ref z5, .ref z6, .ref z7, .ref z8, .ref z9, .int 0, .int 0])), (h3, .inr (6, [.ref z10, .int 0])), (h4, .inr (6, [.ref z11, .int 0])), (h5, .inr (6, [.ref z12, .int 0])), (h6, .inr (6, [.ref z13, .int 0]))] sz)) 0 0 (va_A [(h0, .inr (7, [.ref h1, .ref h2, .ref z0, .ref z1, .ref z2, .ref z3, .int 0, .int 0, .int 0])), (h1, .inl (k0, 4, .inr (.inr (.inr (.inr (va_up (va_up (va_up (va_up (fun _ => none) 0 (some h3)) 1 (some h4)) 2 (some h5)) 3 (some h6))))))), (h2, .inr (5, [.ref z4, .ref z5, .ref z6, .ref z7, .ref z8, .ref z9, .int 0, .int 0])), (h3, .inr (6, [.ref z10, .int 0])), (h4, .inr (6, [.ref z11, .int 0])), (h5, .inr (6, [.ref z12, .int 0])), (h6, .inr (6, [.ref z13, .int 0]))] sz) := by
  refine Met.ofW (cc := cX3_pick) (maxL := 4) (ret := (some .int)) (by decide) rfl ?_
  intro p e s m args below meth c s₁ B hml hv
  obtain ⟨rfl, hsz, hP, hK, hD0⟩ := hv
  have hx := B.exec
  have hb := B.bytes
  have hr := B.returns
  have hts := atoms_spec (ws := wsX3_pick) B.pre
  have hown : s.vm.findClass RX3 = some m.cls := findClass_of_methodNamed B.named
  have hlocks := B.notSynchronized
  subst hsz
  have hD := hD0.self (sz := s.heap.size)
  generalize hAe : va_A [(h0, .inr (7, [.ref h1, .ref h2, .ref z0, .ref z1, .ref z2, .ref z3, .int 0, .int 0, .int 0])), (h1, .inl (k0, 4, .inr (.inr (.inr (.inr (va_up (va_up (va_up (va_up (fun _ => none) 0 (some h3)) 1 (some h4)) 2 (some h5)) 3 (some h6))))))), (h2, .inr (5, [.ref z4, .ref z5, .ref z6, .ref z7, .ref z8, .ref z9, .int 0, .int 0])), (h3, .inr (6, [.ref z10, .int 0])), (h4, .inr (6, [.ref z11, .int 0])), (h5, .inr (6, [.ref z12, .int 0])), (h6, .inr (6, [.ref z13, .int 0]))] s.heap.size = A at hD ⊢
  have hA : ∀ q : Nat, s.heap.size ≤ q → A q := fun q h => by rw [← hAe]; exact Or.inr h
  have hS : va_S A s.heap s.heap [] := va_S.rf
  have hP : va_P (dC, dI) vwCl [(h0, .inr (7, [.ref h1, .ref h2, .ref z0, .ref z1, .ref z2, .ref z3, .int 0, .int 0, .int 0])), (h1, .inl (k0, 4, .inr (.inr (.inr (.inr (va_up (va_up (va_up (va_up (fun _ => none) 0 (some h3)) 1 (some h4)) 2 (some h5)) 3 (some h6))))))), (h2, .inr (5, [.ref z4, .ref z5, .ref z6, .ref z7, .ref z8, .ref z9, .int 0, .int 0])), (h3, .inr (6, [.ref z10, .int 0])), (h4, .inr (6, [.ref z11, .int 0])), (h5, .inr (6, [.ref z12, .int 0])), (h6, .inr (6, [.ref z13, .int 0]))] s.heap := hP
  have hl := lv_entry ([.ref h0, .int 2, .int i0]) (n := 4) (Nat.le_of_ble_eq_true rfl)
  rw [lg_entry_eq]
  generalize (lg_sl ([.ref h0, .int 2, .int i0]) ++ List.replicate (4 - (lg_sl ([.ref h0, .int 2, .int i0])).length) Slot.unset).toArray = ls at hl ⊢
  have hl : lv_has ls 4 [(0, .ref h0), (1, .int 2), (2, .int i0)] := hl
  refine lv_iload_n hx hb dX3_pick_0 rfl (lv_at hl 1 rfl) ?_
  have hPc := hP.sub (ws' := []) [] rfl
  have hDc := hD.sub (ws' := []) [] (by decide) rfl
  have hKc := hK.sub (tys' := []) [] rfl
  have hFc := va_free (wc := []) hD hS hA [] rfl
  refine va_callv (va_runS (As := [.int 2]) (rest := []) ⟨hx, hb, hml, hown, hts⟩ (kx_X3_needRope_2 l dC dI s.heap.size) (cwS 1 hts gX3_pick_X3_needRope rfl rfl rfl (by decide +kernel) ⟨Nat.le_of_ble_eq_true rfl, Nat.le_of_ble_eq_true rfl⟩) ⟨fun a U g mk q => by obtain ⟨q0, q1, qP, qK, qD⟩ := q; exact ⟨q0, q1, qP, va_K.moved (u := U) (U := U.calling g mk a) (Vm.Alike.refl U.vm) qK, qD⟩, fun U hU hW => ⟨rfl, by rw [hU], by rw [hU]; exact hPc, va_K.moved hW.alike hKc, hDc.weaken (fun _ _ _ _ => trivial)⟩⟩ rfl rfl hl.1 rfl (lv_room (Nat.le_of_ble_eq_true rfl)) dX3_pick_1 ⟨Nat.le_of_ble_eq_true rfl, Nat.le_of_ble_eq_true rfl⟩) hS (fun q _ h => hFc q h) hFc (fun u t H1 locs ht hvm hw hB hz1 hk1 hS => ?_)
  obtain ⟨hP1, hK1, hD1⟩ := hB
  rw [ht] at hP1
  have hK1 := va_K.moved hvm.symm hK1
  obtain ⟨hP, hD⟩ := va_join (wr := [(h0, .inr (7, [.ref h1, .ref h2, .ref z0, .ref z1, .ref z2, .ref z3, .int 0, .int 0, .int 0])), (h1, .inl (k0, 4, .inr (.inr (.inr (.inr (va_up (va_up (va_up (va_up (fun _ => none) 0 (some h3)) 1 (some h4)) 2 (some h5)) 3 (some h6))))))), (h2, .inr (5, [.ref z4, .ref z5, .ref z6, .ref z7, .ref z8, .ref z9, .int 0, .int 0])), (h3, .inr (6, [.ref z10, .int 0])), (h4, .inr (6, [.ref z11, .int 0])), (h5, .inr (6, [.ref z12, .int 0])), (h6, .inr (6, [.ref z13, .int 0]))]) (w1 := []) hP hD [] [0, 1, 2, 3, 4, 5, 6] rfl rfl (by decide) (by decide) hk1 hFc hP1 hD1
  generalize H1 = H at hP hS ⊢
  have hP : va_P (dC, dI) vwCl [(h0, .inr (7, [.ref h1, .ref h2, .ref z0, .ref z1, .ref z2, .ref z3, .int 0, .int 0, .int 0])), (h1, .inl (k0, 4, .inr (.inr (.inr (.inr (va_up (va_up (va_up (va_up (fun _ => none) 0 (some h3)) 1 (some h4)) 2 (some h5)) 3 (some h6))))))), (h2, .inr (5, [.ref z4, .ref z5, .ref z6, .ref z7, .ref z8, .ref z9, .int 0, .int 0])), (h3, .inr (6, [.ref z10, .int 0])), (h4, .inr (6, [.ref z11, .int 0])), (h5, .inr (6, [.ref z12, .int 0])), (h6, .inr (6, [.ref z13, .int 0]))] H := hP
  have hD : va_D A [(h0, .inr (7, [.ref h1, .ref h2, .ref z0, .ref z1, .ref z2, .ref z3, .int 0, .int 0, .int 0])), (h1, .inl (k0, 4, .inr (.inr (.inr (.inr (va_up (va_up (va_up (va_up (fun _ => none) 0 (some h3)) 1 (some h4)) 2 (some h5)) 3 (some h6))))))), (h2, .inr (5, [.ref z4, .ref z5, .ref z6, .ref z7, .ref z8, .ref z9, .int 0, .int 0])), (h3, .inr (6, [.ref z10, .int 0])), (h4, .inr (6, [.ref z11, .int 0])), (h5, .inr (6, [.ref z12, .int 0])), (h6, .inr (6, [.ref z13, .int 0]))] := hD
  refine lv_aload_n hx hb dX3_pick_4 rfl (lv_at hl 0 rfl) ?_
  refine va_get (D := (dC, dI)) (ci := 7) (v := .ref h2) (C := RX3) (T := TX3) (N := 9) hx hb hts (by decide +kernel) hown hK hP 0 rfl rfl 1 (by decide) (hts (.fieldLink RX3 18 "Rewriterope" "book" "LRewriterope$RuleBook;") (by decide +kernel)) (fun _ h9 => h9) rfl dX3_pick_5 ?_
  refine lv_aload_n hx hb dX3_pick_8 rfl (lv_at hl 0 rfl) ?_
  refine va_get (D := (dC, dI)) (ci := 7) (v := .ref h1) (C := RX3) (T := TX3) (N := 9) hx hb hts (by decide +kernel) hown hK hP 0 rfl rfl 0 (by decide) (hts (.fieldLink RX3 11 "Rewriterope" "ropes" "[LRewriterope$Text;") (by decide +kernel)) (fun _ h9 => h9) rfl dX3_pick_9 ?_
  refine lv_iload_n hx hb dX3_pick_12 rfl (lv_at hl 1 rfl) ?_
  refine va_aldq (D := (dC, dI)) hx hb hK hP 1 0 rfl rfl (by unfold vp_in; decide) dX3_pick_13 ?_
  refine W.eq (g2 := F0 m 14 ls [.ref h5, .ref h2]) rfl ?_
  refine lv_iload_n hx hb dX3_pick_14 rfl (lv_at hl 2 rfl) ?_
  have hPc := hP.sub (ws' := [(h2, .inr (5, [.ref z4, .ref z5, .ref z6, .ref z7, .ref z8, .ref z9, .int 0, .int 0])), (h5, .inr (6, [.ref z12, .int 0]))]) [2, 5] rfl
  have hDc := hD.sub (ws' := [(h2, .inr (5, [.ref z4, .ref z5, .ref z6, .ref z7, .ref z8, .ref z9, .int 0, .int 0])), (h5, .inr (6, [.ref z12, .int 0]))]) [2, 5] (by decide) rfl
  have hKc := hK.sub (tys' := []) [] rfl
  have hFc := va_free (wc := [(h2, .inr (5, [.ref z4, .ref z5, .ref z6, .ref z7, .ref z8, .ref z9, .int 0, .int 0])), (h5, .inr (6, [.ref z12, .int 0]))]) hD hS hA [2, 5] rfl
  refine va_calli (va_runV (As := [.ref h5, .int i0]) (rest := []) ⟨hx, hb, hml, hown, hts⟩ (kx_X1_spotOfNumber_1 l dC dI h2 h5 z4 z5 z6 z7 z8 z9 z12 H.size i0 i0_l i0_u) (cwV 2 hts gX3_pick_X1_spotOfNumber rfl rfl rfl (by decide +kernel) ⟨Nat.le_of_ble_eq_true rfl, Nat.le_of_ble_eq_true rfl⟩) ⟨fun a U g mk q => by obtain ⟨q0, q1, qP, qK, qD⟩ := q; exact ⟨q0, q1, qP, va_K.moved (u := U) (U := U.calling g mk a) (Vm.Alike.refl U.vm) qK, qD⟩, va_recv hKc hPc (ci := 5) (q0 := 0) rfl rfl, fun U hU hW => ⟨rfl, by rw [hU], by rw [hU]; exact hPc, va_K.moved hW.alike hKc, hDc.weaken (fun _ _ _ _ => trivial)⟩⟩ rfl rfl hl.1 rfl (lv_room (Nat.le_of_ble_eq_true rfl)) dX3_pick_15 ⟨Nat.le_of_ble_eq_true rfl, Nat.le_of_ble_eq_true rfl⟩) hS (fun q _ h => hFc q h) hFc (fun r9 u t H1 locs ht hvm hw hB hz1 hk1 hS => ?_)
  obtain rfl := hw
  obtain ⟨hP1, hK1, hD1⟩ := hB
  rw [ht] at hP1
  have hK1 := va_K.moved hvm.symm hK1
  obtain ⟨hP, hD⟩ := va_join (wr := [(h0, .inr (7, [.ref h1, .ref h2, .ref z0, .ref z1, .ref z2, .ref z3, .int 0, .int 0, .int 0])), (h1, .inl (k0, 4, .inr (.inr (.inr (.inr (va_up (va_up (va_up (va_up (fun _ => none) 0 (some h3)) 1 (some h4)) 2 (some h5)) 3 (some h6))))))), (h3, .inr (6, [.ref z10, .int 0])), (h4, .inr (6, [.ref z11, .int 0])), (h6, .inr (6, [.ref z13, .int 0]))]) (w1 := [(h2, .inr (5, [.ref z4, .ref z5, .ref z6, .ref z7, .ref z8, .ref z9, .int 0, .int 0])), (h5, .inr (6, [.ref z12, .int 0]))]) hP hD [2, 5] [0, 1, 3, 4, 6] rfl rfl (by decide) (by decide) hk1 hFc hP1 hD1
  generalize H1 = H at hP hS ⊢
  have hP : va_P (dC, dI) vwCl [(h0, .inr (7, [.ref h1, .ref h2, .ref z0, .ref z1, .ref z2, .ref z3, .int 0, .int 0, .int 0])), (h1, .inl (k0, 4, .inr (.inr (.inr (.inr (va_up (va_up (va_up (va_up (fun _ => none) 0 (some h3)) 1 (some h4)) 2 (some h5)) 3 (some h6))))))), (h3, .inr (6, [.ref z10, .int 0])), (h4, .inr (6, [.ref z11, .int 0])), (h6, .inr (6, [.ref z13, .int 0])), (h2, .inr (5, [.ref z4, .ref z5, .ref z6, .ref z7, .ref z8, .ref z9, .int 0, .int 0])), (h5, .inr (6, [.ref z12, .int 0]))] H := hP
  have hD : va_D A [(h0, .inr (7, [.ref h1, .ref h2, .ref z0, .ref z1, .ref z2, .ref z3, .int 0, .int 0, .int 0])), (h1, .inl (k0, 4, .inr (.inr (.inr (.inr (va_up (va_up (va_up (va_up (fun _ => none) 0 (some h3)) 1 (some h4)) 2 (some h5)) 3 (some h6))))))), (h3, .inr (6, [.ref z10, .int 0])), (h4, .inr (6, [.ref z11, .int 0])), (h6, .inr (6, [.ref z13, .int 0])), (h2, .inr (5, [.ref z4, .ref z5, .ref z6, .ref z7, .ref z8, .ref z9, .int 0, .int 0])), (h5, .inr (6, [.ref z12, .int 0]))] := hD
  refine lv_istore_n (lv' := [(3, .int (-1)), (0, .ref h0), (1, .int 2), (2, .int i0)]) hx hb dX3_pick_18 rfl hl (by decide) rfl (fun ls hl => ?_)
  refine lv_iload_n hx hb dX3_pick_19 rfl (lv_at hl 0 rfl) ?_
  refine lv_iconst (v := (-1)) hx hb dX3_pick_20 (by decide) ?_
  refine lv_icmp_ne (tgt := 29) hx hb dX3_pick_21 (by decide) (fun c9 => absurd (by decide) c9) (fun _ => ?_)
  refine lv_aload_n hx hb dX3_pick_24 rfl (lv_at hl 1 rfl) ?_
  have hPc := hP.sub (ws' := [(h0, .inr (7, [.ref h1, .ref h2, .ref z0, .ref z1, .ref z2, .ref z3, .int 0, .int 0, .int 0]))]) [0] rfl
  have hDc := hD.sub (ws' := [(h0, .inr (7, [.ref h1, .ref h2, .ref z0, .ref z1, .ref z2, .ref z3, .int 0, .int 0, .int 0]))]) [0] (by decide) rfl
  have hKc := hK.sub (tys' := []) [] rfl
  have hFc := va_free (wc := [(h0, .inr (7, [.ref h1, .ref h2, .ref z0, .ref z1, .ref z2, .ref z3, .int 0, .int 0, .int 0]))]) hD hS hA [0] rfl
  refine va_calli (va_runV (As := []) (rest := []) ⟨hx, hb, hml, hown, hts⟩ (kx_X3_refuse_0 l dC dI h0 h1 h2 z0 z1 z2 z3 H.size) (cwV 0 hts gX3_pick_X3_refuse rfl rfl rfl (by decide +kernel) ⟨Nat.le_of_ble_eq_true rfl, Nat.le_of_ble_eq_true rfl⟩) ⟨fun a U g mk q => by obtain ⟨q0, q1, qP, qK, qD⟩ := q; exact ⟨q0, q1, qP, va_K.moved (u := U) (U := U.calling g mk a) (Vm.Alike.refl U.vm) qK, qD⟩, va_recv hKc hPc (ci := 7) (q0 := 0) rfl rfl, fun U hU hW => ⟨rfl, by rw [hU], by rw [hU]; exact hPc, va_K.moved hW.alike hKc, hDc.weaken (fun _ _ _ _ => trivial)⟩⟩ rfl rfl hl.1 rfl (lv_room (Nat.le_of_ble_eq_true rfl)) dX3_pick_25 ⟨Nat.le_of_ble_eq_true rfl, Nat.le_of_ble_eq_true rfl⟩) hS (fun q _ h => hFc q h) hFc (fun r9 u t H1 locs ht hvm hw hB hz1 hk1 hS => ?_)
  obtain rfl := hw
  obtain ⟨hP1, hK1, hD1⟩ := hB
  rw [ht] at hP1
  have hK1 := va_K.moved hvm.symm hK1
  obtain ⟨hP, hD⟩ := va_join (wr := [(h1, .inl (k0, 4, .inr (.inr (.inr (.inr (va_up (va_up (va_up (va_up (fun _ => none) 0 (some h3)) 1 (some h4)) 2 (some h5)) 3 (some h6))))))), (h3, .inr (6, [.ref z10, .int 0])), (h4, .inr (6, [.ref z11, .int 0])), (h6, .inr (6, [.ref z13, .int 0])), (h2, .inr (5, [.ref z4, .ref z5, .ref z6, .ref z7, .ref z8, .ref z9, .int 0, .int 0])), (h5, .inr (6, [.ref z12, .int 0]))]) (w1 := [(h0, .inr (7, [.ref h1, .ref h2, .ref z0, .ref z1, .ref z2, .ref z3, .int 1, .int 0, .int 0]))]) hP hD [0] [1, 2, 3, 4, 5, 6] rfl rfl (by decide) (by decide) hk1 hFc hP1 hD1
  generalize H1 = H at hP hS ⊢
  have hP : va_P (dC, dI) vwCl [(h1, .inl (k0, 4, .inr (.inr (.inr (.inr (va_up (va_up (va_up (va_up (fun _ => none) 0 (some h3)) 1 (some h4)) 2 (some h5)) 3 (some h6))))))), (h3, .inr (6, [.ref z10, .int 0])), (h4, .inr (6, [.ref z11, .int 0])), (h6, .inr (6, [.ref z13, .int 0])), (h2, .inr (5, [.ref z4, .ref z5, .ref z6, .ref z7, .ref z8, .ref z9, .int 0, .int 0])), (h5, .inr (6, [.ref z12, .int 0])), (h0, .inr (7, [.ref h1, .ref h2, .ref z0, .ref z1, .ref z2, .ref z3, .int 1, .int 0, .int 0]))] H := hP
  have hD : va_D A [(h1, .inl (k0, 4, .inr (.inr (.inr (.inr (va_up (va_up (va_up (va_up (fun _ => none) 0 (some h3)) 1 (some h4)) 2 (some h5)) 3 (some h6))))))), (h3, .inr (6, [.ref z10, .int 0])), (h4, .inr (6, [.ref z11, .int 0])), (h6, .inr (6, [.ref z13, .int 0])), (h2, .inr (5, [.ref z4, .ref z5, .ref z6, .ref z7, .ref z8, .ref z9, .int 0, .int 0])), (h5, .inr (6, [.ref z12, .int 0])), (h0, .inr (7, [.ref h1, .ref h2, .ref z0, .ref z1, .ref z2, .ref z3, .int 1, .int 0, .int 0]))] := hD
  have hP := hP.sub (ws' := [(h0, .inr (7, [.ref h1, .ref h2, .ref z0, .ref z1, .ref z2, .ref z3, .int 1, .int 0, .int 0])), (h1, .inl (k0, 4, .inr (.inr (.inr (.inr (va_up (va_up (va_up (va_up (fun _ => none) 0 (some h3)) 1 (some h4)) 2 (some h5)) 3 (some h6))))))), (h2, .inr (5, [.ref z4, .ref z5, .ref z6, .ref z7, .ref z8, .ref z9, .int 0, .int 0])), (h3, .inr (6, [.ref z10, .int 0])), (h4, .inr (6, [.ref z11, .int 0])), (h5, .inr (6, [.ref z12, .int 0])), (h6, .inr (6, [.ref z13, .int 0]))]) [6, 0, 4, 1, 2, 5, 3] rfl
  have hD := hD.sub (ws' := [(h0, .inr (7, [.ref h1, .ref h2, .ref z0, .ref z1, .ref z2, .ref z3, .int 1, .int 0, .int 0])), (h1, .inl (k0, 4, .inr (.inr (.inr (.inr (va_up (va_up (va_up (va_up (fun _ => none) 0 (some h3)) 1 (some h4)) 2 (some h5)) 3 (some h6))))))), (h2, .inr (5, [.ref z4, .ref z5, .ref z6, .ref z7, .ref z8, .ref z9, .int 0, .int 0])), (h3, .inr (6, [.ref z10, .int 0])), (h4, .inr (6, [.ref z11, .int 0])), (h5, .inr (6, [.ref z12, .int 0])), (h6, .inr (6, [.ref z13, .int 0]))]) [6, 0, 4, 1, 2, 5, 3] (by decide) rfl
  exact W.iret (v := (-9)) hx hb hr (fun t ht hW => ⟨⟨(-9), (), rfl, rfl, by rw [ht]; exact hP, va_K.moved hW.alike hK, hD⟩, hS.F ht⟩) hS.2.2 dX3_pick_28
set_option maxHeartbeats 4000000 in
set_option maxRecDepth 100000 in
theorem kx_X3_pick_9 (l : Launch) (dC : Nat → ClassId) (dI : Nat → Nat → Nat) (h0 : Nat) (h1 : Nat) (h2 : Nat) (h3 : Nat) (h4 : Nat) (h5 : Nat) (h6 : Nat) (z0 : Nat) (z1 : Nat) (z2 : Nat) (z3 : Nat) (z4 : Nat) (z5 : Nat) (z6 : Nat) (z7 : Nat) (z8 : Nat) (z9 : Nat) (z10 : Nat) (z11 : Nat) (z12 : Nat) (z13 : Nat) (k0 : ClassId) (sz : Nat) (i0 : Int32) (i0_l : (0 : Int) ≤ i0.toInt) (i0_u : i0.toInt ≤ (2147483647 : Int)) : Met l yX3_pick wsX3_pick ({ frames := 1, cells := 0, slots := 0, locals := 24 }) (va_Pc [.ref h0, .int 3, .int i0] (fun U => U.heap.size = sz ∧ va_P (dC, dI) vwCl [(h0, .inr (7, [.ref h1, .ref h2, .ref z0, .ref z1, .ref z2, .ref z3, .int 0, .int 0, .int 0])), (h1, .inl (k0, 4, .inr (.inr (.inr (.inr (va_up (va_up (va_up (va_up (fun _ => none) 0 (some h3)) 1 (some h4)) 2 (some h5)) 3 (some h6))))))), (h2, .inr (5, [.ref z4, .ref z5, .ref z6, .ref z7, .ref z8, .ref z9, .int 0, .int 0])), (h3, .inr (6, [.ref z10, .int 0])), (h4, .inr (6, [.ref z11, .int 0])), (h5, .inr (6, [.ref z12, .int 0])), (h6, .inr (6, [.ref z13, .int 0]))] U.heap ∧ va_K (dC, dI) vwCl [(k0, .object "Rewriterope$Text")] U ∧ va_D (fun _ => True) [(h0, .inr (7, [.ref h1, .ref h2, .ref z0, .ref z1, .ref z2, .ref z3, .int 0, .int 0, .int 0])), (h1, .inl (k0, 4, .inr (.inr (.inr (.inr (va_up (va_up (va_up (va_up (fun _ => none) 0 (some h3)) 1 (some h4)) 2 (some h5)) 3 (some h6))))))), (h2, .inr (5, [.ref z4, .ref z5, .ref z6, .ref z7, .ref z8, .ref z9, .int 0, .int 0])), (h3, .inr (6, [.ref z10, .int 0])), (h4, .inr (6, [.ref z11, .int 0])), (h5, .inr (6, [.ref z12, .int 0])), (h6, .inr (6, [.ref z13, .int 0]))])) (va_Qi (fun (r : Int32) (_ : Unit) => r = (-9)) (fun (_ : Unit) (t : State) => va_P (dC, dI) vwCl [(h0, .inr (7, [.ref h1, .ref h2, .ref z0, .ref z1, .ref z2, .ref z3, .int 1, .int 0, .int 0])), (h1, .inl (k0, 4, .inr (.inr (.inr (.inr (va_up (va_up (va_up (va_up (fun _ => none) 0 (some h3)) 1 (some h4)) 2 (some h5)) 3 (some h6))))))), (h2, .inr (5, [.ref z4, .ref z5, .ref z6, .ref z7, .ref z8, .ref z9, .int 0, .int 0])), (h3, .inr (6, [.ref z10, .int 0])), (h4, .inr (6, [.ref z11, .int 0])), (h5, .inr (6, [.ref z12, .int 0])), (h6, .inr (6, [.ref z13, .int 0]))] t.heap ∧ va_K (dC, dI) vwCl [(k0, .object "Rewriterope$Text")] t ∧ va_D (va_A [(h0, .inr (7, [.ref h1, .ref h2, .ref z0, .ref z1, .ref z2, .ref z3, .int 0, .int 0, .int 0])), (h1, .inl (k0, 4, .inr (.inr (.inr (.inr (va_up (va_up (va_up (va_up (fun _ => none) 0 (some h3)) 1 (some h4)) 2 (some h5)) 3 (some h6))))))), (h2, .inr (5, [.ref z4, .ref z5, .ref z6, .ref z7, .ref z8, .ref z9, .int 0, .int 0])), (h3, .inr (6, [.ref z10, .int 0])), (h4, .inr (6, [.ref z11, .int 0])), (h5, .inr (6, [.ref z12, .int 0])), (h6, .inr (6, [.ref z13, .int 0]))] sz) [(h0, .inr (7, [.ref h1, .ref h2, .ref z0, .ref z1, .ref z2, .ref z3, .int 1, .int 0, .int 0])), (h1, .inl (k0, 4, .inr (.inr (.inr (.inr (va_up (va_up (va_up (va_up (fun _ => none) 0 (some h3)) 1 (some h4)) 2 (some h5)) 3 (some h6))))))), (h2, .inr (5, [.ref z4, .ref z5, .ref z6, .ref z7, .ref z8, .ref z9, .int 0, .int 0])), (h3, .inr (6, [.ref z10, .int 0])), (h4, .inr (6, [.ref z11, .int 0])), (h5, .inr (6, [.ref z12, .int 0])), (h6, .inr (6, [.ref z13, .int 0]))]) (va_A [(h0, .inr (7, [.ref h1, .ref h2, .ref z0, .ref z1, .ref z2, .ref z3, .int 0, .int 0, .int 0])), (h1, .inl (k0, 4, .inr (.inr (.inr (.inr (va_up (va_up (va_up (va_up (fun _ => none) 0 (some h3)) 1 (some h4)) 2 (some h5)) 3 (some h6))))))), (h2, .inr (5, [.ref z4, .ref z5, .ref z6, .ref z7, .ref z8, .ref z9, .int 0, .int 0])), (h3, .inr (6, [.ref z10, .int 0])), (h4, .inr (6, [.ref z11, .int 0])), (h5, .inr (6, [.ref z12, .int 0])), (h6, .inr (6, [.ref z13, .int 0]))] sz)) 0 0 (va_A [(h0, .inr (7, [.ref h1, .ref h2, .ref z0, .ref z1, .ref z2, .ref z3, .int 0, .int 0, .int 0])), (h1, .inl (k0, 4, .inr (.inr (.inr (.inr (va_up (va_up (va_up (va_up (fun _ => none) 0 (some h3)) 1 (some h4)) 2 (some h5)) 3 (some h6))))))), (h2, .inr (5, [.ref z4, .ref z5, .ref z6, .ref z7, .ref z8, .ref z9, .int 0, .int 0])), (h3, .inr (6, [.ref z10, .int 0])), (h4, .inr (6, [.ref z11, .int 0])), (h5, .inr (6, [.ref z12, .int 0])), (h6, .inr (6, [.ref z13, .int 0]))] sz) := by
  refine Met.ofW (cc := cX3_pick) (maxL := 4) (ret := (some .int)) (by decide) rfl ?_
  intro p e s m args below meth c s₁ B hml hv
  obtain ⟨rfl, hsz, hP, hK, hD0⟩ := hv
  have hx := B.exec
  have hb := B.bytes
  have hr := B.returns
  have hts := atoms_spec (ws := wsX3_pick) B.pre
  have hown : s.vm.findClass RX3 = some m.cls := findClass_of_methodNamed B.named
  have hlocks := B.notSynchronized
  subst hsz
  have hD := hD0.self (sz := s.heap.size)
  generalize hAe : va_A [(h0, .inr (7, [.ref h1, .ref h2, .ref z0, .ref z1, .ref z2, .ref z3, .int 0, .int 0, .int 0])), (h1, .inl (k0, 4, .inr (.inr (.inr (.inr (va_up (va_up (va_up (va_up (fun _ => none) 0 (some h3)) 1 (some h4)) 2 (some h5)) 3 (some h6))))))), (h2, .inr (5, [.ref z4, .ref z5, .ref z6, .ref z7, .ref z8, .ref z9, .int 0, .int 0])), (h3, .inr (6, [.ref z10, .int 0])), (h4, .inr (6, [.ref z11, .int 0])), (h5, .inr (6, [.ref z12, .int 0])), (h6, .inr (6, [.ref z13, .int 0]))] s.heap.size = A at hD ⊢
  have hA : ∀ q : Nat, s.heap.size ≤ q → A q := fun q h => by rw [← hAe]; exact Or.inr h
  have hS : va_S A s.heap s.heap [] := va_S.rf
  have hP : va_P (dC, dI) vwCl [(h0, .inr (7, [.ref h1, .ref h2, .ref z0, .ref z1, .ref z2, .ref z3, .int 0, .int 0, .int 0])), (h1, .inl (k0, 4, .inr (.inr (.inr (.inr (va_up (va_up (va_up (va_up (fun _ => none) 0 (some h3)) 1 (some h4)) 2 (some h5)) 3 (some h6))))))), (h2, .inr (5, [.ref z4, .ref z5, .ref z6, .ref z7, .ref z8, .ref z9, .int 0, .int 0])), (h3, .inr (6, [.ref z10, .int 0])), (h4, .inr (6, [.ref z11, .int 0])), (h5, .inr (6, [.ref z12, .int 0])), (h6, .inr (6, [.ref z13, .int 0]))] s.heap := hP
  have hl := lv_entry ([.ref h0, .int 3, .int i0]) (n := 4) (Nat.le_of_ble_eq_true rfl)
  rw [lg_entry_eq]
  generalize (lg_sl ([.ref h0, .int 3, .int i0]) ++ List.replicate (4 - (lg_sl ([.ref h0, .int 3, .int i0])).length) Slot.unset).toArray = ls at hl ⊢
  have hl : lv_has ls 4 [(0, .ref h0), (1, .int 3), (2, .int i0)] := hl
  refine lv_iload_n hx hb dX3_pick_0 rfl (lv_at hl 1 rfl) ?_
  have hPc := hP.sub (ws' := []) [] rfl
  have hDc := hD.sub (ws' := []) [] (by decide) rfl
  have hKc := hK.sub (tys' := []) [] rfl
  have hFc := va_free (wc := []) hD hS hA [] rfl
  refine va_callv (va_runS (As := [.int 3]) (rest := []) ⟨hx, hb, hml, hown, hts⟩ (kx_X3_needRope_3 l dC dI s.heap.size) (cwS 1 hts gX3_pick_X3_needRope rfl rfl rfl (by decide +kernel) ⟨Nat.le_of_ble_eq_true rfl, Nat.le_of_ble_eq_true rfl⟩) ⟨fun a U g mk q => by obtain ⟨q0, q1, qP, qK, qD⟩ := q; exact ⟨q0, q1, qP, va_K.moved (u := U) (U := U.calling g mk a) (Vm.Alike.refl U.vm) qK, qD⟩, fun U hU hW => ⟨rfl, by rw [hU], by rw [hU]; exact hPc, va_K.moved hW.alike hKc, hDc.weaken (fun _ _ _ _ => trivial)⟩⟩ rfl rfl hl.1 rfl (lv_room (Nat.le_of_ble_eq_true rfl)) dX3_pick_1 ⟨Nat.le_of_ble_eq_true rfl, Nat.le_of_ble_eq_true rfl⟩) hS (fun q _ h => hFc q h) hFc (fun u t H1 locs ht hvm hw hB hz1 hk1 hS => ?_)
  obtain ⟨hP1, hK1, hD1⟩ := hB
  rw [ht] at hP1
  have hK1 := va_K.moved hvm.symm hK1
  obtain ⟨hP, hD⟩ := va_join (wr := [(h0, .inr (7, [.ref h1, .ref h2, .ref z0, .ref z1, .ref z2, .ref z3, .int 0, .int 0, .int 0])), (h1, .inl (k0, 4, .inr (.inr (.inr (.inr (va_up (va_up (va_up (va_up (fun _ => none) 0 (some h3)) 1 (some h4)) 2 (some h5)) 3 (some h6))))))), (h2, .inr (5, [.ref z4, .ref z5, .ref z6, .ref z7, .ref z8, .ref z9, .int 0, .int 0])), (h3, .inr (6, [.ref z10, .int 0])), (h4, .inr (6, [.ref z11, .int 0])), (h5, .inr (6, [.ref z12, .int 0])), (h6, .inr (6, [.ref z13, .int 0]))]) (w1 := []) hP hD [] [0, 1, 2, 3, 4, 5, 6] rfl rfl (by decide) (by decide) hk1 hFc hP1 hD1
  generalize H1 = H at hP hS ⊢
  have hP : va_P (dC, dI) vwCl [(h0, .inr (7, [.ref h1, .ref h2, .ref z0, .ref z1, .ref z2, .ref z3, .int 0, .int 0, .int 0])), (h1, .inl (k0, 4, .inr (.inr (.inr (.inr (va_up (va_up (va_up (va_up (fun _ => none) 0 (some h3)) 1 (some h4)) 2 (some h5)) 3 (some h6))))))), (h2, .inr (5, [.ref z4, .ref z5, .ref z6, .ref z7, .ref z8, .ref z9, .int 0, .int 0])), (h3, .inr (6, [.ref z10, .int 0])), (h4, .inr (6, [.ref z11, .int 0])), (h5, .inr (6, [.ref z12, .int 0])), (h6, .inr (6, [.ref z13, .int 0]))] H := hP
  have hD : va_D A [(h0, .inr (7, [.ref h1, .ref h2, .ref z0, .ref z1, .ref z2, .ref z3, .int 0, .int 0, .int 0])), (h1, .inl (k0, 4, .inr (.inr (.inr (.inr (va_up (va_up (va_up (va_up (fun _ => none) 0 (some h3)) 1 (some h4)) 2 (some h5)) 3 (some h6))))))), (h2, .inr (5, [.ref z4, .ref z5, .ref z6, .ref z7, .ref z8, .ref z9, .int 0, .int 0])), (h3, .inr (6, [.ref z10, .int 0])), (h4, .inr (6, [.ref z11, .int 0])), (h5, .inr (6, [.ref z12, .int 0])), (h6, .inr (6, [.ref z13, .int 0]))] := hD
  refine lv_aload_n hx hb dX3_pick_4 rfl (lv_at hl 0 rfl) ?_
  refine va_get (D := (dC, dI)) (ci := 7) (v := .ref h2) (C := RX3) (T := TX3) (N := 9) hx hb hts (by decide +kernel) hown hK hP 0 rfl rfl 1 (by decide) (hts (.fieldLink RX3 18 "Rewriterope" "book" "LRewriterope$RuleBook;") (by decide +kernel)) (fun _ h9 => h9) rfl dX3_pick_5 ?_
  refine lv_aload_n hx hb dX3_pick_8 rfl (lv_at hl 0 rfl) ?_
  refine va_get (D := (dC, dI)) (ci := 7) (v := .ref h1) (C := RX3) (T := TX3) (N := 9) hx hb hts (by decide +kernel) hown hK hP 0 rfl rfl 0 (by decide) (hts (.fieldLink RX3 11 "Rewriterope" "ropes" "[LRewriterope$Text;") (by decide +kernel)) (fun _ h9 => h9) rfl dX3_pick_9 ?_
  refine lv_iload_n hx hb dX3_pick_12 rfl (lv_at hl 1 rfl) ?_
  refine va_aldq (D := (dC, dI)) hx hb hK hP 1 0 rfl rfl (by unfold vp_in; decide) dX3_pick_13 ?_
  refine W.eq (g2 := F0 m 14 ls [.ref h6, .ref h2]) rfl ?_
  refine lv_iload_n hx hb dX3_pick_14 rfl (lv_at hl 2 rfl) ?_
  have hPc := hP.sub (ws' := [(h2, .inr (5, [.ref z4, .ref z5, .ref z6, .ref z7, .ref z8, .ref z9, .int 0, .int 0])), (h6, .inr (6, [.ref z13, .int 0]))]) [2, 6] rfl
  have hDc := hD.sub (ws' := [(h2, .inr (5, [.ref z4, .ref z5, .ref z6, .ref z7, .ref z8, .ref z9, .int 0, .int 0])), (h6, .inr (6, [.ref z13, .int 0]))]) [2, 6] (by decide) rfl
  have hKc := hK.sub (tys' := []) [] rfl
  have hFc := va_free (wc := [(h2, .inr (5, [.ref z4, .ref z5, .ref z6, .ref z7, .ref z8, .ref z9, .int 0, .int 0])), (h6, .inr (6, [.ref z13, .int 0]))]) hD hS hA [2, 6] rfl
  refine va_calli (va_runV (As := [.ref h6, .int i0]) (rest := []) ⟨hx, hb, hml, hown, hts⟩ (kx_X1_spotOfNumber_1 l dC dI h2 h6 z4 z5 z6 z7 z8 z9 z13 H.size i0 i0_l i0_u) (cwV 2 hts gX3_pick_X1_spotOfNumber rfl rfl rfl (by decide +kernel) ⟨Nat.le_of_ble_eq_true rfl, Nat.le_of_ble_eq_true rfl⟩) ⟨fun a U g mk q => by obtain ⟨q0, q1, qP, qK, qD⟩ := q; exact ⟨q0, q1, qP, va_K.moved (u := U) (U := U.calling g mk a) (Vm.Alike.refl U.vm) qK, qD⟩, va_recv hKc hPc (ci := 5) (q0 := 0) rfl rfl, fun U hU hW => ⟨rfl, by rw [hU], by rw [hU]; exact hPc, va_K.moved hW.alike hKc, hDc.weaken (fun _ _ _ _ => trivial)⟩⟩ rfl rfl hl.1 rfl (lv_room (Nat.le_of_ble_eq_true rfl)) dX3_pick_15 ⟨Nat.le_of_ble_eq_true rfl, Nat.le_of_ble_eq_true rfl⟩) hS (fun q _ h => hFc q h) hFc (fun r9 u t H1 locs ht hvm hw hB hz1 hk1 hS => ?_)
  obtain rfl := hw
  obtain ⟨hP1, hK1, hD1⟩ := hB
  rw [ht] at hP1
  have hK1 := va_K.moved hvm.symm hK1
  obtain ⟨hP, hD⟩ := va_join (wr := [(h0, .inr (7, [.ref h1, .ref h2, .ref z0, .ref z1, .ref z2, .ref z3, .int 0, .int 0, .int 0])), (h1, .inl (k0, 4, .inr (.inr (.inr (.inr (va_up (va_up (va_up (va_up (fun _ => none) 0 (some h3)) 1 (some h4)) 2 (some h5)) 3 (some h6))))))), (h3, .inr (6, [.ref z10, .int 0])), (h4, .inr (6, [.ref z11, .int 0])), (h5, .inr (6, [.ref z12, .int 0]))]) (w1 := [(h2, .inr (5, [.ref z4, .ref z5, .ref z6, .ref z7, .ref z8, .ref z9, .int 0, .int 0])), (h6, .inr (6, [.ref z13, .int 0]))]) hP hD [2, 6] [0, 1, 3, 4, 5] rfl rfl (by decide) (by decide) hk1 hFc hP1 hD1
  generalize H1 = H at hP hS ⊢
  have hP : va_P (dC, dI) vwCl [(h0, .inr (7, [.ref h1, .ref h2, .ref z0, .ref z1, .ref z2, .ref z3, .int 0, .int 0, .int 0])), (h1, .inl (k0, 4, .inr (.inr (.inr (.inr (va_up (va_up (va_up (va_up (fun _ => none) 0 (some h3)) 1 (some h4)) 2 (some h5)) 3 (some h6))))))), (h3, .inr (6, [.ref z10, .int 0])), (h4, .inr (6, [.ref z11, .int 0])), (h5, .inr (6, [.ref z12, .int 0])), (h2, .inr (5, [.ref z4, .ref z5, .ref z6, .ref z7, .ref z8, .ref z9, .int 0, .int 0])), (h6, .inr (6, [.ref z13, .int 0]))] H := hP
  have hD : va_D A [(h0, .inr (7, [.ref h1, .ref h2, .ref z0, .ref z1, .ref z2, .ref z3, .int 0, .int 0, .int 0])), (h1, .inl (k0, 4, .inr (.inr (.inr (.inr (va_up (va_up (va_up (va_up (fun _ => none) 0 (some h3)) 1 (some h4)) 2 (some h5)) 3 (some h6))))))), (h3, .inr (6, [.ref z10, .int 0])), (h4, .inr (6, [.ref z11, .int 0])), (h5, .inr (6, [.ref z12, .int 0])), (h2, .inr (5, [.ref z4, .ref z5, .ref z6, .ref z7, .ref z8, .ref z9, .int 0, .int 0])), (h6, .inr (6, [.ref z13, .int 0]))] := hD
  refine lv_istore_n (lv' := [(3, .int (-1)), (0, .ref h0), (1, .int 3), (2, .int i0)]) hx hb dX3_pick_18 rfl hl (by decide) rfl (fun ls hl => ?_)
  refine lv_iload_n hx hb dX3_pick_19 rfl (lv_at hl 0 rfl) ?_
  refine lv_iconst (v := (-1)) hx hb dX3_pick_20 (by decide) ?_
  refine lv_icmp_ne (tgt := 29) hx hb dX3_pick_21 (by decide) (fun c9 => absurd (by decide) c9) (fun _ => ?_)
  refine lv_aload_n hx hb dX3_pick_24 rfl (lv_at hl 1 rfl) ?_
  have hPc := hP.sub (ws' := [(h0, .inr (7, [.ref h1, .ref h2, .ref z0, .ref z1, .ref z2, .ref z3, .int 0, .int 0, .int 0]))]) [0] rfl
  have hDc := hD.sub (ws' := [(h0, .inr (7, [.ref h1, .ref h2, .ref z0, .ref z1, .ref z2, .ref z3, .int 0, .int 0, .int 0]))]) [0] (by decide) rfl
  have hKc := hK.sub (tys' := []) [] rfl
  have hFc := va_free (wc := [(h0, .inr (7, [.ref h1, .ref h2, .ref z0, .ref z1, .ref z2, .ref z3, .int 0, .int 0, .int 0]))]) hD hS hA [0] rfl
  refine va_calli (va_runV (As := []) (rest := []) ⟨hx, hb, hml, hown, hts⟩ (kx_X3_refuse_0 l dC dI h0 h1 h2 z0 z1 z2 z3 H.size) (cwV 0 hts gX3_pick_X3_refuse rfl rfl rfl (by decide +kernel) ⟨Nat.le_of_ble_eq_true rfl, Nat.le_of_ble_eq_true rfl⟩) ⟨fun a U g mk q => by obtain ⟨q0, q1, qP, qK, qD⟩ := q; exact ⟨q0, q1, qP, va_K.moved (u := U) (U := U.calling g mk a) (Vm.Alike.refl U.vm) qK, qD⟩, va_recv hKc hPc (ci := 7) (q0 := 0) rfl rfl, fun U hU hW => ⟨rfl, by rw [hU], by rw [hU]; exact hPc, va_K.moved hW.alike hKc, hDc.weaken (fun _ _ _ _ => trivial)⟩⟩ rfl rfl hl.1 rfl (lv_room (Nat.le_of_ble_eq_true rfl)) dX3_pick_25 ⟨Nat.le_of_ble_eq_true rfl, Nat.le_of_ble_eq_true rfl⟩) hS (fun q _ h => hFc q h) hFc (fun r9 u t H1 locs ht hvm hw hB hz1 hk1 hS => ?_)
  obtain rfl := hw
  obtain ⟨hP1, hK1, hD1⟩ := hB
  rw [ht] at hP1
  have hK1 := va_K.moved hvm.symm hK1
  obtain ⟨hP, hD⟩ := va_join (wr := [(h1, .inl (k0, 4, .inr (.inr (.inr (.inr (va_up (va_up (va_up (va_up (fun _ => none) 0 (some h3)) 1 (some h4)) 2 (some h5)) 3 (some h6))))))), (h3, .inr (6, [.ref z10, .int 0])), (h4, .inr (6, [.ref z11, .int 0])), (h5, .inr (6, [.ref z12, .int 0])), (h2, .inr (5, [.ref z4, .ref z5, .ref z6, .ref z7, .ref z8, .ref z9, .int 0, .int 0])), (h6, .inr (6, [.ref z13, .int 0]))]) (w1 := [(h0, .inr (7, [.ref h1, .ref h2, .ref z0, .ref z1, .ref z2, .ref z3, .int 1, .int 0, .int 0]))]) hP hD [0] [1, 2, 3, 4, 5, 6] rfl rfl (by decide) (by decide) hk1 hFc hP1 hD1
  generalize H1 = H at hP hS ⊢
  have hP : va_P (dC, dI) vwCl [(h1, .inl (k0, 4, .inr (.inr (.inr (.inr (va_up (va_up (va_up (va_up (fun _ => none) 0 (some h3)) 1 (some h4)) 2 (some h5)) 3 (some h6))))))), (h3, .inr (6, [.ref z10, .int 0])), (h4, .inr (6, [.ref z11, .int 0])), (h5, .inr (6, [.ref z12, .int 0])), (h2, .inr (5, [.ref z4, .ref z5, .ref z6, .ref z7, .ref z8, .ref z9, .int 0, .int 0])), (h6, .inr (6, [.ref z13, .int 0])), (h0, .inr (7, [.ref h1, .ref h2, .ref z0, .ref z1, .ref z2, .ref z3, .int 1, .int 0, .int 0]))] H := hP
  have hD : va_D A [(h1, .inl (k0, 4, .inr (.inr (.inr (.inr (va_up (va_up (va_up (va_up (fun _ => none) 0 (some h3)) 1 (some h4)) 2 (some h5)) 3 (some h6))))))), (h3, .inr (6, [.ref z10, .int 0])), (h4, .inr (6, [.ref z11, .int 0])), (h5, .inr (6, [.ref z12, .int 0])), (h2, .inr (5, [.ref z4, .ref z5, .ref z6, .ref z7, .ref z8, .ref z9, .int 0, .int 0])), (h6, .inr (6, [.ref z13, .int 0])), (h0, .inr (7, [.ref h1, .ref h2, .ref z0, .ref z1, .ref z2, .ref z3, .int 1, .int 0, .int 0]))] := hD
  have hP := hP.sub (ws' := [(h0, .inr (7, [.ref h1, .ref h2, .ref z0, .ref z1, .ref z2, .ref z3, .int 1, .int 0, .int 0])), (h1, .inl (k0, 4, .inr (.inr (.inr (.inr (va_up (va_up (va_up (va_up (fun _ => none) 0 (some h3)) 1 (some h4)) 2 (some h5)) 3 (some h6))))))), (h2, .inr (5, [.ref z4, .ref z5, .ref z6, .ref z7, .ref z8, .ref z9, .int 0, .int 0])), (h3, .inr (6, [.ref z10, .int 0])), (h4, .inr (6, [.ref z11, .int 0])), (h5, .inr (6, [.ref z12, .int 0])), (h6, .inr (6, [.ref z13, .int 0]))]) [6, 0, 4, 1, 2, 3, 5] rfl
  have hD := hD.sub (ws' := [(h0, .inr (7, [.ref h1, .ref h2, .ref z0, .ref z1, .ref z2, .ref z3, .int 1, .int 0, .int 0])), (h1, .inl (k0, 4, .inr (.inr (.inr (.inr (va_up (va_up (va_up (va_up (fun _ => none) 0 (some h3)) 1 (some h4)) 2 (some h5)) 3 (some h6))))))), (h2, .inr (5, [.ref z4, .ref z5, .ref z6, .ref z7, .ref z8, .ref z9, .int 0, .int 0])), (h3, .inr (6, [.ref z10, .int 0])), (h4, .inr (6, [.ref z11, .int 0])), (h5, .inr (6, [.ref z12, .int 0])), (h6, .inr (6, [.ref z13, .int 0]))]) [6, 0, 4, 1, 2, 3, 5] (by decide) rfl
  exact W.iret (v := (-9)) hx hb hr (fun t ht hW => ⟨⟨(-9), (), rfl, rfl, by rw [ht]; exact hP, va_K.moved hW.alike hK, hD⟩, hS.F ht⟩) hS.2.2 dX3_pick_28
set_option maxHeartbeats 4000000 in
set_option maxRecDepth 100000 in
theorem kx_X3_pick_s1 (l : Launch) (dC : Nat → ClassId) (dI : Nat → Nat → Nat) (h0 : Nat) (h1 : Nat) (h2 : Nat) (h3 : Nat) (h4 : Nat) (h5 : Nat) (h6 : Nat) (z0 : Nat) (z1 : Nat) (z2 : Nat) (z3 : Nat) (z4 : Nat) (z5 : Nat) (z6 : Nat) (z7 : Nat) (z8 : Nat) (z9 : Nat) (z10 : Nat) (z11 : Nat) (z12 : Nat) (z13 : Nat) (k0 : ClassId) (sz : Nat) (i0 : Int32) (i0_l : (0 : Int) ≤ i0.toInt) (i0_u : i0.toInt ≤ (2147483647 : Int)) (j1 : Int32) (j1_l : (0 : Int) ≤ j1.toInt) (j1_u : j1.toInt ≤ (3 : Int)) : Met l yX3_pick wsX3_pick ({ frames := 1, cells := 0, slots := 0, locals := 24 }) (va_Pc [.ref h0, .int j1, .int i0] (fun U => U.heap.size = sz ∧ va_P (dC, dI) vwCl [(h0, .inr (7, [.ref h1, .ref h2, .ref z0, .ref z1, .ref z2, .ref z3, .int 0, .int 0, .int 0])), (h1, .inl (k0, 4, .inr (.inr (.inr (.inr (va_up (va_up (va_up (va_up (fun _ => none) 0 (some h3)) 1 (some h4)) 2 (some h5)) 3 (some h6))))))), (h2, .inr (5, [.ref z4, .ref z5, .ref z6, .ref z7, .ref z8, .ref z9, .int 0, .int 0])), (h3, .inr (6, [.ref z10, .int 0])), (h4, .inr (6, [.ref z11, .int 0])), (h5, .inr (6, [.ref z12, .int 0])), (h6, .inr (6, [.ref z13, .int 0]))] U.heap ∧ va_K (dC, dI) vwCl [(k0, .object "Rewriterope$Text")] U ∧ va_D (fun _ => True) [(h0, .inr (7, [.ref h1, .ref h2, .ref z0, .ref z1, .ref z2, .ref z3, .int 0, .int 0, .int 0])), (h1, .inl (k0, 4, .inr (.inr (.inr (.inr (va_up (va_up (va_up (va_up (fun _ => none) 0 (some h3)) 1 (some h4)) 2 (some h5)) 3 (some h6))))))), (h2, .inr (5, [.ref z4, .ref z5, .ref z6, .ref z7, .ref z8, .ref z9, .int 0, .int 0])), (h3, .inr (6, [.ref z10, .int 0])), (h4, .inr (6, [.ref z11, .int 0])), (h5, .inr (6, [.ref z12, .int 0])), (h6, .inr (6, [.ref z13, .int 0]))])) (va_Qi (fun (r : Int32) (_ : Unit) => r = (-9)) (fun (_ : Unit) (t : State) => va_P (dC, dI) vwCl [(h0, .inr (7, [.ref h1, .ref h2, .ref z0, .ref z1, .ref z2, .ref z3, .int 1, .int 0, .int 0])), (h1, .inl (k0, 4, .inr (.inr (.inr (.inr (va_up (va_up (va_up (va_up (fun _ => none) 0 (some h3)) 1 (some h4)) 2 (some h5)) 3 (some h6))))))), (h2, .inr (5, [.ref z4, .ref z5, .ref z6, .ref z7, .ref z8, .ref z9, .int 0, .int 0])), (h3, .inr (6, [.ref z10, .int 0])), (h4, .inr (6, [.ref z11, .int 0])), (h5, .inr (6, [.ref z12, .int 0])), (h6, .inr (6, [.ref z13, .int 0]))] t.heap ∧ va_K (dC, dI) vwCl [(k0, .object "Rewriterope$Text")] t ∧ va_D (va_A [(h0, .inr (7, [.ref h1, .ref h2, .ref z0, .ref z1, .ref z2, .ref z3, .int 0, .int 0, .int 0])), (h1, .inl (k0, 4, .inr (.inr (.inr (.inr (va_up (va_up (va_up (va_up (fun _ => none) 0 (some h3)) 1 (some h4)) 2 (some h5)) 3 (some h6))))))), (h2, .inr (5, [.ref z4, .ref z5, .ref z6, .ref z7, .ref z8, .ref z9, .int 0, .int 0])), (h3, .inr (6, [.ref z10, .int 0])), (h4, .inr (6, [.ref z11, .int 0])), (h5, .inr (6, [.ref z12, .int 0])), (h6, .inr (6, [.ref z13, .int 0]))] sz) [(h0, .inr (7, [.ref h1, .ref h2, .ref z0, .ref z1, .ref z2, .ref z3, .int 1, .int 0, .int 0])), (h1, .inl (k0, 4, .inr (.inr (.inr (.inr (va_up (va_up (va_up (va_up (fun _ => none) 0 (some h3)) 1 (some h4)) 2 (some h5)) 3 (some h6))))))), (h2, .inr (5, [.ref z4, .ref z5, .ref z6, .ref z7, .ref z8, .ref z9, .int 0, .int 0])), (h3, .inr (6, [.ref z10, .int 0])), (h4, .inr (6, [.ref z11, .int 0])), (h5, .inr (6, [.ref z12, .int 0])), (h6, .inr (6, [.ref z13, .int 0]))]) (va_A [(h0, .inr (7, [.ref h1, .ref h2, .ref z0, .ref z1, .ref z2, .ref z3, .int 0, .int 0, .int 0])), (h1, .inl (k0, 4, .inr (.inr (.inr (.inr (va_up (va_up (va_up (va_up (fun _ => none) 0 (some h3)) 1 (some h4)) 2 (some h5)) 3 (some h6))))))), (h2, .inr (5, [.ref z4, .ref z5, .ref z6, .ref z7, .ref z8, .ref z9, .int 0, .int 0])), (h3, .inr (6, [.ref z10, .int 0])), (h4, .inr (6, [.ref z11, .int 0])), (h5, .inr (6, [.ref z12, .int 0])), (h6, .inr (6, [.ref z13, .int 0]))] sz)) 0 0 (va_A [(h0, .inr (7, [.ref h1, .ref h2, .ref z0, .ref z1, .ref z2, .ref z3, .int 0, .int 0, .int 0])), (h1, .inl (k0, 4, .inr (.inr (.inr (.inr (va_up (va_up (va_up (va_up (fun _ => none) 0 (some h3)) 1 (some h4)) 2 (some h5)) 3 (some h6))))))), (h2, .inr (5, [.ref z4, .ref z5, .ref z6, .ref z7, .ref z8, .ref z9, .int 0, .int 0])), (h3, .inr (6, [.ref z10, .int 0])), (h4, .inr (6, [.ref z11, .int 0])), (h5, .inr (6, [.ref z12, .int 0])), (h6, .inr (6, [.ref z13, .int 0]))] sz) := by
  have e9 : j1 = 0 ∨ j1 = 1 ∨ j1 = 2 ∨ j1 = 3 := by
    have h9 : j1.toInt = 0 ∨ j1.toInt = 1 ∨ j1.toInt = 2 ∨ j1.toInt = 3 := by omega
    rcases h9 with h9 | h9 | h9 | h9
    · exact Or.inl (Int32.toInt_inj.mp (h9.trans (by decide)))
    · exact Or.inr (Or.inl (Int32.toInt_inj.mp (h9.trans (by decide))))
    · exact Or.inr (Or.inr (Or.inl (Int32.toInt_inj.mp (h9.trans (by decide)))))
    · exact Or.inr (Or.inr (Or.inr (Int32.toInt_inj.mp (h9.trans (by decide)))))
  rcases e9 with rfl | rfl | rfl | rfl
  · exact kx_X3_pick_6 l dC dI h0 h1 h2 h3 h4 h5 h6 z0 z1 z2 z3 z4 z5 z6 z7 z8 z9 z10 z11 z12 z13 k0 sz i0 i0_l i0_u
  · exact kx_X3_pick_7 l dC dI h0 h1 h2 h3 h4 h5 h6 z0 z1 z2 z3 z4 z5 z6 z7 z8 z9 z10 z11 z12 z13 k0 sz i0 i0_l i0_u
  · exact kx_X3_pick_8 l dC dI h0 h1 h2 h3 h4 h5 h6 z0 z1 z2 z3 z4 z5 z6 z7 z8 z9 z10 z11 z12 z13 k0 sz i0 i0_l i0_u
  · exact kx_X3_pick_9 l dC dI h0 h1 h2 h3 h4 h5 h6 z0 z1 z2 z3 z4 z5 z6 z7 z8 z9 z10 z11 z12 z13 k0 sz i0 i0_l i0_u
set_option maxHeartbeats 4000000 in
set_option maxRecDepth 100000 in
theorem kx_L_pick_3 (l : Launch) (dC : Nat → ClassId) (dI : Nat → Nat → Nat) (ge5 gea gv5 gva gde gic gi0 : Nat) (h0 : Nat) (h1 : Nat) (h2 : Nat) (h3 : Nat) (h4 : Nat) (h5 : Nat) (h6 : Nat) (h7 : Nat) (z0 : Nat) (z1 : Nat) (z2 : Nat) (z3 : Nat) (z4 : Nat) (z5 : Nat) (z6 : Nat) (z7 : Nat) (z8 : Nat) (z9 : Nat) (z10 : Nat) (z11 : Nat) (z12 : Nat) (z13 : Nat) (k0 : ClassId) (sz : Nat) (i0 : Int32) (i0_l : (0 : Int) ≤ i0.toInt) (i0_u : i0.toInt ≤ (3 : Int)) (i1 : Int32) (i1_l : (0 : Int) ≤ i1.toInt) (i1_u : i1.toInt ≤ (2147483647 : Int)) : Met l yL_pick wsL_pick ({ frames := 2, cells := 0, slots := 0, locals := 47 }) (va_Pc [.ref h0, .int i0, .int i1, .ref h7] (fun U => U.heap.size = sz ∧ va_P (dC, dI) vwCl [(h0, .inr (7, [.ref h1, .ref h2, .ref z0, .ref z1, .ref z2, .ref z3, .int 0, .int 0, .int 0])), (h1, .inl (k0, 4, .inr (.inr (.inr (.inr (va_up (va_up (va_up (va_up (fun _ => none) 0 (some h3)) 1 (some h4)) 2 (some h5)) 3 (some h6))))))), (h2, .inr (5, [.ref z4, .ref z5, .ref z6, .ref z7, .ref z8, .ref z9, .int 0, .int 0])), (h3, .inr (6, [.ref z10, .int 0])), (h4, .inr (6, [.ref z11, .int 0])), (h5, .inr (6, [.ref z12, .int 0])), (h6, .inr (6, [.ref z13, .int 0])), (h7, .inr (8, [.long 0, .null]))] U.heap ∧ va_K (dC, dI) vwCl [(k0, .object "Rewriterope$Text")] U ∧ va_D (fun _ => True) [(h0, .inr (7, [.ref h1, .ref h2, .ref z0, .ref z1, .ref z2, .ref z3, .int 0, .int 0, .int 0])), (h1, .inl (k0, 4, .inr (.inr (.inr (.inr (va_up (va_up (va_up (va_up (fun _ => none) 0 (some h3)) 1 (some h4)) 2 (some h5)) 3 (some h6))))))), (h2, .inr (5, [.ref z4, .ref z5, .ref z6, .ref z7, .ref z8, .ref z9, .int 0, .int 0])), (h3, .inr (6, [.ref z10, .int 0])), (h4, .inr (6, [.ref z11, .int 0])), (h5, .inr (6, [.ref z12, .int 0])), (h6, .inr (6, [.ref z13, .int 0])), (h7, .inr (8, [.long 0, .null]))] ∧ gv ge5 gea gv5 gva gde gic gi0 (va_A [(h0, .inr (7, [.ref h1, .ref h2, .ref z0, .ref z1, .ref z2, .ref z3, .int 0, .int 0, .int 0])), (h1, .inl (k0, 4, .inr (.inr (.inr (.inr (va_up (va_up (va_up (va_up (fun _ => none) 0 (some h3)) 1 (some h4)) 2 (some h5)) 3 (some h6))))))), (h2, .inr (5, [.ref z4, .ref z5, .ref z6, .ref z7, .ref z8, .ref z9, .int 0, .int 0])), (h3, .inr (6, [.ref z10, .int 0])), (h4, .inr (6, [.ref z11, .int 0])), (h5, .inr (6, [.ref z12, .int 0])), (h6, .inr (6, [.ref z13, .int 0])), (h7, .inr (8, [.long 0, .null]))] sz) U U.heap)) (va_Qi (fun (r : Int32) (_ : Unit) => r = 0) (fun (_ : Unit) (t : State) => va_P (dC, dI) vwCl [(h0, .inr (7, [.ref h1, .ref h2, .ref z0, .ref z1, .ref z2, .ref z3, .int 1, .int 0, .int 0])), (h1, .inl (k0, 4, .inr (.inr (.inr (.inr (va_up (va_up (va_up (va_up (fun _ => none) 0 (some h3)) 1 (some h4)) 2 (some h5)) 3 (some h6))))))), (h2, .inr (5, [.ref z4, .ref z5, .ref z6, .ref z7, .ref z8, .ref z9, .int 0, .int 0])), (h3, .inr (6, [.ref z10, .int 0])), (h4, .inr (6, [.ref z11, .int 0])), (h5, .inr (6, [.ref z12, .int 0])), (h6, .inr (6, [.ref z13, .int 0])), (h7, .inr (8, [.long (-9), .null]))] t.heap ∧ va_K (dC, dI) vwCl [(k0, .object "Rewriterope$Text")] t ∧ va_D (va_A [(h0, .inr (7, [.ref h1, .ref h2, .ref z0, .ref z1, .ref z2, .ref z3, .int 0, .int 0, .int 0])), (h1, .inl (k0, 4, .inr (.inr (.inr (.inr (va_up (va_up (va_up (va_up (fun _ => none) 0 (some h3)) 1 (some h4)) 2 (some h5)) 3 (some h6))))))), (h2, .inr (5, [.ref z4, .ref z5, .ref z6, .ref z7, .ref z8, .ref z9, .int 0, .int 0])), (h3, .inr (6, [.ref z10, .int 0])), (h4, .inr (6, [.ref z11, .int 0])), (h5, .inr (6, [.ref z12, .int 0])), (h6, .inr (6, [.ref z13, .int 0])), (h7, .inr (8, [.long 0, .null]))] sz) [(h0, .inr (7, [.ref h1, .ref h2, .ref z0, .ref z1, .ref z2, .ref z3, .int 1, .int 0, .int 0])), (h1, .inl (k0, 4, .inr (.inr (.inr (.inr (va_up (va_up (va_up (va_up (fun _ => none) 0 (some h3)) 1 (some h4)) 2 (some h5)) 3 (some h6))))))), (h2, .inr (5, [.ref z4, .ref z5, .ref z6, .ref z7, .ref z8, .ref z9, .int 0, .int 0])), (h3, .inr (6, [.ref z10, .int 0])), (h4, .inr (6, [.ref z11, .int 0])), (h5, .inr (6, [.ref z12, .int 0])), (h6, .inr (6, [.ref z13, .int 0])), (h7, .inr (8, [.long (-9), .null]))]) (va_A [(h0, .inr (7, [.ref h1, .ref h2, .ref z0, .ref z1, .ref z2, .ref z3, .int 0, .int 0, .int 0])), (h1, .inl (k0, 4, .inr (.inr (.inr (.inr (va_up (va_up (va_up (va_up (fun _ => none) 0 (some h3)) 1 (some h4)) 2 (some h5)) 3 (some h6))))))), (h2, .inr (5, [.ref z4, .ref z5, .ref z6, .ref z7, .ref z8, .ref z9, .int 0, .int 0])), (h3, .inr (6, [.ref z10, .int 0])), (h4, .inr (6, [.ref z11, .int 0])), (h5, .inr (6, [.ref z12, .int 0])), (h6, .inr (6, [.ref z13, .int 0])), (h7, .inr (8, [.long 0, .null]))] sz)) 0 0 (va_A [(h0, .inr (7, [.ref h1, .ref h2, .ref z0, .ref z1, .ref z2, .ref z3, .int 0, .int 0, .int 0])), (h1, .inl (k0, 4, .inr (.inr (.inr (.inr (va_up (va_up (va_up (va_up (fun _ => none) 0 (some h3)) 1 (some h4)) 2 (some h5)) 3 (some h6))))))), (h2, .inr (5, [.ref z4, .ref z5, .ref z6, .ref z7, .ref z8, .ref z9, .int 0, .int 0])), (h3, .inr (6, [.ref z10, .int 0])), (h4, .inr (6, [.ref z11, .int 0])), (h5, .inr (6, [.ref z12, .int 0])), (h6, .inr (6, [.ref z13, .int 0])), (h7, .inr (8, [.long 0, .null]))] sz) := by
  refine kz_ofWH (cc := cL_pick) (maxL := 5) (ret := (some .int)) (hh := [(0, 11, 14, 19)]) (by decide) rfl ?_
  intro p e s m args below meth c s₁ B hml hv
  obtain ⟨rfl, hsz, hP, hK, hD0, hG⟩ := hv
  have hx := B.exec
  have hb := B.bytes
  have hr := B.returns
  have hts := atoms_spec (ws := wsL_pick) B.pre
  have hown : s.vm.findClass RL = some m.cls := findClass_of_methodNamed B.named
  have htab := vx_table (x := yL_pick) B (hts (.codeWith yL_pick cL_pick 5 (some .int) [(0, 11, 14, 19)]) (by decide +kernel))
  have hlocks := B.notSynchronized
  subst hsz
  have hD := hD0.self (sz := s.heap.size)
  generalize hAe : va_A [(h0, .inr (7, [.ref h1, .ref h2, .ref z0, .ref z1, .ref z2, .ref z3, .int 0, .int 0, .int 0])), (h1, .inl (k0, 4, .inr (.inr (.inr (.inr (va_up (va_up (va_up (va_up (fun _ => none) 0 (some h3)) 1 (some h4)) 2 (some h5)) 3 (some h6))))))), (h2, .inr (5, [.ref z4, .ref z5, .ref z6, .ref z7, .ref z8, .ref z9, .int 0, .int 0])), (h3, .inr (6, [.ref z10, .int 0])), (h4, .inr (6, [.ref z11, .int 0])), (h5, .inr (6, [.ref z12, .int 0])), (h6, .inr (6, [.ref z13, .int 0])), (h7, .inr (8, [.long 0, .null]))] s.heap.size = A at hD hG ⊢
  obtain ⟨⟨g_AO_Text, g_AO_String, g_AO_Object, g_nm_RX1_20, g_nm_RX0_17, g_nm_RX3_31, g_nm_RX2_44, g_nm_RL_121, g_nf_RL_13, g_nf_RL_47, g_ca_IO, g_ca_IA, g_ca_IS, g_ca_IntObj, g_ca_StrObj, g_de_RT, g_de_EX, g_de_TH, g_nc_IA_IO, g_nc_IS_IO, g_nc_IS_IA⟩, ⟨g_s3, g_s5, g_sa, g_x278, g_x280, g_x282, g_x284, g_x286, g_x180, g_x238, g_x250⟩, ⟨g_o5, g_c5, g_v5, g_t5, g_oa, g_ca, g_va, g_ta, g_zc, g_zd, g_td, g_zf, g_zU, g_zN, g_zh, g_zk, g_tk, g_oi, g_vi⟩⟩ := id hG
  have hA : ∀ q : Nat, s.heap.size ≤ q → A q := fun q h => by rw [← hAe]; exact Or.inr h
  have hS : va_S A s.heap s.heap [] := va_S.rf
  have hP : va_P (dC, dI) vwCl [(h0, .inr (7, [.ref h1, .ref h2, .ref z0, .ref z1, .ref z2, .ref z3, .int 0, .int 0, .int 0])), (h1, .inl (k0, 4, .inr (.inr (.inr (.inr (va_up (va_up (va_up (va_up (fun _ => none) 0 (some h3)) 1 (some h4)) 2 (some h5)) 3 (some h6))))))), (h2, .inr (5, [.ref z4, .ref z5, .ref z6, .ref z7, .ref z8, .ref z9, .int 0, .int 0])), (h3, .inr (6, [.ref z10, .int 0])), (h4, .inr (6, [.ref z11, .int 0])), (h5, .inr (6, [.ref z12, .int 0])), (h6, .inr (6, [.ref z13, .int 0])), (h7, .inr (8, [.long 0, .null]))] s.heap := hP
  have hl := lv_entry ([.ref h0, .int i0, .int i1, .ref h7]) (n := 5) (Nat.le_of_ble_eq_true rfl)
  rw [lg_entry_eq]
  generalize (lg_sl ([.ref h0, .int i0, .int i1, .ref h7]) ++ List.replicate (5 - (lg_sl ([.ref h0, .int i0, .int i1, .ref h7])).length) Slot.unset).toArray = ls at hl ⊢
  have hl : lv_has ls 5 [(0, .ref h0), (1, .int i0), (2, .int i1), (3, .ref h7)] := hl
  refine lv_aload_n hx hb dL_pick_0 rfl (lv_at hl 3 rfl) ?_
  refine lv_aload_n hx hb dL_pick_1 rfl (lv_at hl 0 rfl) ?_
  refine lv_iload_n hx hb dL_pick_2 rfl (lv_at hl 1 rfl) ?_
  refine lv_iload_n hx hb dL_pick_3 rfl (lv_at hl 2 rfl) ?_
  have hPc := hP.sub (ws' := [(h0, .inr (7, [.ref h1, .ref h2, .ref z0, .ref z1, .ref z2, .ref z3, .int 0, .int 0, .int 0])), (h1, .inl (k0, 4, .inr (.inr (.inr (.inr (va_up (va_up (va_up (va_up (fun _ => none) 0 (some h3)) 1 (some h4)) 2 (some h5)) 3 (some h6))))))), (h2, .inr (5, [.ref z4, .ref z5, .ref z6, .ref z7, .ref z8, .ref z9, .int 0, .int 0])), (h3, .inr (6, [.ref z10, .int 0])), (h4, .inr (6, [.ref z11, .int 0])), (h5, .inr (6, [.ref z12, .int 0])), (h6, .inr (6, [.ref z13, .int 0]))]) [0, 1, 2, 3, 4, 5, 6] rfl
  have hDc := hD.sub (ws' := [(h0, .inr (7, [.ref h1, .ref h2, .ref z0, .ref z1, .ref z2, .ref z3, .int 0, .int 0, .int 0])), (h1, .inl (k0, 4, .inr (.inr (.inr (.inr (va_up (va_up (va_up (va_up (fun _ => none) 0 (some h3)) 1 (some h4)) 2 (some h5)) 3 (some h6))))))), (h2, .inr (5, [.ref z4, .ref z5, .ref z6, .ref z7, .ref z8, .ref z9, .int 0, .int 0])), (h3, .inr (6, [.ref z10, .int 0])), (h4, .inr (6, [.ref z11, .int 0])), (h5, .inr (6, [.ref z12, .int 0])), (h6, .inr (6, [.ref z13, .int 0]))]) [0, 1, 2, 3, 4, 5, 6] (by decide) rfl
  have hKc := hK.sub (tys' := [(k0, .object "Rewriterope$Text")]) [0] rfl
  have hFc := va_free (wc := [(h0, .inr (7, [.ref h1, .ref h2, .ref z0, .ref z1, .ref z2, .ref z3, .int 0, .int 0, .int 0])), (h1, .inl (k0, 4, .inr (.inr (.inr (.inr (va_up (va_up (va_up (va_up (fun _ => none) 0 (some h3)) 1 (some h4)) 2 (some h5)) 3 (some h6))))))), (h2, .inr (5, [.ref z4, .ref z5, .ref z6, .ref z7, .ref z8, .ref z9, .int 0, .int 0])), (h3, .inr (6, [.ref z10, .int 0])), (h4, .inr (6, [.ref z11, .int 0])), (h5, .inr (6, [.ref z12, .int 0])), (h6, .inr (6, [.ref z13, .int 0]))]) hD hS hA [0, 1, 2, 3, 4, 5, 6] rfl
  refine va_calli (va_runV (As := [.int i0, .int i1]) (rest := [.ref h7]) ⟨hx, hb, hml, hown, hts⟩ (kx_X3_pick_s1 l dC dI h0 h1 h2 h3 h4 h5 h6 z0 z1 z2 z3 z4 z5 z6 z7 z8 z9 z10 z11 z12 z13 k0 s.heap.size i1 i1_l i1_u i0 i0_l i0_u) (cwV 2 hts gL_pick_X3_pick rfl rfl rfl (by decide +kernel) ⟨Nat.le_of_ble_eq_true rfl, Nat.le_of_ble_eq_true rfl⟩) ⟨fun a U g mk q => by obtain ⟨q0, q1, qP, qK, qD⟩ := q; exact ⟨q0, q1, qP, va_K.moved (u := U) (U := U.calling g mk a) (Vm.Alike.refl U.vm) qK, qD⟩, va_recv hKc hPc (ci := 7) (q0 := 0) rfl rfl, fun U hU hW => ⟨rfl, by rw [hU], by rw [hU]; exact hPc, va_K.moved hW.alike hKc, hDc.weaken (fun _ _ _ _ => trivial)⟩⟩ rfl rfl hl.1 rfl (lv_room (Nat.le_of_ble_eq_true rfl)) dL_pick_4 ⟨Nat.le_of_ble_eq_true rfl, Nat.le_of_ble_eq_true rfl⟩) hS (fun q _ h => hFc q h) hFc (fun r9 u t H1 locs ht hvm hw hB hz1 hk1 hS => ?_)
  obtain rfl := hw
  obtain ⟨hP1, hK1, hD1⟩ := hB
  rw [ht] at hP1
  have hK1 := va_K.moved hvm.symm hK1
  obtain ⟨hP, hD⟩ := va_join (wr := [(h7, .inr (8, [.long 0, .null]))]) (w1 := [(h0, .inr (7, [.ref h1, .ref h2, .ref z0, .ref z1, .ref z2, .ref z3, .int 1, .int 0, .int 0])), (h1, .inl (k0, 4, .inr (.inr (.inr (.inr (va_up (va_up (va_up (va_up (fun _ => none) 0 (some h3)) 1 (some h4)) 2 (some h5)) 3 (some h6))))))), (h2, .inr (5, [.ref z4, .ref z5, .ref z6, .ref z7, .ref z8, .ref z9, .int 0, .int 0])), (h3, .inr (6, [.ref z10, .int 0])), (h4, .inr (6, [.ref z11, .int 0])), (h5, .inr (6, [.ref z12, .int 0])), (h6, .inr (6, [.ref z13, .int 0]))]) hP hD [0, 1, 2, 3, 4, 5, 6] [7] rfl rfl (by decide) (by decide) hk1 hFc hP1 hD1
  generalize H1 = H at hP hS ⊢
  have hP : va_P (dC, dI) vwCl [(h7, .inr (8, [.long 0, .null])), (h0, .inr (7, [.ref h1, .ref h2, .ref z0, .ref z1, .ref z2, .ref z3, .int 1, .int 0, .int 0])), (h1, .inl (k0, 4, .inr (.inr (.inr (.inr (va_up (va_up (va_up (va_up (fun _ => none) 0 (some h3)) 1 (some h4)) 2 (some h5)) 3 (some h6))))))), (h2, .inr (5, [.ref z4, .ref z5, .ref z6, .ref z7, .ref z8, .ref z9, .int 0, .int 0])), (h3, .inr (6, [.ref z10, .int 0])), (h4, .inr (6, [.ref z11, .int 0])), (h5, .inr (6, [.ref z12, .int 0])), (h6, .inr (6, [.ref z13, .int 0]))] H := hP
  have hD : va_D A [(h7, .inr (8, [.long 0, .null])), (h0, .inr (7, [.ref h1, .ref h2, .ref z0, .ref z1, .ref z2, .ref z3, .int 1, .int 0, .int 0])), (h1, .inl (k0, 4, .inr (.inr (.inr (.inr (va_up (va_up (va_up (va_up (fun _ => none) 0 (some h3)) 1 (some h4)) 2 (some h5)) 3 (some h6))))))), (h2, .inr (5, [.ref z4, .ref z5, .ref z6, .ref z7, .ref z8, .ref z9, .int 0, .int 0])), (h3, .inr (6, [.ref z10, .int 0])), (h4, .inr (6, [.ref z11, .int 0])), (h5, .inr (6, [.ref z12, .int 0])), (h6, .inr (6, [.ref z13, .int 0]))] := hD
  refine lv_i2l (v := (-9)) hx hb dL_pick_7 (by decide) ?_
  refine va_putN (D := (dC, dI)) (ci := 8) (v := .long (-9)) (ty := .long) (C := RX4) (T := TX4) (N := 2) hx hb hts (by decide +kernel) tyX4 tyX4_ok nmX4 hown hK hP hD hS 0 rfl rfl 0 (by decide) (va_Nw.use rfl g_nf_RL_13) (fun _ h9 => h9) rfl (by decide +kernel) rfl rfl (Nat.le_of_ble_eq_true rfl) dL_pick_8 (fun H locs hP hD hS => ?_)
  have hP : va_P (dC, dI) vwCl [(h7, .inr (8, [.long (-9), .null])), (h0, .inr (7, [.ref h1, .ref h2, .ref z0, .ref z1, .ref z2, .ref z3, .int 1, .int 0, .int 0])), (h1, .inl (k0, 4, .inr (.inr (.inr (.inr (va_up (va_up (va_up (va_up (fun _ => none) 0 (some h3)) 1 (some h4)) 2 (some h5)) 3 (some h6))))))), (h2, .inr (5, [.ref z4, .ref z5, .ref z6, .ref z7, .ref z8, .ref z9, .int 0, .int 0])), (h3, .inr (6, [.ref z10, .int 0])), (h4, .inr (6, [.ref z11, .int 0])), (h5, .inr (6, [.ref z12, .int 0])), (h6, .inr (6, [.ref z13, .int 0]))] H := hP
  have hD : va_D A [(h7, .inr (8, [.long (-9), .null])), (h0, .inr (7, [.ref h1, .ref h2, .ref z0, .ref z1, .ref z2, .ref z3, .int 1, .int 0, .int 0])), (h1, .inl (k0, 4, .inr (.inr (.inr (.inr (va_up (va_up (va_up (va_up (fun _ => none) 0 (some h3)) 1 (some h4)) 2 (some h5)) 3 (some h6))))))), (h2, .inr (5, [.ref z4, .ref z5, .ref z6, .ref z7, .ref z8, .ref z9, .int 0, .int 0])), (h3, .inr (6, [.ref z10, .int 0])), (h4, .inr (6, [.ref z11, .int 0])), (h5, .inr (6, [.ref z12, .int 0])), (h6, .inr (6, [.ref z13, .int 0]))] := hD
  refine lv_goto (tgt := 18) hx hb dL_pick_11 (by decide) ?_
  refine lv_iconst (v := 0) hx hb dL_pick_18 (by decide) ?_
  have hP := hP.sub (ws' := [(h0, .inr (7, [.ref h1, .ref h2, .ref z0, .ref z1, .ref z2, .ref z3, .int 1, .int 0, .int 0])), (h1, .inl (k0, 4, .inr (.inr (.inr (.inr (va_up (va_up (va_up (va_up (fun _ => none) 0 (some h3)) 1 (some h4)) 2 (some h5)) 3 (some h6))))))), (h2, .inr (5, [.ref z4, .ref z5, .ref z6, .ref z7, .ref z8, .ref z9, .int 0, .int 0])), (h3, .inr (6, [.ref z10, .int 0])), (h4, .inr (6, [.ref z11, .int 0])), (h5, .inr (6, [.ref z12, .int 0])), (h6, .inr (6, [.ref z13, .int 0])), (h7, .inr (8, [.long (-9), .null]))]) [1, 2, 3, 4, 5, 6, 7, 0] rfl
  have hD := hD.sub (ws' := [(h0, .inr (7, [.ref h1, .ref h2, .ref z0, .ref z1, .ref z2, .ref z3, .int 1, .int 0, .int 0])), (h1, .inl (k0, 4, .inr (.inr (.inr (.inr (va_up (va_up (va_up (va_up (fun _ => none) 0 (some h3)) 1 (some h4)) 2 (some h5)) 3 (some h6))))))), (h2, .inr (5, [.ref z4, .ref z5, .ref z6, .ref z7, .ref z8, .ref z9, .int 0, .int 0])), (h3, .inr (6, [.ref z10, .int 0])), (h4, .inr (6, [.ref z11, .int 0])), (h5, .inr (6, [.ref z12, .int 0])), (h6, .inr (6, [.ref z13, .int 0])), (h7, .inr (8, [.long (-9), .null]))]) [1, 2, 3, 4, 5, 6, 7, 0] (by decide) rfl
  exact W.iret (v := 0) hx hb hr (fun t ht hW => ⟨⟨0, (), rfl, rfl, by rw [ht]; exact hP, va_K.moved hW.alike hK, hD⟩, hS.F ht⟩) hS.2.2 dL_pick_19
set_option maxHeartbeats 4000000 in
set_option maxRecDepth 100000 in
theorem kx_X5_pick_3 (l : Launch) (dC : Nat → ClassId) (dI : Nat → Nat → Nat) (ge5 gea gv5 gva gde gic gi0 : Nat) (h0 : Nat) (h1 : Nat) (z0 : Nat) (z1 : Nat) (k0 : ClassId) (sz : Nat) (i0 : Int32) (i0_l : (0 : Int) ≤ i0.toInt) (i0_u : i0.toInt ≤ (3 : Int)) (i1 : Int32) (i1_l : (0 : Int) ≤ i1.toInt) (i1_u : i1.toInt ≤ (2147483647 : Int)) : Met l yX5_pick wsX5_pick ({ frames := 5, cells := 1, slots := 3, locals := 96 }) (va_Pc [.ref h0, .int i0, .int i1] (fun U => U.heap.size = sz ∧ va_P (dC, dI) vwCl [(h0, .inr (9, [.int 0, .ref h1, .ref z0, .ref z1, .int 0, .int 0, .int 0])), (h1, .inl (k0, 4, .inr (.inr (.inr (.inr (va_up (va_up (va_up (va_up (fun _ => none) 0 (some ge5)) 1 (some ge5)) 2 (some ge5)) 3 (some ge5)))))))] U.heap ∧ va_K (dC, dI) vwCl [(k0, .object "java/lang/String")] U ∧ va_D (fun _ => True) [(h0, .inr (9, [.int 0, .ref h1, .ref z0, .ref z1, .int 0, .int 0, .int 0])), (h1, .inl (k0, 4, .inr (.inr (.inr (.inr (va_up (va_up (va_up (va_up (fun _ => none) 0 (some ge5)) 1 (some ge5)) 2 (some ge5)) 3 (some ge5)))))))] ∧ gv ge5 gea gv5 gva gde gic gi0 (va_A [(h0, .inr (9, [.int 0, .ref h1, .ref z0, .ref z1, .int 0, .int 0, .int 0])), (h1, .inl (k0, 4, .inr (.inr (.inr (.inr (va_up (va_up (va_up (va_up (fun _ => none) 0 (some ge5)) 1 (some ge5)) 2 (some ge5)) 3 (some ge5)))))))] sz) U U.heap)) (va_Qi (fun (r : Int32) (_ : Unit) => r = (-9)) (fun (_ : Unit) (t : State) => ∃ q1 : Nat, va_P (dC, dI) vwCl [(h0, .inr (9, [.int 0, .ref h1, .ref z0, .ref z1, .int 1, .int 0, .int 0]))] t.heap ∧ va_K (dC, dI) vwCl [(k0, .object "java/lang/String")] t ∧ va_D (va_A [(h0, .inr (9, [.int 0, .ref h1, .ref z0, .ref z1, .int 0, .int 0, .int 0])), (h1, .inl (k0, 4, .inr (.inr (.inr (.inr (va_up (va_up (va_up (va_up (fun _ => none) 0 (some ge5)) 1 (some ge5)) 2 (some ge5)) 3 (some ge5)))))))] sz) [(h0, .inr (9, [.int 0, .ref h1, .ref z0, .ref z1, .int 1, .int 0, .int 0]))]) (va_A [(h0, .inr (9, [.int 0, .ref h1, .ref z0, .ref z1, .int 0, .int 0, .int 0])), (h1, .inl (k0, 4, .inr (.inr (.inr (.inr (va_up (va_up (va_up (va_up (fun _ => none) 0 (some ge5)) 1 (some ge5)) 2 (some ge5)) 3 (some ge5)))))))] sz)) 1 3 (va_A [(h0, .inr (9, [.int 0, .ref h1, .ref z0, .ref z1, .int 0, .int 0, .int 0])), (h1, .inl (k0, 4, .inr (.inr (.inr (.inr (va_up (va_up (va_up (va_up (fun _ => none) 0 (some ge5)) 1 (some ge5)) 2 (some ge5)) 3 (some ge5)))))))] sz) := by
  refine Met.ofW (cc := cX5_pick) (maxL := 4) (ret := (some .int)) (by decide) rfl ?_
  intro p e s m args below meth c s₁ B hml hv
  obtain ⟨rfl, hsz, hP, hK, hD0, hG⟩ := hv
  have hx := B.exec
  have hb := B.bytes
  have hr := B.returns
  have hts := atoms_spec (ws := wsX5_pick) B.pre
  have hown : s.vm.findClass RX5 = some m.cls := findClass_of_methodNamed B.named
  have hlocks := B.notSynchronized
  subst hsz
  have hD := hD0.self (sz := s.heap.size)
  generalize hAe : va_A [(h0, .inr (9, [.int 0, .ref h1, .ref z0, .ref z1, .int 0, .int 0, .int 0])), (h1, .inl (k0, 4, .inr (.inr (.inr (.inr (va_up (va_up (va_up (va_up (fun _ => none) 0 (some ge5)) 1 (some ge5)) 2 (some ge5)) 3 (some ge5)))))))] s.heap.size = A at hD hG ⊢
  obtain ⟨⟨g_AO_Text, g_AO_String, g_AO_Object, g_nm_RX1_20, g_nm_RX0_17, g_nm_RX3_31, g_nm_RX2_44, g_nm_RL_121, g_nf_RL_13, g_nf_RL_47, g_ca_IO, g_ca_IA, g_ca_IS, g_ca_IntObj, g_ca_StrObj, g_de_RT, g_de_EX, g_de_TH, g_nc_IA_IO, g_nc_IS_IO, g_nc_IS_IA⟩, ⟨g_s3, g_s5, g_sa, g_x278, g_x280, g_x282, g_x284, g_x286, g_x180, g_x238, g_x250⟩, ⟨g_o5, g_c5, g_v5, g_t5, g_oa, g_ca, g_va, g_ta, g_zc, g_zd, g_td, g_zf, g_zU, g_zN, g_zh, g_zk, g_tk, g_oi, g_vi⟩⟩ := id hG
  have hA : ∀ q : Nat, s.heap.size ≤ q → A q := fun q h => by rw [← hAe]; exact Or.inr h
  have hS : va_S A s.heap s.heap [] := va_S.rf
  have hP : va_P (dC, dI) vwCl [(h0, .inr (9, [.int 0, .ref h1, .ref z0, .ref z1, .int 0, .int 0, .int 0])), (h1, .inl (k0, 4, .inr (.inr (.inr (.inr (va_up (va_up (va_up (va_up (fun _ => none) 0 (some ge5)) 1 (some ge5)) 2 (some ge5)) 3 (some ge5)))))))] s.heap := hP
  have hl := lv_entry ([.ref h0, .int i0, .int i1]) (n := 4) (Nat.le_of_ble_eq_true rfl)
  rw [lg_entry_eq]
  generalize (lg_sl ([.ref h0, .int i0, .int i1]) ++ List.replicate (4 - (lg_sl ([.ref h0, .int i0, .int i1])).length) Slot.unset).toArray = ls at hl ⊢
  have hl : lv_has ls 4 [(0, .ref h0), (1, .int i0), (2, .int i1)] := hl
  refine lv_aload_n hx hb dX5_pick_0 rfl (lv_at hl 0 rfl) ?_
  refine lv_iload_n hx hb dX5_pick_1 rfl (lv_at hl 1 rfl) ?_
  have hPc := hP.sub (ws' := []) [] rfl
  have hDc := hD.sub (ws' := []) [] (by decide) rfl
  have hKc := hK.sub (tys' := []) [] rfl
  have hFc := va_free (wc := []) hD hS hA [] rfl
  refine va_calli (va_runS (As := [.int i0]) (rest := [.ref h0]) ⟨hx, hb, hml, hown, hts⟩ (kx_X5_isNo_1 l dC dI s.heap.size i0 i0_l i0_u) (cwS 1 hts gX5_pick_X5_isNo rfl rfl rfl (by decide +kernel) ⟨Nat.le_of_ble_eq_true rfl, Nat.le_of_ble_eq_true rfl⟩) ⟨fun a U g mk q => by obtain ⟨q0, q1, qP, qK, qD⟩ := q; exact ⟨q0, q1, qP, va_K.moved (u := U) (U := U.calling g mk a) (Vm.Alike.refl U.vm) qK, qD⟩, fun U hU hW => ⟨rfl, by rw [hU], by rw [hU]; exact hPc, va_K.moved hW.alike hKc, hDc.weaken (fun _ _ _ _ => trivial)⟩⟩ rfl rfl hl.1 rfl (lv_room (Nat.le_of_ble_eq_true rfl)) dX5_pick_2 ⟨Nat.le_of_ble_eq_true rfl, Nat.le_of_ble_eq_true rfl⟩) hS (fun q _ h => hFc q h) hFc (fun r9 u t H1 locs ht hvm hw hB hz1 hk1 hS => ?_)
  obtain rfl := hw
  obtain ⟨hP1, hK1, hD1⟩ := hB
  rw [ht] at hP1
  have hK1 := va_K.moved hvm.symm hK1
  obtain ⟨hP, hD⟩ := va_join (wr := [(h0, .inr (9, [.int 0, .ref h1, .ref z0, .ref z1, .int 0, .int 0, .int 0])), (h1, .inl (k0, 4, .inr (.inr (.inr (.inr (va_up (va_up (va_up (va_up (fun _ => none) 0 (some ge5)) 1 (some ge5)) 2 (some ge5)) 3 (some ge5)))))))]) (w1 := []) hP hD [] [0, 1] rfl rfl (by decide) (by decide) hk1 hFc hP1 hD1
  generalize H1 = H at hP hS ⊢
  have hP : va_P (dC, dI) vwCl [(h0, .inr (9, [.int 0, .ref h1, .ref z0, .ref z1, .int 0, .int 0, .int 0])), (h1, .inl (k0, 4, .inr (.inr (.inr (.inr (va_up (va_up (va_up (va_up (fun _ => none) 0 (some ge5)) 1 (some ge5)) 2 (some ge5)) 3 (some ge5)))))))] H := hP
  have hD : va_D A [(h0, .inr (9, [.int 0, .ref h1, .ref z0, .ref z1, .int 0, .int 0, .int 0])), (h1, .inl (k0, 4, .inr (.inr (.inr (.inr (va_up (va_up (va_up (va_up (fun _ => none) 0 (some ge5)) 1 (some ge5)) 2 (some ge5)) 3 (some ge5)))))))] := hD
  refine lv_iconst (v := 0) hx hb dX5_pick_5 (by decide) ?_
  refine lv_iconst (v := 0) hx hb dX5_pick_6 (by decide) ?_
  have hPc := hP.sub (ws' := [(h0, .inr (9, [.int 0, .ref h1, .ref z0, .ref z1, .int 0, .int 0, .int 0]))]) [0] rfl
  have hDc := hD.sub (ws' := [(h0, .inr (9, [.int 0, .ref h1, .ref z0, .ref z1, .int 0, .int 0, .int 0]))]) [0] (by decide) rfl
  have hKc := hK.sub (tys' := []) [] rfl
  have hFc := va_free (wc := [(h0, .inr (9, [.int 0, .ref h1, .ref z0, .ref z1, .int 0, .int 0, .int 0]))]) hD hS hA [0] rfl
  refine va_calli (va_runV (As := [.int 0, .int 0, .int 0]) (rest := []) ⟨hx, hb, hml, hown, hts⟩ (kx_X5_fails_1 l dC dI h0 h1 z0 z1 H.size) (cwV 3 hts gX5_pick_X5_fails rfl rfl rfl (by decide +kernel) ⟨Nat.le_of_ble_eq_true rfl, Nat.le_of_ble_eq_true rfl⟩) ⟨fun a U g mk q => by obtain ⟨q0, q1, qP, qK, qD⟩ := q; exact ⟨q0, q1, qP, va_K.moved (u := U) (U := U.calling g mk a) (Vm.Alike.refl U.vm) qK, qD⟩, va_recv hKc hPc (ci := 9) (q0 := 0) rfl rfl, fun U hU hW => ⟨rfl, by rw [hU], by rw [hU]; exact hPc, va_K.moved hW.alike hKc, hDc.weaken (fun _ _ _ _ => trivial)⟩⟩ rfl rfl hl.1 rfl (lv_room (Nat.le_of_ble_eq_true rfl)) dX5_pick_7 ⟨Nat.le_of_ble_eq_true rfl, Nat.le_of_ble_eq_true rfl⟩) hS (fun q _ h => hFc q h) hFc (fun r9 u t H1 locs ht hvm hw hB hz1 hk1 hS => ?_)
  obtain rfl := hw
  obtain ⟨hP1, hK1, hD1⟩ := hB
  rw [ht] at hP1
  have hK1 := va_K.moved hvm.symm hK1
  obtain ⟨hP, hD⟩ := va_join (wr := [(h1, .inl (k0, 4, .inr (.inr (.inr (.inr (va_up (va_up (va_up (va_up (fun _ => none) 0 (some ge5)) 1 (some ge5)) 2 (some ge5)) 3 (some ge5)))))))]) (w1 := [(h0, .inr (9, [.int 0, .ref h1, .ref z0, .ref z1, .int 0, .int 0, .int 0]))]) hP hD [0] [1] rfl rfl (by decide) (by decide) hk1 hFc hP1 hD1
  generalize H1 = H at hP hS ⊢
  have hP : va_P (dC, dI) vwCl [(h1, .inl (k0, 4, .inr (.inr (.inr (.inr (va_up (va_up (va_up (va_up (fun _ => none) 0 (some ge5)) 1 (some ge5)) 2 (some ge5)) 3 (some ge5))))))), (h0, .inr (9, [.int 0, .ref h1, .ref z0, .ref z1, .int 0, .int 0, .int 0]))] H := hP
  have hD : va_D A [(h1, .inl (k0, 4, .inr (.inr (.inr (.inr (va_up (va_up (va_up (va_up (fun _ => none) 0 (some ge5)) 1 (some ge5)) 2 (some ge5)) 3 (some ge5))))))), (h0, .inr (9, [.int 0, .ref h1, .ref z0, .ref z1, .int 0, .int 0, .int 0]))] := hD
  refine lv_if_eq (tgt := 15) hx hb dX5_pick_10 (by decide) (fun _ => ?_) (fun c9 => absurd (by decide) c9)
  refine lv_aload_n hx hb dX5_pick_15 rfl (lv_at hl 0 rfl) ?_
  refine lv_aload_n hx hb dX5_pick_16 rfl (lv_at hl 0 rfl) ?_
  refine va_get (D := (dC, dI)) (ci := 9) (v := .ref h1) (C := RX5) (T := TX5) (N := 7) hx hb hts (by decide +kernel) hown hK hP 1 rfl rfl 1 (by decide) (hts (.fieldLink RX5 11 "RewriteropeModel" "ropes" "[Ljava/lang/String;") (by decide +kernel)) (fun _ h9 => h9) rfl dX5_pick_17 ?_
  refine lv_iload_n hx hb dX5_pick_20 rfl (lv_at hl 1 rfl) ?_
  refine va_aldq (D := (dC, dI)) hx hb hK hP 0 0 rfl rfl (kz_in4 i0_l i0_u) dX5_pick_21 ?_
  rw [show (va_up (va_up (va_up (va_up (fun _ => none) 0 (some ge5)) 1 (some ge5)) 2 (some ge5)) 3 (some ge5)) i0.toNatClampNeg = some ge5 from (kz_ix4 (P := fun z => (va_up (va_up (va_up (va_up (fun _ => none) 0 (some ge5)) 1 (some ge5)) 2 (some ge5)) 3 (some ge5)) z.toNatClampNeg = some ge5) rfl rfl rfl rfl i0_l i0_u)]
  refine W.eq (g2 := F0 m 22 ls [.ref ge5, .ref h0]) rfl ?_
  have hPc := hP.sub (ws' := [(h0, .inr (9, [.int 0, .ref h1, .ref z0, .ref z1, .int 0, .int 0, .int 0]))]) [1] rfl
  have hDc := hD.sub (ws' := [(h0, .inr (9, [.int 0, .ref h1, .ref z0, .ref z1, .int 0, .int 0, .int 0]))]) [1] (by decide) rfl
  have hKc := hK.sub (tys' := []) [] rfl
  have hFc := va_free (wc := [(h0, .inr (9, [.int 0, .ref h1, .ref z0, .ref z1, .int 0, .int 0, .int 0]))]) hD hS hA [1] rfl
  refine va_callr (va_runV (As := [.ref ge5]) (rest := []) ⟨hx, hb, hml, hown, hts⟩ (kx_X5_spotsOf_0 l dC dI ge5 gea gv5 gva gde gic gi0 h0 h1 z0 z1 H.size) (cwV 1 hts gX5_pick_X5_spotsOf rfl rfl rfl (by decide +kernel) ⟨Nat.le_of_ble_eq_true rfl, Nat.le_of_ble_eq_true rfl⟩) ⟨fun a U g mk q => by obtain ⟨q0, q1, qP, qK, qD, qG⟩ := q; exact ⟨q0, q1, qP, va_K.moved (u := U) (U := U.calling g mk a) (Vm.Alike.refl U.vm) qK, qD, gv.fb qG⟩, va_recv hKc hPc (ci := 9) (q0 := 0) rfl rfl, fun U hU hW => ⟨rfl, by rw [hU], by rw [hU]; exact hPc, va_K.moved hW.alike hKc, hDc.weaken (fun _ _ _ _ => trivial), gv.pass hW hU hS hFc hG⟩⟩ rfl rfl hl.1 rfl (lv_room (Nat.le_of_ble_eq_true rfl)) dX5_pick_22 ⟨Nat.le_of_ble_eq_true rfl, Nat.le_of_ble_eq_true rfl⟩) hS (fun q _ h => hFc q h) hFc (fun u ra t H1 locs ht hvm hw hB hz1 hk1 hS => ?_)
  obtain ⟨q1, hra, hP1, hK1, hD1⟩ := hB
  rw [hra]
  rw [ht] at hP1
  have hK1 := va_K.moved hvm.symm hK1
  obtain ⟨hP, hD⟩ := va_join (wr := [(h1, .inl (k0, 4, .inr (.inr (.inr (.inr (va_up (va_up (va_up (va_up (fun _ => none) 0 (some ge5)) 1 (some ge5)) 2 (some ge5)) 3 (some ge5)))))))]) (w1 := [(h0, .inr (9, [.int 0, .ref h1, .ref z0, .ref z1, .int 0, .int 0, .int 0])), (q1, .inr (3, [.int 0, .ref gde, .int 0]))]) hP hD [1] [0] rfl rfl (by decide) (by decide) hk1 hFc hP1 hD1
  generalize H1 = H at hP hS ⊢
  have hP : va_P (dC, dI) vwCl [(h1, .inl (k0, 4, .inr (.inr (.inr (.inr (va_up (va_up (va_up (va_up (fun _ => none) 0 (some ge5)) 1 (some ge5)) 2 (some ge5)) 3 (some ge5))))))), (h0, .inr (9, [.int 0, .ref h1, .ref z0, .ref z1, .int 0, .int 0, .int 0])), (q1, .inr (3, [.int 0, .ref gde, .int 0]))] H := hP
  have hD : va_D A [(h1, .inl (k0, 4, .inr (.inr (.inr (.inr (va_up (va_up (va_up (va_up (fun _ => none) 0 (some ge5)) 1 (some ge5)) 2 (some ge5)) 3 (some ge5))))))), (h0, .inr (9, [.int 0, .ref h1, .ref z0, .ref z1, .int 0, .int 0, .int 0])), (q1, .inr (3, [.int 0, .ref gde, .int 0]))] := hD
  refine W.widen (k := 1) (n := 3) (by omega) (by omega) ?_
  refine lv_astore_n (lv' := [(3, .ref q1), (0, .ref h0), (1, .int i0), (2, .int i1)]) hx hb dX5_pick_25 rfl hl (by decide) rfl (fun ls hl => ?_)
  refine lv_iload_n hx hb dX5_pick_26 rfl (lv_at hl 3 rfl) ?_
  refine lv_iconst (v := 0) hx hb dX5_pick_27 (by decide) ?_
  refine lv_aload_n hx hb dX5_pick_28 rfl (lv_at hl 0 rfl) ?_
  have hPc := hP.sub (ws' := [(q1, .inr (3, [.int 0, .ref gde, .int 0]))]) [2] rfl
  have hDc := hD.sub (ws' := [(q1, .inr (3, [.int 0, .ref gde, .int 0]))]) [2] (by decide) rfl
  have hKc := hK.sub (tys' := []) [] rfl
  have hFc := va_free (wc := [(q1, .inr (3, [.int 0, .ref gde, .int 0]))]) hD hS hA [2] rfl
  refine va_calli (va_runV (As := []) (rest := [.int 0, .int i1]) ⟨hx, hb, hml, hown, hts⟩ (kx_Jx4a65c_size_8abf5_1 l dC dI ge5 gea gv5 gva gde gic gi0 q1 H.size) (cwV 0 hts gX5_pick_Jx4a65c_size_8abf5 rfl rfl rfl (by decide +kernel) ⟨Nat.le_of_ble_eq_true rfl, Nat.le_of_ble_eq_true rfl⟩) ⟨fun a U g mk q => by obtain ⟨q0, q1, qP, qK, qD, qG⟩ := q; exact ⟨q0, q1, qP, va_K.moved (u := U) (U := U.calling g mk a) (Vm.Alike.refl U.vm) qK, qD, gv.fb qG⟩, va_recv hKc hPc (ci := 3) (q0 := 0) rfl rfl, fun U hU hW => ⟨rfl, by rw [hU], by rw [hU]; exact hPc, va_K.moved hW.alike hKc, hDc.weaken (fun _ _ _ _ => trivial), gv.pass hW hU hS hFc hG⟩⟩ rfl rfl hl.1 rfl (lv_room (Nat.le_of_ble_eq_true rfl)) dX5_pick_29 ⟨Nat.le_of_ble_eq_true rfl, Nat.le_of_ble_eq_true rfl⟩) hS (fun q _ h => hFc q h) hFc (fun r9 u t H1 locs ht hvm hw hB hz1 hk1 hS => ?_)
  obtain rfl := hw
  obtain ⟨hP1, hK1, hD1⟩ := hB
  rw [ht] at hP1
  have hK1 := va_K.moved hvm.symm hK1
  obtain ⟨hP, hD⟩ := va_join (wr := [(h1, .inl (k0, 4, .inr (.inr (.inr (.inr (va_up (va_up (va_up (va_up (fun _ => none) 0 (some ge5)) 1 (some ge5)) 2 (some ge5)) 3 (some ge5))))))), (h0, .inr (9, [.int 0, .ref h1, .ref z0, .ref z1, .int 0, .int 0, .int 0]))]) (w1 := [(q1, .inr (3, [.int 0, .ref gde, .int 0]))]) hP hD [2] [0, 1] rfl rfl (by decide) (by decide) hk1 hFc hP1 hD1
  generalize H1 = H at hP hS ⊢
  have hP : va_P (dC, dI) vwCl [(h1, .inl (k0, 4, .inr (.inr (.inr (.inr (va_up (va_up (va_up (va_up (fun _ => none) 0 (some ge5)) 1 (some ge5)) 2 (some ge5)) 3 (some ge5))))))), (h0, .inr (9, [.int 0, .ref h1, .ref z0, .ref z1, .int 0, .int 0, .int 0])), (q1, .inr (3, [.int 0, .ref gde, .int 0]))] H := hP
  have hD : va_D A [(h1, .inl (k0, 4, .inr (.inr (.inr (.inr (va_up (va_up (va_up (va_up (fun _ => none) 0 (some ge5)) 1 (some ge5)) 2 (some ge5)) 3 (some ge5))))))), (h0, .inr (9, [.int 0, .ref h1, .ref z0, .ref z1, .int 0, .int 0, .int 0])), (q1, .inr (3, [.int 0, .ref gde, .int 0]))] := hD
  refine lv_iconst (v := 1) hx hb dX5_pick_32 (by decide) ?_
  refine lv_isub hx hb dX5_pick_33 ?_
  refine lv_topi (fun y2 ey2 => ?_)
  obtain rfl : y2 = (-1) := ey2.trans (by decide)
  have hPc := hP.sub (ws' := []) [] rfl
  have hDc := hD.sub (ws' := []) [] (by decide) rfl
  have hKc := hK.sub (tys' := []) [] rfl
  have hFc := va_free (wc := []) hD hS hA [] rfl
  refine va_calli (va_runS (As := [.int i1, .int 0, .int (-1)]) (rest := []) ⟨hx, hb, hml, hown, hts⟩ (kx_X5_isIn_20 l dC dI H.size i1 i1_l i1_u) (cwS 3 hts gX5_pick_X5_isIn rfl rfl rfl (by decide +kernel) ⟨Nat.le_of_ble_eq_true rfl, Nat.le_of_ble_eq_true rfl⟩) ⟨fun a U g mk q => by obtain ⟨q0, q1, qP, qK, qD⟩ := q; exact ⟨q0, q1, qP, va_K.moved (u := U) (U := U.calling g mk a) (Vm.Alike.refl U.vm) qK, qD⟩, fun U hU hW => ⟨rfl, by rw [hU], by rw [hU]; exact hPc, va_K.moved hW.alike hKc, hDc.weaken (fun _ _ _ _ => trivial)⟩⟩ rfl rfl hl.1 rfl (lv_room (Nat.le_of_ble_eq_true rfl)) dX5_pick_34 ⟨Nat.le_of_ble_eq_true rfl, Nat.le_of_ble_eq_true rfl⟩) hS (fun q _ h => hFc q h) hFc (fun r9 u t H1 locs ht hvm hw hB hz1 hk1 hS => ?_)
  obtain rfl := hw
  obtain ⟨hP1, hK1, hD1⟩ := hB
  rw [ht] at hP1
  have hK1 := va_K.moved hvm.symm hK1
  obtain ⟨hP, hD⟩ := va_join (wr := [(h1, .inl (k0, 4, .inr (.inr (.inr (.inr (va_up (va_up (va_up (va_up (fun _ => none) 0 (some ge5)) 1 (some ge5)) 2 (some ge5)) 3 (some ge5))))))), (h0, .inr (9, [.int 0, .ref h1, .ref z0, .ref z1, .int 0, .int 0, .int 0])), (q1, .inr (3, [.int 0, .ref gde, .int 0]))]) (w1 := []) hP hD [] [0, 1, 2] rfl rfl (by decide) (by decide) hk1 hFc hP1 hD1
  generalize H1 = H at hP hS ⊢
  have hP : va_P (dC, dI) vwCl [(h1, .inl (k0, 4, .inr (.inr (.inr (.inr (va_up (va_up (va_up (va_up (fun _ => none) 0 (some ge5)) 1 (some ge5)) 2 (some ge5)) 3 (some ge5))))))), (h0, .inr (9, [.int 0, .ref h1, .ref z0, .ref z1, .int 0, .int 0, .int 0])), (q1, .inr (3, [.int 0, .ref gde, .int 0]))] H := hP
  have hD : va_D A [(h1, .inl (k0, 4, .inr (.inr (.inr (.inr (va_up (va_up (va_up (va_up (fun _ => none) 0 (some ge5)) 1 (some ge5)) 2 (some ge5)) 3 (some ge5))))))), (h0, .inr (9, [.int 0, .ref h1, .ref z0, .ref z1, .int 0, .int 0, .int 0])), (q1, .inr (3, [.int 0, .ref gde, .int 0]))] := hD
  refine lv_if_eq (tgt := 66) hx hb dX5_pick_37 (by decide) (fun _ => ?_) (fun c9 => absurd (by decide) c9)
  refine lv_aload_n hx hb dX5_pick_66 rfl (lv_at hl 1 rfl) ?_
  have hPc := hP.sub (ws' := [(h0, .inr (9, [.int 0, .ref h1, .ref z0, .ref z1, .int 0, .int 0, .int 0]))]) [1] rfl
  have hDc := hD.sub (ws' := [(h0, .inr (9, [.int 0, .ref h1, .ref z0, .ref z1, .int 0, .int 0, .int 0]))]) [1] (by decide) rfl
  have hKc := hK.sub (tys' := []) [] rfl
  have hFc := va_free (wc := [(h0, .inr (9, [.int 0, .ref h1, .ref z0, .ref z1, .int 0, .int 0, .int 0]))]) hD hS hA [1] rfl
  refine va_calli (va_runV (As := []) (rest := []) ⟨hx, hb, hml, hown, hts⟩ (kx_X5_refuse_0 l dC dI h0 h1 z0 z1 H.size) (cwV 0 hts gX5_pick_X5_refuse rfl rfl rfl (by decide +kernel) ⟨Nat.le_of_ble_eq_true rfl, Nat.le_of_ble_eq_true rfl⟩) ⟨fun a U g mk q => by obtain ⟨q0, q1, qP, qK, qD⟩ := q; exact ⟨q0, q1, qP, va_K.moved (u := U) (U := U.calling g mk a) (Vm.Alike.refl U.vm) qK, qD⟩, va_recv hKc hPc (ci := 9) (q0 := 0) rfl rfl, fun U hU hW => ⟨rfl, by rw [hU], by rw [hU]; exact hPc, va_K.moved hW.alike hKc, hDc.weaken (fun _ _ _ _ => trivial)⟩⟩ rfl rfl hl.1 rfl (lv_room (Nat.le_of_ble_eq_true rfl)) dX5_pick_67 ⟨Nat.le_of_ble_eq_true rfl, Nat.le_of_ble_eq_true rfl⟩) hS (fun q _ h => hFc q h) hFc (fun r9 u t H1 locs ht hvm hw hB hz1 hk1 hS => ?_)
  obtain rfl := hw
  obtain ⟨hP1, hK1, hD1⟩ := hB
  rw [ht] at hP1
  have hK1 := va_K.moved hvm.symm hK1
  obtain ⟨hP, hD⟩ := va_join (wr := [(h1, .inl (k0, 4, .inr (.inr (.inr (.inr (va_up (va_up (va_up (va_up (fun _ => none) 0 (some ge5)) 1 (some ge5)) 2 (some ge5)) 3 (some ge5))))))), (q1, .inr (3, [.int 0, .ref gde, .int 0]))]) (w1 := [(h0, .inr (9, [.int 0, .ref h1, .ref z0, .ref z1, .int 1, .int 0, .int 0]))]) hP hD [1] [0, 2] rfl rfl (by decide) (by decide) hk1 hFc hP1 hD1
  generalize H1 = H at hP hS ⊢
  have hP : va_P (dC, dI) vwCl [(h1, .inl (k0, 4, .inr (.inr (.inr (.inr (va_up (va_up (va_up (va_up (fun _ => none) 0 (some ge5)) 1 (some ge5)) 2 (some ge5)) 3 (some ge5))))))), (q1, .inr (3, [.int 0, .ref gde, .int 0])), (h0, .inr (9, [.int 0, .ref h1, .ref z0, .ref z1, .int 1, .int 0, .int 0]))] H := hP
  have hD : va_D A [(h1, .inl (k0, 4, .inr (.inr (.inr (.inr (va_up (va_up (va_up (va_up (fun _ => none) 0 (some ge5)) 1 (some ge5)) 2 (some ge5)) 3 (some ge5))))))), (q1, .inr (3, [.int 0, .ref gde, .int 0])), (h0, .inr (9, [.int 0, .ref h1, .ref z0, .ref z1, .int 1, .int 0, .int 0]))] := hD
  have hP := hP.sub (ws' := [(h0, .inr (9, [.int 0, .ref h1, .ref z0, .ref z1, .int 1, .int 0, .int 0])), (h1, .inl (k0, 4, .inr (.inr (.inr (.inr (va_up (va_up (va_up (va_up (fun _ => none) 0 (some ge5)) 1 (some ge5)) 2 (some ge5)) 3 (some ge5))))))), (q1, .inr (3, [.int 0, .ref gde, .int 0]))]) [2, 0, 1] rfl
  have hD := hD.sub (ws' := [(h0, .inr (9, [.int 0, .ref h1, .ref z0, .ref z1, .int 1, .int 0, .int 0])), (h1, .inl (k0, 4, .inr (.inr (.inr (.inr (va_up (va_up (va_up (va_up (fun _ => none) 0 (some ge5)) 1 (some ge5)) 2 (some ge5)) 3 (some ge5))))))), (q1, .inr (3, [.int 0, .ref gde, .int 0]))]) [2, 0, 1] (by decide) rfl
  have hP := hP.sub (ws' := [(h0, .inr (9, [.int 0, .ref h1, .ref z0, .ref z1, .int 1, .int 0, .int 0]))]) [0] rfl
  have hD := hD.sub (ws' := [(h0, .inr (9, [.int 0, .ref h1, .ref z0, .ref z1, .int 1, .int 0, .int 0]))]) [0] (by decide) rfl
  exact W.iret (v := (-9)) hx hb hr (fun t ht hW => ⟨⟨(-9), (), rfl, rfl, q1, by rw [ht]; exact hP, va_K.moved hW.alike hK, hD⟩, hS.F ht⟩) hS.2.2 dX5_pick_70
set_option maxHeartbeats 4000000 in
set_option maxRecDepth 100000 in
theorem kx_X3_unwind_0 (l : Launch) (hst : l.stackTraces = false) (dC : Nat → ClassId) (dI : Nat → Nat → Nat) (ge5 gea gv5 gva gde gic gi0 : Nat) (h0 : Nat) (z0 : Nat) (z1 : Nat) (z2 : Nat) (z3 : Nat) (z4 : Nat) (z5 : Nat) (sz : Nat) (i0 : Int32) (i0_l : ((-2147483648) : Int) ≤ i0.toInt) (i0_u : i0.toInt ≤ ((-1) : Int)) (i1 : Int32) (i1_l : ((-2147483648) : Int) ≤ i1.toInt) (i1_u : i1.toInt ≤ (2147483647 : Int)) (i2 : Int32) (i2_l : ((-2147483648) : Int) ≤ i2.toInt) (i2_u : i2.toInt ≤ (2147483647 : Int)) : vx_Met l yX3_unwind wsX3_unwind ({ frames := 7, cells := 1, slots := 6, locals := 140 }) (va_Pc [.ref h0, .int i0, .int i1, .int i2] (fun U => U.heap.size = sz ∧ va_P (dC, dI) vwCl [(h0, .inr (7, [.ref z0, .ref z1, .ref z2, .ref z3, .ref z4, .ref z5, .int 0, .int 0, .int 0]))] U.heap ∧ va_K (dC, dI) vwCl [] U ∧ va_D (fun _ => True) [(h0, .inr (7, [.ref z0, .ref z1, .ref z2, .ref z3, .ref z4, .ref z5, .int 0, .int 0, .int 0]))] ∧ gv ge5 gea gv5 gva gde gic gi0 (va_A [(h0, .inr (7, [.ref z0, .ref z1, .ref z2, .ref z3, .ref z4, .ref z5, .int 0, .int 0, .int 0]))] sz) U U.heap)) (va_Qi (fun (_ : Int32) (_ : Unit) => False) (fun _ _ => True) (va_A [(h0, .inr (7, [.ref z0, .ref z1, .ref z2, .ref z3, .ref z4, .ref z5, .int 0, .int 0, .int 0]))] sz)) (vx_X (fun _ : Unit => True) (fun (E : String) (_ : Unit) (t : State) => E = "java/lang/IndexOutOfBoundsException" ∧ va_P (dC, dI) vwCl [(h0, .inr (7, [.ref z0, .ref z1, .ref z2, .ref z3, .ref z4, .ref z5, .int 0, .int 0, .int 0]))] t.heap ∧ va_K (dC, dI) vwCl [] t ∧ va_D (va_A [(h0, .inr (7, [.ref z0, .ref z1, .ref z2, .ref z3, .ref z4, .ref z5, .int 0, .int 0, .int 0]))] sz) [(h0, .inr (7, [.ref z0, .ref z1, .ref z2, .ref z3, .ref z4, .ref z5, .int 0, .int 0, .int 0]))]) (va_A [(h0, .inr (7, [.ref z0, .ref z1, .ref z2, .ref z3, .ref z4, .ref z5, .int 0, .int 0, .int 0]))] sz)) 1 6 (va_A [(h0, .inr (7, [.ref z0, .ref z1, .ref z2, .ref z3, .ref z4, .ref z5, .int 0, .int 0, .int 0]))] sz) := by
  refine vx_ofW (cc := cX3_unwind) (maxL := 8) (ret := (some .int)) (by decide) rfl ?_
  intro p e s m args below meth c s₁ B hml ht9 hv
  obtain ⟨rfl, hsz, hP, hK, hD0, hG⟩ := hv
  have hx := B.exec
  have hb := B.bytes
  have hr := B.returns
  have hts := atoms_spec (ws := wsX3_unwind) B.pre
  have hown : s.vm.findClass RX3 = some m.cls := findClass_of_methodNamed B.named
  have hlocks := B.notSynchronized
  subst hsz
  have hD := hD0.self (sz := s.heap.size)
  generalize hAe : va_A [(h0, .inr (7, [.ref z0, .ref z1, .ref z2, .ref z3, .ref z4, .ref z5, .int 0, .int 0, .int 0]))] s.heap.size = A at hD hG ⊢
  obtain ⟨⟨g_AO_Text, g_AO_String, g_AO_Object, g_nm_RX1_20, g_nm_RX0_17, g_nm_RX3_31, g_nm_RX2_44, g_nm_RL_121, g_nf_RL_13, g_nf_RL_47, g_ca_IO, g_ca_IA, g_ca_IS, g_ca_IntObj, g_ca_StrObj, g_de_RT, g_de_EX, g_de_TH, g_nc_IA_IO, g_nc_IS_IO, g_nc_IS_IA⟩, ⟨g_s3, g_s5, g_sa, g_x278, g_x280, g_x282, g_x284, g_x286, g_x180, g_x238, g_x250⟩, ⟨g_o5, g_c5, g_v5, g_t5, g_oa, g_ca, g_va, g_ta, g_zc, g_zd, g_td, g_zf, g_zU, g_zN, g_zh, g_zk, g_tk, g_oi, g_vi⟩⟩ := id hG
  have hA : ∀ q : Nat, s.heap.size ≤ q → A q := fun q h => by rw [← hAe]; exact Or.inr h
  have hS : va_S A s.heap s.heap [] := va_S.rf
  have hP : va_P (dC, dI) vwCl [(h0, .inr (7, [.ref z0, .ref z1, .ref z2, .ref z3, .ref z4, .ref z5, .int 0, .int 0, .int 0]))] s.heap := hP
  have hl := lv_entry ([.ref h0, .int i0, .int i1, .int i2]) (n := 8) (Nat.le_of_ble_eq_true rfl)
  rw [lg_entry_eq]
  generalize (lg_sl ([.ref h0, .int i0, .int i1, .int i2]) ++ List.replicate (8 - (lg_sl ([.ref h0, .int i0, .int i1, .int i2])).length) Slot.unset).toArray = ls at hl ⊢
  have hl : lv_has ls 8 [(0, .ref h0), (1, .int i0), (2, .int i1), (3, .int i2)] := hl
  refine lv_iload_n hx hb dX3_unwind_0 rfl (lv_at hl 1 rfl) ?_
  have hPc := hP.sub (ws' := []) [] rfl
  have hDc := hD.sub (ws' := []) [] (by decide) rfl
  have hKc := hK.sub (tys' := []) [] rfl
  have hFc := va_free (wc := []) hD hS hA [] rfl
  refine vx_callv (vx_runS (As := [.int i0]) (rest := []) ⟨hx, hb, hml, hown, hts⟩ (kx_X3_needRope_5 l hst dC dI ge5 gea gv5 gva gde gic gi0 s.heap.size i0 i0_l i0_u) (cwS 1 hts gX3_unwind_X3_needRope rfl rfl rfl (by decide +kernel) ⟨Nat.le_of_ble_eq_true rfl, Nat.le_of_ble_eq_true rfl⟩) ⟨fun a U g mk q => by obtain ⟨q0, q1, qP, qK, qD, qG⟩ := q; exact ⟨q0, q1, qP, va_K.moved (u := U) (U := U.calling g mk a) (Vm.Alike.refl U.vm) qK, qD, gv.fb qG⟩, fun U hU hW => ⟨rfl, by rw [hU], by rw [hU]; exact hPc, va_K.moved hW.alike hKc, hDc.weaken (fun _ _ _ _ => trivial), gv.pass hW hU hS hFc hG⟩⟩ rfl rfl hl.1 rfl (lv_room (Nat.le_of_ble_eq_true rfl)) dX3_unwind_1 ⟨Nat.le_of_ble_eq_true rfl, Nat.le_of_ble_eq_true rfl⟩) hS (fun q _ h => hFc q h) hFc (fun q _ h => hFc q h) (fun E ce q9 u t H1 locs ht hvm hpx hB hz1 hk1 hS hce hcv hcl => ?_) (fun u t H1 locs ht hvm hw hB hz1 hk1 hS => hw.elim)
  obtain ⟨rfl, hP1, hK1, hD1⟩ := hB
  rw [ht] at hP1
  have hK1 := va_K.moved hvm.symm hK1
  obtain ⟨hP, hD⟩ := va_join (wr := [(h0, .inr (7, [.ref z0, .ref z1, .ref z2, .ref z3, .ref z4, .ref z5, .int 0, .int 0, .int 0]))]) (w1 := []) hP hD [] [0] rfl rfl (by decide) (by decide) hk1 hFc hP1 hD1
  generalize H1 = H at hP hS hce ⊢
  have hP : va_P (dC, dI) vwCl [(h0, .inr (7, [.ref z0, .ref z1, .ref z2, .ref z3, .ref z4, .ref z5, .int 0, .int 0, .int 0]))] H := hP
  have hD : va_D A [(h0, .inr (7, [.ref z0, .ref z1, .ref z2, .ref z3, .ref z4, .ref z5, .int 0, .int 0, .int 0]))] := hD
  exact vx_out (fun x hx9 => (ht9 x hx9).elim) hlocks hce hcv hcl (fun t ht hW => ⟨(), trivial, ⟨rfl, by rw [ht]; exact hP, va_K.moved hW hK, hD⟩, hS.F ht⟩) hS.2.2 (by omega) (by omega)
set_option maxHeartbeats 4000000 in
set_option maxRecDepth 100000 in
theorem kx_L_unwind_0 (l : Launch) (hst : l.stackTraces = false) (dC : Nat → ClassId) (dI : Nat → Nat → Nat) (ge5 gea gv5 gva gde gic gi0 : Nat) (h0 : Nat) (z0 : Nat) (z1 : Nat) (z2 : Nat) (z3 : Nat) (z4 : Nat) (z5 : Nat) (z6 : Nat) (sz : Nat) (i0 : Int32) (i0_l : ((-2147483648) : Int) ≤ i0.toInt) (i0_u : i0.toInt ≤ ((-1) : Int)) (i1 : Int32) (i1_l : ((-2147483648) : Int) ≤ i1.toInt) (i1_u : i1.toInt ≤ (2147483647 : Int)) (i2 : Int32) (i2_l : ((-2147483648) : Int) ≤ i2.toInt) (i2_u : i2.toInt ≤ (2147483647 : Int)) : Met l yL_unwind wsL_unwind ({ frames := 8, cells := 1, slots := 6, locals := 167 }) (va_Pc [.ref h0, .int i0, .int i1, .int i2, .ref z0] (fun U => U.heap.size = sz ∧ va_P (dC, dI) vwCl [(h0, .inr (7, [.ref z1, .ref z2, .ref z3, .ref z4, .ref z5, .ref z6, .int 0, .int 0, .int 0]))] U.heap ∧ va_K (dC, dI) vwCl [] U ∧ va_D (fun _ => True) [(h0, .inr (7, [.ref z1, .ref z2, .ref z3, .ref z4, .ref z5, .ref z6, .int 0, .int 0, .int 0]))] ∧ gv ge5 gea gv5 gva gde gic gi0 (va_A [(h0, .inr (7, [.ref z1, .ref z2, .ref z3, .ref z4, .ref z5, .ref z6, .int 0, .int 0, .int 0]))] sz) U U.heap)) (va_Qi (fun (r : Int32) (_ : Unit) => r = 1) (fun (_ : Unit) (t : State) => va_P (dC, dI) vwCl [(h0, .inr (7, [.ref z1, .ref z2, .ref z3, .ref z4, .ref z5, .ref z6, .int 0, .int 0, .int 0]))] t.heap ∧ va_K (dC, dI) vwCl [] t ∧ va_D (va_A [(h0, .inr (7, [.ref z1, .ref z2, .ref z3, .ref z4, .ref z5, .ref z6, .int 0, .int 0, .int 0]))] sz) [(h0, .inr (7, [.ref z1, .ref z2, .ref z3, .ref z4, .ref z5, .ref z6, .int 0, .int 0, .int 0]))]) (va_A [(h0, .inr (7, [.ref z1, .ref z2, .ref z3, .ref z4, .ref z5, .ref z6, .int 0, .int 0, .int 0]))] sz)) 1 6 (va_A [(h0, .inr (7, [.ref z1, .ref z2, .ref z3, .ref z4, .ref z5, .ref z6, .int 0, .int 0, .int 0]))] sz) := by
  refine kz_ofWH (cc := cL_unwind) (maxL := 6) (ret := (some .int)) (hh := [(0, 13, 16, 19)]) (by decide) rfl ?_
  intro p e s m args below meth c s₁ B hml hv
  obtain ⟨rfl, hsz, hP, hK, hD0, hG⟩ := hv
  have hx := B.exec
  have hb := B.bytes
  have hr := B.returns
  have hts := atoms_spec (ws := wsL_unwind) B.pre
  have hown : s.vm.findClass RL = some m.cls := findClass_of_methodNamed B.named
  have htab := vx_table (x := yL_unwind) B (hts (.codeWith yL_unwind cL_unwind 6 (some .int) [(0, 13, 16, 19)]) (by decide +kernel))
  have hlocks := B.notSynchronized
  subst hsz
  have hD := hD0.self (sz := s.heap.size)
  generalize hAe : va_A [(h0, .inr (7, [.ref z1, .ref z2, .ref z3, .ref z4, .ref z5, .ref z6, .int 0, .int 0, .int 0]))] s.heap.size = A at hD hG ⊢
  obtain ⟨⟨g_AO_Text, g_AO_String, g_AO_Object, g_nm_RX1_20, g_nm_RX0_17, g_nm_RX3_31, g_nm_RX2_44, g_nm_RL_121, g_nf_RL_13, g_nf_RL_47, g_ca_IO, g_ca_IA, g_ca_IS, g_ca_IntObj, g_ca_StrObj, g_de_RT, g_de_EX, g_de_TH, g_nc_IA_IO, g_nc_IS_IO, g_nc_IS_IA⟩, ⟨g_s3, g_s5, g_sa, g_x278, g_x280, g_x282, g_x284, g_x286, g_x180, g_x238, g_x250⟩, ⟨g_o5, g_c5, g_v5, g_t5, g_oa, g_ca, g_va, g_ta, g_zc, g_zd, g_td, g_zf, g_zU, g_zN, g_zh, g_zk, g_tk, g_oi, g_vi⟩⟩ := id hG
  have hA : ∀ q : Nat, s.heap.size ≤ q → A q := fun q h => by rw [← hAe]; exact Or.inr h
  have hS : va_S A s.heap s.heap [] := va_S.rf
  have hP : va_P (dC, dI) vwCl [(h0, .inr (7, [.ref z1, .ref z2, .ref z3, .ref z4, .ref z5, .ref z6, .int 0, .int 0, .int 0]))] s.heap := hP
  have hl := lv_entry ([.ref h0, .int i0, .int i1, .int i2, .ref z0]) (n := 6) (Nat.le_of_ble_eq_true rfl)
  rw [lg_entry_eq]
  generalize (lg_sl ([.ref h0, .int i0, .int i1, .int i2, .ref z0]) ++ List.replicate (6 - (lg_sl ([.ref h0, .int i0, .int i1, .int i2, .ref z0])).length) Slot.unset).toArray = ls at hl ⊢
  have hl : lv_has ls 6 [(0, .ref h0), (1, .int i0), (2, .int i1), (3, .int i2), (4, .ref z0)] := hl
  refine lv_aload hx hb dL_unwind_0 (lv_at hl 4 rfl) ?_
  refine lv_aload_n hx hb dL_unwind_2 rfl (lv_at hl 0 rfl) ?_
  refine lv_iload_n hx hb dL_unwind_3 rfl (lv_at hl 1 rfl) ?_
  refine lv_iload_n hx hb dL_unwind_4 rfl (lv_at hl 2 rfl) ?_
  refine lv_iload_n hx hb dL_unwind_5 rfl (lv_at hl 3 rfl) ?_
  have hPc := hP.sub (ws' := [(h0, .inr (7, [.ref z1, .ref z2, .ref z3, .ref z4, .ref z5, .ref z6, .int 0, .int 0, .int 0]))]) [0] rfl
  have hDc := hD.sub (ws' := [(h0, .inr (7, [.ref z1, .ref z2, .ref z3, .ref z4, .ref z5, .ref z6, .int 0, .int 0, .int 0]))]) [0] (by decide) rfl
  have hKc := hK.sub (tys' := []) [] rfl
  have hFc := va_free (wc := [(h0, .inr (7, [.ref z1, .ref z2, .ref z3, .ref z4, .ref z5, .ref z6, .int 0, .int 0, .int 0]))]) hD hS hA [0] rfl
  refine vx_calli (vx_runV (As := [.int i0, .int i1, .int i2]) (rest := [.ref z0]) ⟨hx, hb, hml, hown, hts⟩ (kx_X3_unwind_0 l hst dC dI ge5 gea gv5 gva gde gic gi0 h0 z1 z2 z3 z4 z5 z6 s.heap.size i0 i0_l i0_u i1 i1_l i1_u i2 i2_l i2_u) (cwV 3 hts gL_unwind_X3_unwind rfl rfl rfl (by decide +kernel) ⟨Nat.le_of_ble_eq_true rfl, Nat.le_of_ble_eq_true rfl⟩) ⟨fun a U g mk q => by obtain ⟨q0, q1, qP, qK, qD, qG⟩ := q; exact ⟨q0, q1, qP, va_K.moved (u := U) (U := U.calling g mk a) (Vm.Alike.refl U.vm) qK, qD, gv.fb qG⟩, va_recv hKc hPc (ci := 7) (q0 := 0) rfl rfl, fun U hU hW => ⟨rfl, by rw [hU], by rw [hU]; exact hPc, va_K.moved hW.alike hKc, hDc.weaken (fun _ _ _ _ => trivial), gv.pass hW hU hS hFc hG⟩⟩ rfl rfl hl.1 rfl (lv_room (Nat.le_of_ble_eq_true rfl)) dL_unwind_6 ⟨Nat.le_of_ble_eq_true rfl, Nat.le_of_ble_eq_true rfl⟩) hS (fun q _ h => hFc q h) hFc (fun q _ h => hFc q h) (fun E ce q9 u t H1 locs ht hvm hpx hB hz1 hk1 hS hce hcv hcl => ?_) (fun r9 u t H1 locs ht hvm hw hB hz1 hk1 hS => hw.elim)
  obtain ⟨rfl, hP1, hK1, hD1⟩ := hB
  rw [ht] at hP1
  have hK1 := va_K.moved hvm.symm hK1
  obtain ⟨hP, hD⟩ := va_join (wr := []) (w1 := [(h0, .inr (7, [.ref z1, .ref z2, .ref z3, .ref z4, .ref z5, .ref z6, .int 0, .int 0, .int 0]))]) hP hD [0] [] rfl rfl (by decide) (by decide) hk1 hFc hP1 hD1
  generalize H1 = H at hP hS hce ⊢
  have hP : va_P (dC, dI) vwCl [(h0, .inr (7, [.ref z1, .ref z2, .ref z3, .ref z4, .ref z5, .ref z6, .int 0, .int 0, .int 0]))] H := hP
  have hD : va_D A [(h0, .inr (7, [.ref z1, .ref z2, .ref z3, .ref z4, .ref z5, .ref z6, .int 0, .int 0, .int 0]))] := hD
  refine vx_catch (own := RL) (name := "java/lang/IndexOutOfBoundsException") hown (tableOf []) ⟨0, 13, 16, 19⟩ (tableOf []) (by rw [htab]; rfl) (fun z hz => nomatch hz) (by decide +kernel) (by decide) (hts (.classLink RL 19 "java/lang/IndexOutOfBoundsException") (by decide +kernel)) (va_Nw.use rfl g_ca_IO) hce hcv hcl ?_
  refine W.eq (g2 := F0 m 16 ls [.ref q9]) rfl ?_
  refine lv_astore (lv' := [(5, .ref q9), (0, .ref h0), (1, .int i0), (2, .int i1), (3, .int i2), (4, .ref z0)]) hx hb dL_unwind_16 hl (by decide) rfl (fun ls hl => ?_)
  refine lv_iconst (v := 1) hx hb dL_unwind_18 (by decide) ?_
  exact W.iret (v := 1) hx hb hr (fun t ht hW => ⟨⟨1, (), rfl, rfl, by rw [ht]; exact hP, va_K.moved hW.alike hK, hD⟩, hS.F ht⟩) hS.2.2 dL_unwind_19
set_option maxHeartbeats 4000000 in
set_option maxRecDepth 100000 in
theorem kx_X5_unwind_0 (l : Launch) (dC : Nat → ClassId) (dI : Nat → Nat → Nat) (h0 : Nat) (z0 : Nat) (z1 : Nat) (z2 : Nat) (sz : Nat) (i0 : Int32) (i0_l : ((-2147483648) : Int) ≤ i0.toInt) (i0_u : i0.toInt ≤ ((-1) : Int)) (i1 : Int32) (i1_l : ((-2147483648) : Int) ≤ i1.toInt) (i1_u : i1.toInt ≤ (2147483647 : Int)) (i2 : Int32) (i2_l : ((-2147483648) : Int) ≤ i2.toInt) (i2_u : i2.toInt ≤ (2147483647 : Int)) : Met l yX5_unwind wsX5_unwind ({ frames := 2, cells := 0, slots := 0, locals := 42 }) (va_Pc [.ref h0, .int i0, .int i1, .int i2] (fun U => U.heap.size = sz ∧ va_P (dC, dI) vwCl [(h0, .inr (9, [.int 0, .ref z0, .ref z1, .ref z2, .int 0, .int 0, .int 0]))] U.heap ∧ va_K (dC, dI) vwCl [] U ∧ va_D (fun _ => True) [(h0, .inr (9, [.int 0, .ref z0, .ref z1, .ref z2, .int 0, .int 0, .int 0]))])) (va_Qi (fun (r : Int32) (_ : Unit) => r = 0) (fun (_ : Unit) (t : State) => va_P (dC, dI) vwCl [(h0, .inr (9, [.int 1, .ref z0, .ref z1, .ref z2, .int 0, .int 0, .int 0]))] t.heap ∧ va_K (dC, dI) vwCl [] t ∧ va_D (va_A [(h0, .inr (9, [.int 0, .ref z0, .ref z1, .ref z2, .int 0, .int 0, .int 0]))] sz) [(h0, .inr (9, [.int 1, .ref z0, .ref z1, .ref z2, .int 0, .int 0, .int 0]))]) (va_A [(h0, .inr (9, [.int 0, .ref z0, .ref z1, .ref z2, .int 0, .int 0, .int 0]))] sz)) 0 0 (va_A [(h0, .inr (9, [.int 0, .ref z0, .ref z1, .ref z2, .int 0, .int 0, .int 0]))] sz) := by
  refine Met.ofW (cc := cX5_unwind) (maxL := 6) (ret := (some .int)) (by decide) rfl ?_
  intro p e s m args below meth c s₁ B hml hv
  obtain ⟨rfl, hsz, hP, hK, hD0⟩ := hv
  have hx := B.exec
  have hb := B.bytes
  have hr := B.returns
  have hts := atoms_spec (ws := wsX5_unwind) B.pre
  have hown : s.vm.findClass RX5 = some m.cls := findClass_of_methodNamed B.named
  have hlocks := B.notSynchronized
  subst hsz
  have hD := hD0.self (sz := s.heap.size)
  generalize hAe : va_A [(h0, .inr (9, [.int 0, .ref z0, .ref z1, .ref z2, .int 0, .int 0, .int 0]))] s.heap.size = A at hD ⊢
  have hA : ∀ q : Nat, s.heap.size ≤ q → A q := fun q h => by rw [← hAe]; exact Or.inr h
  have hS : va_S A s.heap s.heap [] := va_S.rf
  have hP : va_P (dC, dI) vwCl [(h0, .inr (9, [.int 0, .ref z0, .ref z1, .ref z2, .int 0, .int 0, .int 0]))] s.heap := hP
  have hl := lv_entry ([.ref h0, .int i0, .int i1, .int i2]) (n := 6) (Nat.le_of_ble_eq_true rfl)
  rw [lg_entry_eq]
  generalize (lg_sl ([.ref h0, .int i0, .int i1, .int i2]) ++ List.replicate (6 - (lg_sl ([.ref h0, .int i0, .int i1, .int i2])).length) Slot.unset).toArray = ls at hl ⊢
  have hl : lv_has ls 6 [(0, .ref h0), (1, .int i0), (2, .int i1), (3, .int i2)] := hl
  refine lv_aload_n hx hb dX5_unwind_0 rfl (lv_at hl 0 rfl) ?_
  refine lv_iload_n hx hb dX5_unwind_1 rfl (lv_at hl 1 rfl) ?_
  have hPc := hP.sub (ws' := []) [] rfl
  have hDc := hD.sub (ws' := []) [] (by decide) rfl
  have hKc := hK.sub (tys' := []) [] rfl
  have hFc := va_free (wc := []) hD hS hA [] rfl
  refine va_calli (va_runS (As := [.int i0]) (rest := [.ref h0]) ⟨hx, hb, hml, hown, hts⟩ (kx_X5_isNo_0 l dC dI s.heap.size i0 i0_l i0_u) (cwS 1 hts gX5_unwind_X5_isNo rfl rfl rfl (by decide +kernel) ⟨Nat.le_of_ble_eq_true rfl, Nat.le_of_ble_eq_true rfl⟩) ⟨fun a U g mk q => by obtain ⟨q0, q1, qP, qK, qD⟩ := q; exact ⟨q0, q1, qP, va_K.moved (u := U) (U := U.calling g mk a) (Vm.Alike.refl U.vm) qK, qD⟩, fun U hU hW => ⟨rfl, by rw [hU], by rw [hU]; exact hPc, va_K.moved hW.alike hKc, hDc.weaken (fun _ _ _ _ => trivial)⟩⟩ rfl rfl hl.1 rfl (lv_room (Nat.le_of_ble_eq_true rfl)) dX5_unwind_2 ⟨Nat.le_of_ble_eq_true rfl, Nat.le_of_ble_eq_true rfl⟩) hS (fun q _ h => hFc q h) hFc (fun r9 u t H1 locs ht hvm hw hB hz1 hk1 hS => ?_)
  obtain rfl := hw
  obtain ⟨hP1, hK1, hD1⟩ := hB
  rw [ht] at hP1
  have hK1 := va_K.moved hvm.symm hK1
  obtain ⟨hP, hD⟩ := va_join (wr := [(h0, .inr (9, [.int 0, .ref z0, .ref z1, .ref z2, .int 0, .int 0, .int 0]))]) (w1 := []) hP hD [] [0] rfl rfl (by decide) (by decide) hk1 hFc hP1 hD1
  generalize H1 = H at hP hS ⊢
  have hP : va_P (dC, dI) vwCl [(h0, .inr (9, [.int 0, .ref z0, .ref z1, .ref z2, .int 0, .int 0, .int 0]))] H := hP
  have hD : va_D A [(h0, .inr (9, [.int 0, .ref z0, .ref z1, .ref z2, .int 0, .int 0, .int 0]))] := hD
  refine lv_if_ne (tgt := 16) hx hb dX5_unwind_5 (by decide) (fun _ => ?_) (fun c9 => absurd c9 (by decide))
  refine lv_iconst (v := 1) hx hb dX5_unwind_16 (by decide) ?_
  refine lv_goto (tgt := 21) hx hb dX5_unwind_17 (by decide) ?_
  refine lv_iconst (v := 0) hx hb dX5_unwind_21 (by decide) ?_
  refine lv_iconst (v := 0) hx hb dX5_unwind_22 (by decide) ?_
  have hPc := hP.sub (ws' := [(h0, .inr (9, [.int 0, .ref z0, .ref z1, .ref z2, .int 0, .int 0, .int 0]))]) [0] rfl
  have hDc := hD.sub (ws' := [(h0, .inr (9, [.int 0, .ref z0, .ref z1, .ref z2, .int 0, .int 0, .int 0]))]) [0] (by decide) rfl
  have hKc := hK.sub (tys' := []) [] rfl
  have hFc := va_free (wc := [(h0, .inr (9, [.int 0, .ref z0, .ref z1, .ref z2, .int 0, .int 0, .int 0]))]) hD hS hA [0] rfl
  refine va_calli (va_runV (As := [.int 1, .int 0, .int 0]) (rest := []) ⟨hx, hb, hml, hown, hts⟩ (kx_X5_fails_0 l dC dI h0 z0 z1 z2 H.size) (cwV 3 hts gX5_unwind_X5_fails rfl rfl rfl (by decide +kernel) ⟨Nat.le_of_ble_eq_true rfl, Nat.le_of_ble_eq_true rfl⟩) ⟨fun a U g mk q => by obtain ⟨q0, q1, qP, qK, qD⟩ := q; exact ⟨q0, q1, qP, va_K.moved (u := U) (U := U.calling g mk a) (Vm.Alike.refl U.vm) qK, qD⟩, va_recv hKc hPc (ci := 9) (q0 := 0) rfl rfl, fun U hU hW => ⟨rfl, by rw [hU], by rw [hU]; exact hPc, va_K.moved hW.alike hKc, hDc.weaken (fun _ _ _ _ => trivial)⟩⟩ rfl rfl hl.1 rfl (lv_room (Nat.le_of_ble_eq_true rfl)) dX5_unwind_23 ⟨Nat.le_of_ble_eq_true rfl, Nat.le_of_ble_eq_true rfl⟩) hS (fun q _ h => hFc q h) hFc (fun r9 u t H1 locs ht hvm hw hB hz1 hk1 hS => ?_)
  obtain rfl := hw
  obtain ⟨hP1, hK1, hD1⟩ := hB
  rw [ht] at hP1
  have hK1 := va_K.moved hvm.symm hK1
  obtain ⟨hP, hD⟩ := va_join (wr := []) (w1 := [(h0, .inr (9, [.int 1, .ref z0, .ref z1, .ref z2, .int 0, .int 0, .int 0]))]) hP hD [0] [] rfl rfl (by decide) (by decide) hk1 hFc hP1 hD1
  generalize H1 = H at hP hS ⊢
  have hP : va_P (dC, dI) vwCl [(h0, .inr (9, [.int 1, .ref z0, .ref z1, .ref z2, .int 0, .int 0, .int 0]))] H := hP
  have hD : va_D A [(h0, .inr (9, [.int 1, .ref z0, .ref z1, .ref z2, .int 0, .int 0, .int 0]))] := hD
  refine lv_if_eq (tgt := 31) hx hb dX5_unwind_26 (by decide) (fun c9 => absurd c9 (by decide)) (fun _ => ?_)
  refine lv_iconst (v := 0) hx hb dX5_unwind_29 (by decide) ?_
  exact W.iret (v := 0) hx hb hr (fun t ht hW => ⟨⟨0, (), rfl, rfl, by rw [ht]; exact hP, va_K.moved hW.alike hK, hD⟩, hS.F ht⟩) hS.2.2 dX5_unwind_30
set_option maxHeartbeats 4000000 in
set_option maxRecDepth 100000 in
theorem kx_X3_unwind_1 (l : Launch) (hst : l.stackTraces = false) (dC : Nat → ClassId) (dI : Nat → Nat → Nat) (ge5 gea gv5 gva gde gic gi0 : Nat) (h0 : Nat) (z0 : Nat) (z1 : Nat) (z2 : Nat) (z3 : Nat) (z4 : Nat) (z5 : Nat) (sz : Nat) (i0 : Int32) (i0_l : (4 : Int) ≤ i0.toInt) (i0_u : i0.toInt ≤ (2147483647 : Int)) (i1 : Int32) (i1_l : ((-2147483648) : Int) ≤ i1.toInt) (i1_u : i1.toInt ≤ (2147483647 : Int)) (i2 : Int32) (i2_l : ((-2147483648) : Int) ≤ i2.toInt) (i2_u : i2.toInt ≤ (2147483647 : Int)) : vx_Met l yX3_unwind wsX3_unwind ({ frames := 7, cells := 1, slots := 6, locals := 140 }) (va_Pc [.ref h0, .int i0, .int i1, .int i2] (fun U => U.heap.size = sz ∧ va_P (dC, dI) vwCl [(h0, .inr (7, [.ref z0, .ref z1, .ref z2, .ref z3, .ref z4, .ref z5, .int 0, .int 0, .int 0]))] U.heap ∧ va_K (dC, dI) vwCl [] U ∧ va_D (fun _ => True) [(h0, .inr (7, [.ref z0, .ref z1, .ref z2, .ref z3, .ref z4, .ref z5, .int 0, .int 0, .int 0]))] ∧ gv ge5 gea gv5 gva gde gic gi0 (va_A [(h0, .inr (7, [.ref z0, .ref z1, .ref z2, .ref z3, .ref z4, .ref z5, .int 0, .int 0, .int 0]))] sz) U U.heap)) (va_Qi (fun (_ : Int32) (_ : Unit) => False) (fun _ _ => True) (va_A [(h0, .inr (7, [.ref z0, .ref z1, .ref z2, .ref z3, .ref z4, .ref z5, .int 0, .int 0, .int 0]))] sz)) (vx_X (fun _ : Unit => True) (fun (E : String) (_ : Unit) (t : State) => E = "java/lang/IndexOutOfBoundsException" ∧ va_P (dC, dI) vwCl [(h0, .inr (7, [.ref z0, .ref z1, .ref z2, .ref z3, .ref z4, .ref z5, .int 0, .int 0, .int 0]))] t.heap ∧ va_K (dC, dI) vwCl [] t ∧ va_D (va_A [(h0, .inr (7, [.ref z0, .ref z1, .ref z2, .ref z3, .ref z4, .ref z5, .int 0, .int 0, .int 0]))] sz) [(h0, .inr (7, [.ref z0, .ref z1, .ref z2, .ref z3, .ref z4, .ref z5, .int 0, .int 0, .int 0]))]) (va_A [(h0, .inr (7, [.ref z0, .ref z1, .ref z2, .ref z3, .ref z4, .ref z5, .int 0, .int 0, .int 0]))] sz)) 1 6 (va_A [(h0, .inr (7, [.ref z0, .ref z1, .ref z2, .ref z3, .ref z4, .ref z5, .int 0, .int 0, .int 0]))] sz) := by
  refine vx_ofW (cc := cX3_unwind) (maxL := 8) (ret := (some .int)) (by decide) rfl ?_
  intro p e s m args below meth c s₁ B hml ht9 hv
  obtain ⟨rfl, hsz, hP, hK, hD0, hG⟩ := hv
  have hx := B.exec
  have hb := B.bytes
  have hr := B.returns
  have hts := atoms_spec (ws := wsX3_unwind) B.pre
  have hown : s.vm.findClass RX3 = some m.cls := findClass_of_methodNamed B.named
  have hlocks := B.notSynchronized
  subst hsz
  have hD := hD0.self (sz := s.heap.size)
  generalize hAe : va_A [(h0, .inr (7, [.ref z0, .ref z1, .ref z2, .ref z3, .ref z4, .ref z5, .int 0, .int 0, .int 0]))] s.heap.size = A at hD hG ⊢
  obtain ⟨⟨g_AO_Text, g_AO_String, g_AO_Object, g_nm_RX1_20, g_nm_RX0_17, g_nm_RX3_31, g_nm_RX2_44, g_nm_RL_121, g_nf_RL_13, g_nf_RL_47, g_ca_IO, g_ca_IA, g_ca_IS, g_ca_IntObj, g_ca_StrObj, g_de_RT, g_de_EX, g_de_TH, g_nc_IA_IO, g_nc_IS_IO, g_nc_IS_IA⟩, ⟨g_s3, g_s5, g_sa, g_x278, g_x280, g_x282, g_x284, g_x286, g_x180, g_x238, g_x250⟩, ⟨g_o5, g_c5, g_v5, g_t5, g_oa, g_ca, g_va, g_ta, g_zc, g_zd, g_td, g_zf, g_zU, g_zN, g_zh, g_zk, g_tk, g_oi, g_vi⟩⟩ := id hG
  have hA : ∀ q : Nat, s.heap.size ≤ q → A q := fun q h => by rw [← hAe]; exact Or.inr h
  have hS : va_S A s.heap s.heap [] := va_S.rf
  have hP : va_P (dC, dI) vwCl [(h0, .inr (7, [.ref z0, .ref z1, .ref z2, .ref z3, .ref z4, .ref z5, .int 0, .int 0, .int 0]))] s.heap := hP
  have hl := lv_entry ([.ref h0, .int i0, .int i1, .int i2]) (n := 8) (Nat.le_of_ble_eq_true rfl)
  rw [lg_entry_eq]
  generalize (lg_sl ([.ref h0, .int i0, .int i1, .int i2]) ++ List.replicate (8 - (lg_sl ([.ref h0, .int i0, .int i1, .int i2])).length) Slot.unset).toArray = ls at hl ⊢
  have hl : lv_has ls 8 [(0, .ref h0), (1, .int i0), (2, .int i1), (3, .int i2)] := hl
  refine lv_iload_n hx hb dX3_unwind_0 rfl (lv_at hl 1 rfl) ?_
  have hPc := hP.sub (ws' := []) [] rfl
  have hDc := hD.sub (ws' := []) [] (by decide) rfl
  have hKc := hK.sub (tys' := []) [] rfl
  have hFc := va_free (wc := []) hD hS hA [] rfl
  refine vx_callv (vx_runS (As := [.int i0]) (rest := []) ⟨hx, hb, hml, hown, hts⟩ (kx_X3_needRope_6 l hst dC dI ge5 gea gv5 gva gde gic gi0 s.heap.size i0 i0_l i0_u) (cwS 1 hts gX3_unwind_X3_needRope rfl rfl rfl (by decide +kernel) ⟨Nat.le_of_ble_eq_true rfl, Nat.le_of_ble_eq_true rfl⟩) ⟨fun a U g mk q => by obtain ⟨q0, q1, qP, qK, qD, qG⟩ := q; exact ⟨q0, q1, qP, va_K.moved (u := U) (U := U.calling g mk a) (Vm.Alike.refl U.vm) qK, qD, gv.fb qG⟩, fun U hU hW => ⟨rfl, by rw [hU], by rw [hU]; exact hPc, va_K.moved hW.alike hKc, hDc.weaken (fun _ _ _ _ => trivial), gv.pass hW hU hS hFc hG⟩⟩ rfl rfl hl.1 rfl (lv_room (Nat.le_of_ble_eq_true rfl)) dX3_unwind_1 ⟨Nat.le_of_ble_eq_true rfl, Nat.le_of_ble_eq_true rfl⟩) hS (fun q _ h => hFc q h) hFc (fun q _ h => hFc q h) (fun E ce q9 u t H1 locs ht hvm hpx hB hz1 hk1 hS hce hcv hcl => ?_) (fun u t H1 locs ht hvm hw hB hz1 hk1 hS => hw.elim)
  obtain ⟨rfl, hP1, hK1, hD1⟩ := hB
  rw [ht] at hP1
  have hK1 := va_K.moved hvm.symm hK1
  obtain ⟨hP, hD⟩ := va_join (wr := [(h0, .inr (7, [.ref z0, .ref z1, .ref z2, .ref z3, .ref z4, .ref z5, .int 0, .int 0, .int 0]))]) (w1 := []) hP hD [] [0] rfl rfl (by decide) (by decide) hk1 hFc hP1 hD1
  generalize H1 = H at hP hS hce ⊢
  have hP : va_P (dC, dI) vwCl [(h0, .inr (7, [.ref z0, .ref z1, .ref z2, .ref z3, .ref z4, .ref z5, .int 0, .int 0, .int 0]))] H := hP
  have hD : va_D A [(h0, .inr (7, [.ref z0, .ref z1, .ref z2, .ref z3, .ref z4, .ref z5, .int 0, .int 0, .int 0]))] := hD
  exact vx_out (fun x hx9 => (ht9 x hx9).elim) hlocks hce hcv hcl (fun t ht hW => ⟨(), trivial, ⟨rfl, by rw [ht]; exact hP, va_K.moved hW hK, hD⟩, hS.F ht⟩) hS.2.2 (by omega) (by omega)
set_option maxHeartbeats 4000000 in
set_option maxRecDepth 100000 in
theorem kx_L_unwind_1 (l : Launch) (hst : l.stackTraces = false) (dC : Nat → ClassId) (dI : Nat → Nat → Nat) (ge5 gea gv5 gva gde gic gi0 : Nat) (h0 : Nat) (z0 : Nat) (z1 : Nat) (z2 : Nat) (z3 : Nat) (z4 : Nat) (z5 : Nat) (z6 : Nat) (sz : Nat) (i0 : Int32) (i0_l : (4 : Int) ≤ i0.toInt) (i0_u : i0.toInt ≤ (2147483647 : Int)) (i1 : Int32) (i1_l : ((-2147483648) : Int) ≤ i1.toInt) (i1_u : i1.toInt ≤ (2147483647 : Int)) (i2 : Int32) (i2_l : ((-2147483648) : Int) ≤ i2.toInt) (i2_u : i2.toInt ≤ (2147483647 : Int)) : Met l yL_unwind wsL_unwind ({ frames := 8, cells := 1, slots := 6, locals := 167 }) (va_Pc [.ref h0, .int i0, .int i1, .int i2, .ref z0] (fun U => U.heap.size = sz ∧ va_P (dC, dI) vwCl [(h0, .inr (7, [.ref z1, .ref z2, .ref z3, .ref z4, .ref z5, .ref z6, .int 0, .int 0, .int 0]))] U.heap ∧ va_K (dC, dI) vwCl [] U ∧ va_D (fun _ => True) [(h0, .inr (7, [.ref z1, .ref z2, .ref z3, .ref z4, .ref z5, .ref z6, .int 0, .int 0, .int 0]))] ∧ gv ge5 gea gv5 gva gde gic gi0 (va_A [(h0, .inr (7, [.ref z1, .ref z2, .ref z3, .ref z4, .ref z5, .ref z6, .int 0, .int 0, .int 0]))] sz) U U.heap)) (va_Qi (fun (r : Int32) (_ : Unit) => r = 1) (fun (_ : Unit) (t : State) => va_P (dC, dI) vwCl [(h0, .inr (7, [.ref z1, .ref z2, .ref z3, .ref z4, .ref z5, .ref z6, .int 0, .int 0, .int 0]))] t.heap ∧ va_K (dC, dI) vwCl [] t ∧ va_D (va_A [(h0, .inr (7, [.ref z1, .ref z2, .ref z3, .ref z4, .ref z5, .ref z6, .int 0, .int 0, .int 0]))] sz) [(h0, .inr (7, [.ref z1, .ref z2, .ref z3, .ref z4, .ref z5, .ref z6, .int 0, .int 0, .int 0]))]) (va_A [(h0, .inr (7, [.ref z1, .ref z2, .ref z3, .ref z4, .ref z5, .ref z6, .int 0, .int 0, .int 0]))] sz)) 1 6 (va_A [(h0, .inr (7, [.ref z1, .ref z2, .ref z3, .ref z4, .ref z5, .ref z6, .int 0, .int 0, .int 0]))] sz) := by
  refine kz_ofWH (cc := cL_unwind) (maxL := 6) (ret := (some .int)) (hh := [(0, 13, 16, 19)]) (by decide) rfl ?_
  intro p e s m args below meth c s₁ B hml hv
  obtain ⟨rfl, hsz, hP, hK, hD0, hG⟩ := hv
  have hx := B.exec
  have hb := B.bytes
  have hr := B.returns
  have hts := atoms_spec (ws := wsL_unwind) B.pre
  have hown : s.vm.findClass RL = some m.cls := findClass_of_methodNamed B.named
  have htab := vx_table (x := yL_unwind) B (hts (.codeWith yL_unwind cL_unwind 6 (some .int) [(0, 13, 16, 19)]) (by decide +kernel))
  have hlocks := B.notSynchronized
  subst hsz
  have hD := hD0.self (sz := s.heap.size)
  generalize hAe : va_A [(h0, .inr (7, [.ref z1, .ref z2, .ref z3, .ref z4, .ref z5, .ref z6, .int 0, .int 0, .int 0]))] s.heap.size = A at hD hG ⊢
  obtain ⟨⟨g_AO_Text, g_AO_String, g_AO_Object, g_nm_RX1_20, g_nm_RX0_17, g_nm_RX3_31, g_nm_RX2_44, g_nm_RL_121, g_nf_RL_13, g_nf_RL_47, g_ca_IO, g_ca_IA, g_ca_IS, g_ca_IntObj, g_ca_StrObj, g_de_RT, g_de_EX, g_de_TH, g_nc_IA_IO, g_nc_IS_IO, g_nc_IS_IA⟩, ⟨g_s3, g_s5, g_sa, g_x278, g_x280, g_x282, g_x284, g_x286, g_x180, g_x238, g_x250⟩, ⟨g_o5, g_c5, g_v5, g_t5, g_oa, g_ca, g_va, g_ta, g_zc, g_zd, g_td, g_zf, g_zU, g_zN, g_zh, g_zk, g_tk, g_oi, g_vi⟩⟩ := id hG
  have hA : ∀ q : Nat, s.heap.size ≤ q → A q := fun q h => by rw [← hAe]; exact Or.inr h
  have hS : va_S A s.heap s.heap [] := va_S.rf
  have hP : va_P (dC, dI) vwCl [(h0, .inr (7, [.ref z1, .ref z2, .ref z3, .ref z4, .ref z5, .ref z6, .int 0, .int 0, .int 0]))] s.heap := hP
  have hl := lv_entry ([.ref h0, .int i0, .int i1, .int i2, .ref z0]) (n := 6) (Nat.le_of_ble_eq_true rfl)
  rw [lg_entry_eq]
  generalize (lg_sl ([.ref h0, .int i0, .int i1, .int i2, .ref z0]) ++ List.replicate (6 - (lg_sl ([.ref h0, .int i0, .int i1, .int i2, .ref z0])).length) Slot.unset).toArray = ls at hl ⊢
  have hl : lv_has ls 6 [(0, .ref h0), (1, .int i0), (2, .int i1), (3, .int i2), (4, .ref z0)] := hl
  refine lv_aload hx hb dL_unwind_0 (lv_at hl 4 rfl) ?_
  refine lv_aload_n hx hb dL_unwind_2 rfl (lv_at hl 0 rfl) ?_
  refine lv_iload_n hx hb dL_unwind_3 rfl (lv_at hl 1 rfl) ?_
  refine lv_iload_n hx hb dL_unwind_4 rfl (lv_at hl 2 rfl) ?_
  refine lv_iload_n hx hb dL_unwind_5 rfl (lv_at hl 3 rfl) ?_
  have hPc := hP.sub (ws' := [(h0, .inr (7, [.ref z1, .ref z2, .ref z3, .ref z4, .ref z5, .ref z6, .int 0, .int 0, .int 0]))]) [0] rfl
  have hDc := hD.sub (ws' := [(h0, .inr (7, [.ref z1, .ref z2, .ref z3, .ref z4, .ref z5, .ref z6, .int 0, .int 0, .int 0]))]) [0] (by decide) rfl
  have hKc := hK.sub (tys' := []) [] rfl
  have hFc := va_free (wc := [(h0, .inr (7, [.ref z1, .ref z2, .ref z3, .ref z4, .ref z5, .ref z6, .int 0, .int 0, .int 0]))]) hD hS hA [0] rfl
  refine vx_calli (vx_runV (As := [.int i0, .int i1, .int i2]) (rest := [.ref z0]) ⟨hx, hb, hml, hown, hts⟩ (kx_X3_unwind_1 l hst dC dI ge5 gea gv5 gva gde gic gi0 h0 z1 z2 z3 z4 z5 z6 s.heap.size i0 i0_l i0_u i1 i1_l i1_u i2 i2_l i2_u) (cwV 3 hts gL_unwind_X3_unwind rfl rfl rfl (by decide +kernel) ⟨Nat.le_of_ble_eq_true rfl, Nat.le_of_ble_eq_true rfl⟩) ⟨fun a U g mk q => by obtain ⟨q0, q1, qP, qK, qD, qG⟩ := q; exact ⟨q0, q1, qP, va_K.moved (u := U) (U := U.calling g mk a) (Vm.Alike.refl U.vm) qK, qD, gv.fb qG⟩, va_recv hKc hPc (ci := 7) (q0 := 0) rfl rfl, fun U hU hW => ⟨rfl, by rw [hU], by rw [hU]; exact hPc, va_K.moved hW.alike hKc, hDc.weaken (fun _ _ _ _ => trivial), gv.pass hW hU hS hFc hG⟩⟩ rfl rfl hl.1 rfl (lv_room (Nat.le_of_ble_eq_true rfl)) dL_unwind_6 ⟨Nat.le_of_ble_eq_true rfl, Nat.le_of_ble_eq_true rfl⟩) hS (fun q _ h => hFc q h) hFc (fun q _ h => hFc q h) (fun E ce q9 u t H1 locs ht hvm hpx hB hz1 hk1 hS hce hcv hcl => ?_) (fun r9 u t H1 locs ht hvm hw hB hz1 hk1 hS => hw.elim)
  obtain ⟨rfl, hP1, hK1, hD1⟩ := hB
  rw [ht] at hP1
  have hK1 := va_K.moved hvm.symm hK1
  obtain ⟨hP, hD⟩ := va_join (wr := []) (w1 := [(h0, .inr (7, [.ref z1, .ref z2, .ref z3, .ref z4, .ref z5, .ref z6, .int 0, .int 0, .int 0]))]) hP hD [0] [] rfl rfl (by decide) (by decide) hk1 hFc hP1 hD1
  generalize H1 = H at hP hS hce ⊢
  have hP : va_P (dC, dI) vwCl [(h0, .inr (7, [.ref z1, .ref z2, .ref z3, .ref z4, .ref z5, .ref z6, .int 0, .int 0, .int 0]))] H := hP
  have hD : va_D A [(h0, .inr (7, [.ref z1, .ref z2, .ref z3, .ref z4, .ref z5, .ref z6, .int 0, .int 0, .int 0]))] := hD
  refine vx_catch (own := RL) (name := "java/lang/IndexOutOfBoundsException") hown (tableOf []) ⟨0, 13, 16, 19⟩ (tableOf []) (by rw [htab]; rfl) (fun z hz => nomatch hz) (by decide +kernel) (by decide) (hts (.classLink RL 19 "java/lang/IndexOutOfBoundsException") (by decide +kernel)) (va_Nw.use rfl g_ca_IO) hce hcv hcl ?_
  refine W.eq (g2 := F0 m 16 ls [.ref q9]) rfl ?_
  refine lv_astore (lv' := [(5, .ref q9), (0, .ref h0), (1, .int i0), (2, .int i1), (3, .int i2), (4, .ref z0)]) hx hb dL_unwind_16 hl (by decide) rfl (fun ls hl => ?_)
  refine lv_iconst (v := 1) hx hb dL_unwind_18 (by decide) ?_
  exact W.iret (v := 1) hx hb hr (fun t ht hW => ⟨⟨1, (), rfl, rfl, by rw [ht]; exact hP, va_K.moved hW.alike hK, hD⟩, hS.F ht⟩) hS.2.2 dL_unwind_19
set_option maxHeartbeats 4000000 in
set_option maxRecDepth 100000 in
theorem kx_X5_unwind_1 (l : Launch) (dC : Nat → ClassId) (dI : Nat → Nat → Nat) (h0 : Nat) (z0 : Nat) (z1 : Nat) (z2 : Nat) (sz : Nat) (i0 : Int32) (i0_l : (4 : Int) ≤ i0.toInt) (i0_u : i0.toInt ≤ (2147483647 : Int)) (i1 : Int32) (i1_l : ((-2147483648) : Int) ≤ i1.toInt) (i1_u : i1.toInt ≤ (2147483647 : Int)) (i2 : Int32) (i2_l : ((-2147483648) : Int) ≤ i2.toInt) (i2_u : i2.toInt ≤ (2147483647 : Int)) : Met l yX5_unwind wsX5_unwind ({ frames := 2, cells := 0, slots := 0, locals := 42 }) (va_Pc [.ref h0, .int i0, .int i1, .int i2] (fun U => U.heap.size = sz ∧ va_P (dC, dI) vwCl [(h0, .inr (9, [.int 0, .ref z0, .ref z1, .ref z2, .int 0, .int 0, .int 0]))] U.heap ∧ va_K (dC, dI) vwCl [] U ∧ va_D (fun _ => True) [(h0, .inr (9, [.int 0, .ref z0, .ref z1, .ref z2, .int 0, .int 0, .int 0]))])) (va_Qi (fun (r : Int32) (_ : Unit) => r = 0) (fun (_ : Unit) (t : State) => va_P (dC, dI) vwCl [(h0, .inr (9, [.int 1, .ref z0, .ref z1, .ref z2, .int 0, .int 0, .int 0]))] t.heap ∧ va_K (dC, dI) vwCl [] t ∧ va_D (va_A [(h0, .inr (9, [.int 0, .ref z0, .ref z1, .ref z2, .int 0, .int 0, .int 0]))] sz) [(h0, .inr (9, [.int 1, .ref z0, .ref z1, .ref z2, .int 0, .int 0, .int 0]))]) (va_A [(h0, .inr (9, [.int 0, .ref z0, .ref z1, .ref z2, .int 0, .int 0, .int 0]))] sz)) 0 0 (va_A [(h0, .inr (9, [.int 0, .ref z0, .ref z1, .ref z2, .int 0, .int 0, .int 0]))] sz) := by
  refine Met.ofW (cc := cX5_unwind) (maxL := 6) (ret := (some .int)) (by decide) rfl ?_
  intro p e s m args below meth c s₁ B hml hv
  obtain ⟨rfl, hsz, hP, hK, hD0⟩ := hv
  have hx := B.exec
  have hb := B.bytes
  have hr := B.returns
  have hts := atoms_spec (ws := wsX5_unwind) B.pre
  have hown : s.vm.findClass RX5 = some m.cls := findClass_of_methodNamed B.named
  have hlocks := B.notSynchronized
  subst hsz
  have hD := hD0.self (sz := s.heap.size)
  generalize hAe : va_A [(h0, .inr (9, [.int 0, .ref z0, .ref z1, .ref z2, .int 0, .int 0, .int 0]))] s.heap.size = A at hD ⊢
  have hA : ∀ q : Nat, s.heap.size ≤ q → A q := fun q h => by rw [← hAe]; exact Or.inr h
  have hS : va_S A s.heap s.heap [] := va_S.rf
  have hP : va_P (dC, dI) vwCl [(h0, .inr (9, [.int 0, .ref z0, .ref z1, .ref z2, .int 0, .int 0, .int 0]))] s.heap := hP
  have hl := lv_entry ([.ref h0, .int i0, .int i1, .int i2]) (n := 6) (Nat.le_of_ble_eq_true rfl)
  rw [lg_entry_eq]
  generalize (lg_sl ([.ref h0, .int i0, .int i1, .int i2]) ++ List.replicate (6 - (lg_sl ([.ref h0, .int i0, .int i1, .int i2])).length) Slot.unset).toArray = ls at hl ⊢
  have hl : lv_has ls 6 [(0, .ref h0), (1, .int i0), (2, .int i1), (3, .int i2)] := hl
  refine lv_aload_n hx hb dX5_unwind_0 rfl (lv_at hl 0 rfl) ?_
  refine lv_iload_n hx hb dX5_unwind_1 rfl (lv_at hl 1 rfl) ?_
  have hPc := hP.sub (ws' := []) [] rfl
  have hDc := hD.sub (ws' := []) [] (by decide) rfl
  have hKc := hK.sub (tys' := []) [] rfl
  have hFc := va_free (wc := []) hD hS hA [] rfl
  refine va_calli (va_runS (As := [.int i0]) (rest := [.ref h0]) ⟨hx, hb, hml, hown, hts⟩ (kx_X5_isNo_2 l dC dI s.heap.size i0 i0_l i0_u) (cwS 1 hts gX5_unwind_X5_isNo rfl rfl rfl (by decide +kernel) ⟨Nat.le_of_ble_eq_true rfl, Nat.le_of_ble_eq_true rfl⟩) ⟨fun a U g mk q => by obtain ⟨q0, q1, qP, qK, qD⟩ := q; exact ⟨q0, q1, qP, va_K.moved (u := U) (U := U.calling g mk a) (Vm.Alike.refl U.vm) qK, qD⟩, fun U hU hW => ⟨rfl, by rw [hU], by rw [hU]; exact hPc, va_K.moved hW.alike hKc, hDc.weaken (fun _ _ _ _ => trivial)⟩⟩ rfl rfl hl.1 rfl (lv_room (Nat.le_of_ble_eq_true rfl)) dX5_unwind_2 ⟨Nat.le_of_ble_eq_true rfl, Nat.le_of_ble_eq_true rfl⟩) hS (fun q _ h => hFc q h) hFc (fun r9 u t H1 locs ht hvm hw hB hz1 hk1 hS => ?_)
  obtain rfl := hw
  obtain ⟨hP1, hK1, hD1⟩ := hB
  rw [ht] at hP1
  have hK1 := va_K.moved hvm.symm hK1
  obtain ⟨hP, hD⟩ := va_join (wr := [(h0, .inr (9, [.int 0, .ref z0, .ref z1, .ref z2, .int 0, .int 0, .int 0]))]) (w1 := []) hP hD [] [0] rfl rfl (by decide) (by decide) hk1 hFc hP1 hD1
  generalize H1 = H at hP hS ⊢
  have hP : va_P (dC, dI) vwCl [(h0, .inr (9, [.int 0, .ref z0, .ref z1, .ref z2, .int 0, .int 0, .int 0]))] H := hP
  have hD : va_D A [(h0, .inr (9, [.int 0, .ref z0, .ref z1, .ref z2, .int 0, .int 0, .int 0]))] := hD
  refine lv_if_ne (tgt := 16) hx hb dX5_unwind_5 (by decide) (fun _ => ?_) (fun c9 => absurd c9 (by decide))
  refine lv_iconst (v := 1) hx hb dX5_unwind_16 (by decide) ?_
  refine lv_goto (tgt := 21) hx hb dX5_unwind_17 (by decide) ?_
  refine lv_iconst (v := 0) hx hb dX5_unwind_21 (by decide) ?_
  refine lv_iconst (v := 0) hx hb dX5_unwind_22 (by decide) ?_
  have hPc := hP.sub (ws' := [(h0, .inr (9, [.int 0, .ref z0, .ref z1, .ref z2, .int 0, .int 0, .int 0]))]) [0] rfl
  have hDc := hD.sub (ws' := [(h0, .inr (9, [.int 0, .ref z0, .ref z1, .ref z2, .int 0, .int 0, .int 0]))]) [0] (by decide) rfl
  have hKc := hK.sub (tys' := []) [] rfl
  have hFc := va_free (wc := [(h0, .inr (9, [.int 0, .ref z0, .ref z1, .ref z2, .int 0, .int 0, .int 0]))]) hD hS hA [0] rfl
  refine va_calli (va_runV (As := [.int 1, .int 0, .int 0]) (rest := []) ⟨hx, hb, hml, hown, hts⟩ (kx_X5_fails_0 l dC dI h0 z0 z1 z2 H.size) (cwV 3 hts gX5_unwind_X5_fails rfl rfl rfl (by decide +kernel) ⟨Nat.le_of_ble_eq_true rfl, Nat.le_of_ble_eq_true rfl⟩) ⟨fun a U g mk q => by obtain ⟨q0, q1, qP, qK, qD⟩ := q; exact ⟨q0, q1, qP, va_K.moved (u := U) (U := U.calling g mk a) (Vm.Alike.refl U.vm) qK, qD⟩, va_recv hKc hPc (ci := 9) (q0 := 0) rfl rfl, fun U hU hW => ⟨rfl, by rw [hU], by rw [hU]; exact hPc, va_K.moved hW.alike hKc, hDc.weaken (fun _ _ _ _ => trivial)⟩⟩ rfl rfl hl.1 rfl (lv_room (Nat.le_of_ble_eq_true rfl)) dX5_unwind_23 ⟨Nat.le_of_ble_eq_true rfl, Nat.le_of_ble_eq_true rfl⟩) hS (fun q _ h => hFc q h) hFc (fun r9 u t H1 locs ht hvm hw hB hz1 hk1 hS => ?_)
  obtain rfl := hw
  obtain ⟨hP1, hK1, hD1⟩ := hB
  rw [ht] at hP1
  have hK1 := va_K.moved hvm.symm hK1
  obtain ⟨hP, hD⟩ := va_join (wr := []) (w1 := [(h0, .inr (9, [.int 1, .ref z0, .ref z1, .ref z2, .int 0, .int 0, .int 0]))]) hP hD [0] [] rfl rfl (by decide) (by decide) hk1 hFc hP1 hD1
  generalize H1 = H at hP hS ⊢
  have hP : va_P (dC, dI) vwCl [(h0, .inr (9, [.int 1, .ref z0, .ref z1, .ref z2, .int 0, .int 0, .int 0]))] H := hP
  have hD : va_D A [(h0, .inr (9, [.int 1, .ref z0, .ref z1, .ref z2, .int 0, .int 0, .int 0]))] := hD
  refine lv_if_eq (tgt := 31) hx hb dX5_unwind_26 (by decide) (fun c9 => absurd c9 (by decide)) (fun _ => ?_)
  refine lv_iconst (v := 0) hx hb dX5_unwind_29 (by decide) ?_
  exact W.iret (v := 0) hx hb hr (fun t ht hW => ⟨⟨0, (), rfl, rfl, by rw [ht]; exact hP, va_K.moved hW.alike hK, hD⟩, hS.F ht⟩) hS.2.2 dX5_unwind_30
set_option maxHeartbeats 4000000 in
set_option maxRecDepth 100000 in
theorem kx_X3_unwind_2 (l : Launch) (hst : l.stackTraces = false) (dC : Nat → ClassId) (dI : Nat → Nat → Nat) (ge5 gea gv5 gva gde gic gi0 : Nat) (h0 : Nat) (z0 : Nat) (z1 : Nat) (z2 : Nat) (z3 : Nat) (z4 : Nat) (z5 : Nat) (sz : Nat) (i0 : Int32) (i0_l : (0 : Int) ≤ i0.toInt) (i0_u : i0.toInt ≤ (3 : Int)) (i1 : Int32) (i1_l : ((-2147483648) : Int) ≤ i1.toInt) (i1_u : i1.toInt ≤ ((-1) : Int)) (i2 : Int32) (i2_l : ((-2147483648) : Int) ≤ i2.toInt) (i2_u : i2.toInt ≤ (2147483647 : Int)) : vx_Met l yX3_unwind wsX3_unwind ({ frames := 7, cells := 1, slots := 6, locals := 141 }) (va_Pc [.ref h0, .int i0, .int i1, .int i2] (fun U => U.heap.size = sz ∧ va_P (dC, dI) vwCl [(h0, .inr (7, [.ref z0, .ref z1, .ref z2, .ref z3, .ref z4, .ref z5, .int 0, .int 0, .int 0]))] U.heap ∧ va_K (dC, dI) vwCl [] U ∧ va_D (fun _ => True) [(h0, .inr (7, [.ref z0, .ref z1, .ref z2, .ref z3, .ref z4, .ref z5, .int 0, .int 0, .int 0]))] ∧ gv ge5 gea gv5 gva gde gic gi0 (va_A [(h0, .inr (7, [.ref z0, .ref z1, .ref z2, .ref z3, .ref z4, .ref z5, .int 0, .int 0, .int 0]))] sz) U U.heap)) (va_Qi (fun (_ : Int32) (_ : Unit) => False) (fun _ _ => True) (va_A [(h0, .inr (7, [.ref z0, .ref z1, .ref z2, .ref z3, .ref z4, .ref z5, .int 0, .int 0, .int 0]))] sz)) (vx_X (fun _ : Unit => True) (fun (E : String) (_ : Unit) (t : State) => E = "java/lang/IndexOutOfBoundsException" ∧ va_P (dC, dI) vwCl [(h0, .inr (7, [.ref z0, .ref z1, .ref z2, .ref z3, .ref z4, .ref z5, .int 0, .int 0, .int 0]))] t.heap ∧ va_K (dC, dI) vwCl [] t ∧ va_D (va_A [(h0, .inr (7, [.ref z0, .ref z1, .ref z2, .ref z3, .ref z4, .ref z5, .int 0, .int 0, .int 0]))] sz) [(h0, .inr (7, [.ref z0, .ref z1, .ref z2, .ref z3, .ref z4, .ref z5, .int 0, .int 0, .int 0]))]) (va_A [(h0, .inr (7, [.ref z0, .ref z1, .ref z2, .ref z3, .ref z4, .ref z5, .int 0, .int 0, .int 0]))] sz)) 1 6 (va_A [(h0, .inr (7, [.ref z0, .ref z1, .ref z2, .ref z3, .ref z4, .ref z5, .int 0, .int 0, .int 0]))] sz) := by
  refine vx_ofW (cc := cX3_unwind) (maxL := 8) (ret := (some .int)) (by decide) rfl ?_
  intro p e s m args below meth c s₁ B hml ht9 hv
  obtain ⟨rfl, hsz, hP, hK, hD0, hG⟩ := hv
  have hx := B.exec
  have hb := B.bytes
  have hr := B.returns
  have hts := atoms_spec (ws := wsX3_unwind) B.pre
  have hown : s.vm.findClass RX3 = some m.cls := findClass_of_methodNamed B.named
  have hlocks := B.notSynchronized
  subst hsz
  have hD := hD0.self (sz := s.heap.size)
  generalize hAe : va_A [(h0, .inr (7, [.ref z0, .ref z1, .ref z2, .ref z3, .ref z4, .ref z5, .int 0, .int 0, .int 0]))] s.heap.size = A at hD hG ⊢
  obtain ⟨⟨g_AO_Text, g_AO_String, g_AO_Object, g_nm_RX1_20, g_nm_RX0_17, g_nm_RX3_31, g_nm_RX2_44, g_nm_RL_121, g_nf_RL_13, g_nf_RL_47, g_ca_IO, g_ca_IA, g_ca_IS, g_ca_IntObj, g_ca_StrObj, g_de_RT, g_de_EX, g_de_TH, g_nc_IA_IO, g_nc_IS_IO, g_nc_IS_IA⟩, ⟨g_s3, g_s5, g_sa, g_x278, g_x280, g_x282, g_x284, g_x286, g_x180, g_x238, g_x250⟩, ⟨g_o5, g_c5, g_v5, g_t5, g_oa, g_ca, g_va, g_ta, g_zc, g_zd, g_td, g_zf, g_zU, g_zN, g_zh, g_zk, g_tk, g_oi, g_vi⟩⟩ := id hG
  have hA : ∀ q : Nat, s.heap.size ≤ q → A q := fun q h => by rw [← hAe]; exact Or.inr h
  have hS : va_S A s.heap s.heap [] := va_S.rf
  have hP : va_P (dC, dI) vwCl [(h0, .inr (7, [.ref z0, .ref z1, .ref z2, .ref z3, .ref z4, .ref z5, .int 0, .int 0, .int 0]))] s.heap := hP
  have hl := lv_entry ([.ref h0, .int i0, .int i1, .int i2]) (n := 8) (Nat.le_of_ble_eq_true rfl)
  rw [lg_entry_eq]
  generalize (lg_sl ([.ref h0, .int i0, .int i1, .int i2]) ++ List.replicate (8 - (lg_sl ([.ref h0, .int i0, .int i1, .int i2])).length) Slot.unset).toArray = ls at hl ⊢
  have hl : lv_has ls 8 [(0, .ref h0), (1, .int i0), (2, .int i1), (3, .int i2)] := hl
  refine lv_iload_n hx hb dX3_unwind_0 rfl (lv_at hl 1 rfl) ?_
  have hPc := hP.sub (ws' := []) [] rfl
  have hDc := hD.sub (ws' := []) [] (by decide) rfl
  have hKc := hK.sub (tys' := []) [] rfl
  have hFc := va_free (wc := []) hD hS hA [] rfl
  refine va_callv (va_runS (As := [.int i0]) (rest := []) ⟨hx, hb, hml, hown, hts⟩ (kx_X3_needRope_4 l dC dI s.heap.size i0 i0_l i0_u) (cwS 1 hts gX3_unwind_X3_needRope rfl rfl rfl (by decide +kernel) ⟨Nat.le_of_ble_eq_true rfl, Nat.le_of_ble_eq_true rfl⟩) ⟨fun a U g mk q => by obtain ⟨q0, q1, qP, qK, qD⟩ := q; exact ⟨q0, q1, qP, va_K.moved (u := U) (U := U.calling g mk a) (Vm.Alike.refl U.vm) qK, qD⟩, fun U hU hW => ⟨rfl, by rw [hU], by rw [hU]; exact hPc, va_K.moved hW.alike hKc, hDc.weaken (fun _ _ _ _ => trivial)⟩⟩ rfl rfl hl.1 rfl (lv_room (Nat.le_of_ble_eq_true rfl)) dX3_unwind_1 ⟨Nat.le_of_ble_eq_true rfl, Nat.le_of_ble_eq_true rfl⟩) hS (fun q _ h => hFc q h) hFc (fun u t H1 locs ht hvm hw hB hz1 hk1 hS => ?_)
  obtain ⟨hP1, hK1, hD1⟩ := hB
  rw [ht] at hP1
  have hK1 := va_K.moved hvm.symm hK1
  obtain ⟨hP, hD⟩ := va_join (wr := [(h0, .inr (7, [.ref z0, .ref z1, .ref z2, .ref z3, .ref z4, .ref z5, .int 0, .int 0, .int 0]))]) (w1 := []) hP hD [] [0] rfl rfl (by decide) (by decide) hk1 hFc hP1 hD1
  generalize H1 = H at hP hS ⊢
  have hP : va_P (dC, dI) vwCl [(h0, .inr (7, [.ref z0, .ref z1, .ref z2, .ref z3, .ref z4, .ref z5, .int 0, .int 0, .int 0]))] H := hP
  have hD : va_D A [(h0, .inr (7, [.ref z0, .ref z1, .ref z2, .ref z3, .ref z4, .ref z5, .int 0, .int 0, .int 0]))] := hD
  refine lv_aload_n hx hb dX3_unwind_4 rfl (lv_at hl 0 rfl) ?_
  refine lv_iload_n hx hb dX3_unwind_5 rfl (lv_at hl 2 rfl) ?_
  have hPc := hP.sub (ws' := [(h0, .inr (7, [.ref z0, .ref z1, .ref z2, .ref z3, .ref z4, .ref z5, .int 0, .int 0, .int 0]))]) [0] rfl
  have hDc := hD.sub (ws' := [(h0, .inr (7, [.ref z0, .ref z1, .ref z2, .ref z3, .ref z4, .ref z5, .int 0, .int 0, .int 0]))]) [0] (by decide) rfl
  have hKc := hK.sub (tys' := []) [] rfl
  have hFc := va_free (wc := [(h0, .inr (7, [.ref z0, .ref z1, .ref z2, .ref z3, .ref z4, .ref z5, .int 0, .int 0, .int 0]))]) hD hS hA [0] rfl
  refine vx_callv (vx_runV (As := [.int i1]) (rest := []) ⟨hx, hb, hml, hown, hts⟩ (kx_X3_needRule_0 l hst dC dI ge5 gea gv5 gva gde gic gi0 h0 z0 z1 z2 z3 z4 z5 H.size i1 i1_l i1_u) (cwV 1 hts gX3_unwind_X3_needRule rfl rfl rfl (by decide +kernel) ⟨Nat.le_of_ble_eq_true rfl, Nat.le_of_ble_eq_true rfl⟩) ⟨fun a U g mk q => by obtain ⟨q0, q1, qP, qK, qD, qG⟩ := q; exact ⟨q0, q1, qP, va_K.moved (u := U) (U := U.calling g mk a) (Vm.Alike.refl U.vm) qK, qD, gv.fb qG⟩, va_recv hKc hPc (ci := 7) (q0 := 0) rfl rfl, fun U hU hW => ⟨rfl, by rw [hU], by rw [hU]; exact hPc, va_K.moved hW.alike hKc, hDc.weaken (fun _ _ _ _ => trivial), gv.pass hW hU hS hFc hG⟩⟩ rfl rfl hl.1 rfl (lv_room (Nat.le_of_ble_eq_true rfl)) dX3_unwind_6 ⟨Nat.le_of_ble_eq_true rfl, Nat.le_of_ble_eq_true rfl⟩) hS (fun q _ h => hFc q h) hFc (fun q _ h => hFc q h) (fun E ce q9 u t H1 locs ht hvm hpx hB hz1 hk1 hS hce hcv hcl => ?_) (fun u t H1 locs ht hvm hw hB hz1 hk1 hS => hw.elim)
  obtain ⟨rfl, hP1, hK1, hD1⟩ := hB
  rw [ht] at hP1
  have hK1 := va_K.moved hvm.symm hK1
  obtain ⟨hP, hD⟩ := va_join (wr := []) (w1 := [(h0, .inr (7, [.ref z0, .ref z1, .ref z2, .ref z3, .ref z4, .ref z5, .int 0, .int 0, .int 0]))]) hP hD [0] [] rfl rfl (by decide) (by decide) hk1 hFc hP1 hD1
  generalize H1 = H at hP hS hce ⊢
  have hP : va_P (dC, dI) vwCl [(h0, .inr (7, [.ref z0, .ref z1, .ref z2, .ref z3, .ref z4, .ref z5, .int 0, .int 0, .int 0]))] H := hP
  have hD : va_D A [(h0, .inr (7, [.ref z0, .ref z1, .ref z2, .ref z3, .ref z4, .ref z5, .int 0, .int 0, .int 0]))] := hD
  exact vx_out (fun x hx9 => (ht9 x hx9).elim) hlocks hce hcv hcl (fun t ht hW => ⟨(), trivial, ⟨rfl, by rw [ht]; exact hP, va_K.moved hW hK, hD⟩, hS.F ht⟩) hS.2.2 (by omega) (by omega)
set_option maxHeartbeats 4000000 in
set_option maxRecDepth 100000 in
theorem kx_L_unwind_2 (l : Launch) (hst : l.stackTraces = false) (dC : Nat → ClassId) (dI : Nat → Nat → Nat) (ge5 gea gv5 gva gde gic gi0 : Nat) (h0 : Nat) (z0 : Nat) (z1 : Nat) (z2 : Nat) (z3 : Nat) (z4 : Nat) (z5 : Nat) (z6 : Nat) (sz : Nat) (i0 : Int32) (i0_l : (0 : Int) ≤ i0.toInt) (i0_u : i0.toInt ≤ (3 : Int)) (i1 : Int32) (i1_l : ((-2147483648) : Int) ≤ i1.toInt) (i1_u : i1.toInt ≤ ((-1) : Int)) (i2 : Int32) (i2_l : ((-2147483648) : Int) ≤ i2.toInt) (i2_u : i2.toInt ≤ (2147483647 : Int)) : Met l yL_unwind wsL_unwind ({ frames := 8, cells := 1, slots := 6, locals := 168 }) (va_Pc [.ref h0, .int i0, .int i1, .int i2, .ref z0] (fun U => U.heap.size = sz ∧ va_P (dC, dI) vwCl [(h0, .inr (7, [.ref z1, .ref z2, .ref z3, .ref z4, .ref z5, .ref z6, .int 0, .int 0, .int 0]))] U.heap ∧ va_K (dC, dI) vwCl [] U ∧ va_D (fun _ => True) [(h0, .inr (7, [.ref z1, .ref z2, .ref z3, .ref z4, .ref z5, .ref z6, .int 0, .int 0, .int 0]))] ∧ gv ge5 gea gv5 gva gde gic gi0 (va_A [(h0, .inr (7, [.ref z1, .ref z2, .ref z3, .ref z4, .ref z5, .ref z6, .int 0, .int 0, .int 0]))] sz) U U.heap)) (va_Qi (fun (r : Int32) (_ : Unit) => r = 1) (fun (_ : Unit) (t : State) => va_P (dC, dI) vwCl [(h0, .inr (7, [.ref z1, .ref z2, .ref z3, .ref z4, .ref z5, .ref z6, .int 0, .int 0, .int 0]))] t.heap ∧ va_K (dC, dI) vwCl [] t ∧ va_D (va_A [(h0, .inr (7, [.ref z1, .ref z2, .ref z3, .ref z4, .ref z5, .ref z6, .int 0, .int 0, .int 0]))] sz) [(h0, .inr (7, [.ref z1, .ref z2, .ref z3, .ref z4, .ref z5, .ref z6, .int 0, .int 0, .int 0]))]) (va_A [(h0, .inr (7, [.ref z1, .ref z2, .ref z3, .ref z4, .ref z5, .ref z6, .int 0, .int 0, .int 0]))] sz)) 1 6 (va_A [(h0, .inr (7, [.ref z1, .ref z2, .ref z3, .ref z4, .ref z5, .ref z6, .int 0, .int 0, .int 0]))] sz) := by
  refine kz_ofWH (cc := cL_unwind) (maxL := 6) (ret := (some .int)) (hh := [(0, 13, 16, 19)]) (by decide) rfl ?_
  intro p e s m args below meth c s₁ B hml hv
  obtain ⟨rfl, hsz, hP, hK, hD0, hG⟩ := hv
  have hx := B.exec
  have hb := B.bytes
  have hr := B.returns
  have hts := atoms_spec (ws := wsL_unwind) B.pre
  have hown : s.vm.findClass RL = some m.cls := findClass_of_methodNamed B.named
  have htab := vx_table (x := yL_unwind) B (hts (.codeWith yL_unwind cL_unwind 6 (some .int) [(0, 13, 16, 19)]) (by decide +kernel))
  have hlocks := B.notSynchronized
  subst hsz
  have hD := hD0.self (sz := s.heap.size)
  generalize hAe : va_A [(h0, .inr (7, [.ref z1, .ref z2, .ref z3, .ref z4, .ref z5, .ref z6, .int 0, .int 0, .int 0]))] s.heap.size = A at hD hG ⊢
  obtain ⟨⟨g_AO_Text, g_AO_String, g_AO_Object, g_nm_RX1_20, g_nm_RX0_17, g_nm_RX3_31, g_nm_RX2_44, g_nm_RL_121, g_nf_RL_13, g_nf_RL_47, g_ca_IO, g_ca_IA, g_ca_IS, g_ca_IntObj, g_ca_StrObj, g_de_RT, g_de_EX, g_de_TH, g_nc_IA_IO, g_nc_IS_IO, g_nc_IS_IA⟩, ⟨g_s3, g_s5, g_sa, g_x278, g_x280, g_x282, g_x284, g_x286, g_x180, g_x238, g_x250⟩, ⟨g_o5, g_c5, g_v5, g_t5, g_oa, g_ca, g_va, g_ta, g_zc, g_zd, g_td, g_zf, g_zU, g_zN, g_zh, g_zk, g_tk, g_oi, g_vi⟩⟩ := id hG
  have hA : ∀ q : Nat, s.heap.size ≤ q → A q := fun q h => by rw [← hAe]; exact Or.inr h
  have hS : va_S A s.heap s.heap [] := va_S.rf
  have hP : va_P (dC, dI) vwCl [(h0, .inr (7, [.ref z1, .ref z2, .ref z3, .ref z4, .ref z5, .ref z6, .int 0, .int 0, .int 0]))] s.heap := hP
  have hl := lv_entry ([.ref h0, .int i0, .int i1, .int i2, .ref z0]) (n := 6) (Nat.le_of_ble_eq_true rfl)
  rw [lg_entry_eq]
  generalize (lg_sl ([.ref h0, .int i0, .int i1, .int i2, .ref z0]) ++ List.replicate (6 - (lg_sl ([.ref h0, .int i0, .int i1, .int i2, .ref z0])).length) Slot.unset).toArray = ls at hl ⊢
  have hl : lv_has ls 6 [(0, .ref h0), (1, .int i0), (2, .int i1), (3, .int i2), (4, .ref z0)] := hl
  refine lv_aload hx hb dL_unwind_0 (lv_at hl 4 rfl) ?_
  refine lv_aload_n hx hb dL_unwind_2 rfl (lv_at hl 0 rfl) ?_
  refine lv_iload_n hx hb dL_unwind_3 rfl (lv_at hl 1 rfl) ?_
  refine lv_iload_n hx hb dL_unwind_4 rfl (lv_at hl 2 rfl) ?_
  refine lv_iload_n hx hb dL_unwind_5 rfl (lv_at hl 3 rfl) ?_
  have hPc := hP.sub (ws' := [(h0, .inr (7, [.ref z1, .ref z2, .ref z3, .ref z4, .ref z5, .ref z6, .int 0, .int 0, .int 0]))]) [0] rfl
  have hDc := hD.sub (ws' := [(h0, .inr (7, [.ref z1, .ref z2, .ref z3, .ref z4, .ref z5, .ref z6, .int 0, .int 0, .int 0]))]) [0] (by decide) rfl
  have hKc := hK.sub (tys' := []) [] rfl
  have hFc := va_free (wc := [(h0, .inr (7, [.ref z1, .ref z2, .ref z3, .ref z4, .ref z5, .ref z6, .int 0, .int 0, .int 0]))]) hD hS hA [0] rfl
  refine vx_calli (vx_runV (As := [.int i0, .int i1, .int i2]) (rest := [.ref z0]) ⟨hx, hb, hml, hown, hts⟩ (kx_X3_unwind_2 l hst dC dI ge5 gea gv5 gva gde gic gi0 h0 z1 z2 z3 z4 z5 z6 s.heap.size i0 i0_l i0_u i1 i1_l i1_u i2 i2_l i2_u) (cwV 3 hts gL_unwind_X3_unwind rfl rfl rfl (by decide +kernel) ⟨Nat.le_of_ble_eq_true rfl, Nat.le_of_ble_eq_true rfl⟩) ⟨fun a U g mk q => by obtain ⟨q0, q1, qP, qK, qD, qG⟩ := q; exact ⟨q0, q1, qP, va_K.moved (u := U) (U := U.calling g mk a) (Vm.Alike.refl U.vm) qK, qD, gv.fb qG⟩, va_recv hKc hPc (ci := 7) (q0 := 0) rfl rfl, fun U hU hW => ⟨rfl, by rw [hU], by rw [hU]; exact hPc, va_K.moved hW.alike hKc, hDc.weaken (fun _ _ _ _ => trivial), gv.pass hW hU hS hFc hG⟩⟩ rfl rfl hl.1 rfl (lv_room (Nat.le_of_ble_eq_true rfl)) dL_unwind_6 ⟨Nat.le_of_ble_eq_true rfl, Nat.le_of_ble_eq_true rfl⟩) hS (fun q _ h => hFc q h) hFc (fun q _ h => hFc q h) (fun E ce q9 u t H1 locs ht hvm hpx hB hz1 hk1 hS hce hcv hcl => ?_) (fun r9 u t H1 locs ht hvm hw hB hz1 hk1 hS => hw.elim)
  obtain ⟨rfl, hP1, hK1, hD1⟩ := hB
  rw [ht] at hP1
  have hK1 := va_K.moved hvm.symm hK1
  obtain ⟨hP, hD⟩ := va_join (wr := []) (w1 := [(h0, .inr (7, [.ref z1, .ref z2, .ref z3, .ref z4, .ref z5, .ref z6, .int 0, .int 0, .int 0]))]) hP hD [0] [] rfl rfl (by decide) (by decide) hk1 hFc hP1 hD1
  generalize H1 = H at hP hS hce ⊢
  have hP : va_P (dC, dI) vwCl [(h0, .inr (7, [.ref z1, .ref z2, .ref z3, .ref z4, .ref z5, .ref z6, .int 0, .int 0, .int 0]))] H := hP
  have hD : va_D A [(h0, .inr (7, [.ref z1, .ref z2, .ref z3, .ref z4, .ref z5, .ref z6, .int 0, .int 0, .int 0]))] := hD
  refine vx_catch (own := RL) (name := "java/lang/IndexOutOfBoundsException") hown (tableOf []) ⟨0, 13, 16, 19⟩ (tableOf []) (by rw [htab]; rfl) (fun z hz => nomatch hz) (by decide +kernel) (by decide) (hts (.classLink RL 19 "java/lang/IndexOutOfBoundsException") (by decide +kernel)) (va_Nw.use rfl g_ca_IO) hce hcv hcl ?_
  refine W.eq (g2 := F0 m 16 ls [.ref q9]) rfl ?_
  refine lv_astore (lv' := [(5, .ref q9), (0, .ref h0), (1, .int i0), (2, .int i1), (3, .int i2), (4, .ref z0)]) hx hb dL_unwind_16 hl (by decide) rfl (fun ls hl => ?_)
  refine lv_iconst (v := 1) hx hb dL_unwind_18 (by decide) ?_
  exact W.iret (v := 1) hx hb hr (fun t ht hW => ⟨⟨1, (), rfl, rfl, by rw [ht]; exact hP, va_K.moved hW.alike hK, hD⟩, hS.F ht⟩) hS.2.2 dL_unwind_19
set_option maxHeartbeats 4000000 in
set_option maxRecDepth 100000 in
theorem kx_X5_unwind_2 (l : Launch) (dC : Nat → ClassId) (dI : Nat → Nat → Nat) (ge5 gea gv5 gva gde gic gi0 : Nat) (h0 : Nat) (h1 : Nat) (z0 : Nat) (z1 : Nat) (sz : Nat) (i0 : Int32) (i0_l : (0 : Int) ≤ i0.toInt) (i0_u : i0.toInt ≤ (3 : Int)) (i1 : Int32) (i1_l : ((-2147483648) : Int) ≤ i1.toInt) (i1_u : i1.toInt ≤ ((-1) : Int)) (i2 : Int32) (i2_l : ((-2147483648) : Int) ≤ i2.toInt) (i2_u : i2.toInt ≤ (2147483647 : Int)) : Met l yX5_unwind wsX5_unwind ({ frames := 2, cells := 0, slots := 0, locals := 43 }) (va_Pc [.ref h0, .int i0, .int i1, .int i2] (fun U => U.heap.size = sz ∧ va_P (dC, dI) vwCl [(h0, .inr (9, [.int 0, .ref z0, .ref h1, .ref z1, .int 0, .int 0, .int 0])), (h1, .inr (3, [.int 0, .ref gde, .int 0]))] U.heap ∧ va_K (dC, dI) vwCl [] U ∧ va_D (fun _ => True) [(h0, .inr (9, [.int 0, .ref z0, .ref h1, .ref z1, .int 0, .int 0, .int 0])), (h1, .inr (3, [.int 0, .ref gde, .int 0]))] ∧ gv ge5 gea gv5 gva gde gic gi0 (va_A [(h0, .inr (9, [.int 0, .ref z0, .ref h1, .ref z1, .int 0, .int 0, .int 0])), (h1, .inr (3, [.int 0, .ref gde, .int 0]))] sz) U U.heap)) (va_Qi (fun (r : Int32) (_ : Unit) => r = 0) (fun (_ : Unit) (t : State) => va_P (dC, dI) vwCl [(h0, .inr (9, [.int 1, .ref z0, .ref h1, .ref z1, .int 0, .int 0, .int 0]))] t.heap ∧ va_K (dC, dI) vwCl [] t ∧ va_D (va_A [(h0, .inr (9, [.int 0, .ref z0, .ref h1, .ref z1, .int 0, .int 0, .int 0])), (h1, .inr (3, [.int 0, .ref gde, .int 0]))] sz) [(h0, .inr (9, [.int 1, .ref z0, .ref h1, .ref z1, .int 0, .int 0, .int 0]))]) (va_A [(h0, .inr (9, [.int 0, .ref z0, .ref h1, .ref z1, .int 0, .int 0, .int 0])), (h1, .inr (3, [.int 0, .ref gde, .int 0]))] sz)) 0 0 (va_A [(h0, .inr (9, [.int 0, .ref z0, .ref h1, .ref z1, .int 0, .int 0, .int 0])), (h1, .inr (3, [.int 0, .ref gde, .int 0]))] sz) := by
  refine Met.ofW (cc := cX5_unwind) (maxL := 6) (ret := (some .int)) (by decide) rfl ?_
  intro p e s m args below meth c s₁ B hml hv
  obtain ⟨rfl, hsz, hP, hK, hD0, hG⟩ := hv
  have hx := B.exec
  have hb := B.bytes
  have hr := B.returns
  have hts := atoms_spec (ws := wsX5_unwind) B.pre
  have hown : s.vm.findClass RX5 = some m.cls := findClass_of_methodNamed B.named
  have hlocks := B.notSynchronized
  subst hsz
  have hD := hD0.self (sz := s.heap.size)
  generalize hAe : va_A [(h0, .inr (9, [.int 0, .ref z0, .ref h1, .ref z1, .int 0, .int 0, .int 0])), (h1, .inr (3, [.int 0, .ref gde, .int 0]))] s.heap.size = A at hD hG ⊢
  obtain ⟨⟨g_AO_Text, g_AO_String, g_AO_Object, g_nm_RX1_20, g_nm_RX0_17, g_nm_RX3_31, g_nm_RX2_44, g_nm_RL_121, g_nf_RL_13, g_nf_RL_47, g_ca_IO, g_ca_IA, g_ca_IS, g_ca_IntObj, g_ca_StrObj, g_de_RT, g_de_EX, g_de_TH, g_nc_IA_IO, g_nc_IS_IO, g_nc_IS_IA⟩, ⟨g_s3, g_s5, g_sa, g_x278, g_x280, g_x282, g_x284, g_x286, g_x180, g_x238, g_x250⟩, ⟨g_o5, g_c5, g_v5, g_t5, g_oa, g_ca, g_va, g_ta, g_zc, g_zd, g_td, g_zf, g_zU, g_zN, g_zh, g_zk, g_tk, g_oi, g_vi⟩⟩ := id hG
  have hA : ∀ q : Nat, s.heap.size ≤ q → A q := fun q h => by rw [← hAe]; exact Or.inr h
  have hS : va_S A s.heap s.heap [] := va_S.rf
  have hP : va_P (dC, dI) vwCl [(h0, .inr (9, [.int 0, .ref z0, .ref h1, .ref z1, .int 0, .int 0, .int 0])), (h1, .inr (3, [.int 0, .ref gde, .int 0]))] s.heap := hP
  have hl := lv_entry ([.ref h0, .int i0, .int i1, .int i2]) (n := 6) (Nat.le_of_ble_eq_true rfl)
  rw [lg_entry_eq]
  generalize (lg_sl ([.ref h0, .int i0, .int i1, .int i2]) ++ List.replicate (6 - (lg_sl ([.ref h0, .int i0, .int i1, .int i2])).length) Slot.unset).toArray = ls at hl ⊢
  have hl : lv_has ls 6 [(0, .ref h0), (1, .int i0), (2, .int i1), (3, .int i2)] := hl
  refine lv_aload_n hx hb dX5_unwind_0 rfl (lv_at hl 0 rfl) ?_
  refine lv_iload_n hx hb dX5_unwind_1 rfl (lv_at hl 1 rfl) ?_
  have hPc := hP.sub (ws' := []) [] rfl
  have hDc := hD.sub (ws' := []) [] (by decide) rfl
  have hKc := hK.sub (tys' := []) [] rfl
  have hFc := va_free (wc := []) hD hS hA [] rfl
  refine va_calli (va_runS (As := [.int i0]) (rest := [.ref h0]) ⟨hx, hb, hml, hown, hts⟩ (kx_X5_isNo_1 l dC dI s.heap.size i0 i0_l i0_u) (cwS 1 hts gX5_unwind_X5_isNo rfl rfl rfl (by decide +kernel) ⟨Nat.le_of_ble_eq_true rfl, Nat.le_of_ble_eq_true rfl⟩) ⟨fun a U g mk q => by obtain ⟨q0, q1, qP, qK, qD⟩ := q; exact ⟨q0, q1, qP, va_K.moved (u := U) (U := U.calling g mk a) (Vm.Alike.refl U.vm) qK, qD⟩, fun U hU hW => ⟨rfl, by rw [hU], by rw [hU]; exact hPc, va_K.moved hW.alike hKc, hDc.weaken (fun _ _ _ _ => trivial)⟩⟩ rfl rfl hl.1 rfl (lv_room (Nat.le_of_ble_eq_true rfl)) dX5_unwind_2 ⟨Nat.le_of_ble_eq_true rfl, Nat.le_of_ble_eq_true rfl⟩) hS (fun q _ h => hFc q h) hFc (fun r9 u t H1 locs ht hvm hw hB hz1 hk1 hS => ?_)
  obtain rfl := hw
  obtain ⟨hP1, hK1, hD1⟩ := hB
  rw [ht] at hP1
  have hK1 := va_K.moved hvm.symm hK1
  obtain ⟨hP, hD⟩ := va_join (wr := [(h0, .inr (9, [.int 0, .ref z0, .ref h1, .ref z1, .int 0, .int 0, .int 0])), (h1, .inr (3, [.int 0, .ref gde, .int 0]))]) (w1 := []) hP hD [] [0, 1] rfl rfl (by decide) (by decide) hk1 hFc hP1 hD1
  generalize H1 = H at hP hS ⊢
  have hP : va_P (dC, dI) vwCl [(h0, .inr (9, [.int 0, .ref z0, .ref h1, .ref z1, .int 0, .int 0, .int 0])), (h1, .inr (3, [.int 0, .ref gde, .int 0]))] H := hP
  have hD : va_D A [(h0, .inr (9, [.int 0, .ref z0, .ref h1, .ref z1, .int 0, .int 0, .int 0])), (h1, .inr (3, [.int 0, .ref gde, .int 0]))] := hD
  refine lv_if_ne (tgt := 16) hx hb dX5_unwind_5 (by decide) (fun c9 => absurd (by decide) c9) (fun _ => ?_)
  refine lv_aload_n hx hb dX5_unwind_8 rfl (lv_at hl 0 rfl) ?_
  refine lv_iload_n hx hb dX5_unwind_9 rfl (lv_at hl 2 rfl) ?_
  have hPc := hP.sub (ws' := [(h0, .inr (9, [.int 0, .ref z0, .ref h1, .ref z1, .int 0, .int 0, .int 0])), (h1, .inr (3, [.int 0, .ref gde, .int 0]))]) [0, 1] rfl
  have hDc := hD.sub (ws' := [(h0, .inr (9, [.int 0, .ref z0, .ref h1, .ref z1, .int 0, .int 0, .int 0])), (h1, .inr (3, [.int 0, .ref gde, .int 0]))]) [0, 1] (by decide) rfl
  have hKc := hK.sub (tys' := []) [] rfl
  have hFc := va_free (wc := [(h0, .inr (9, [.int 0, .ref z0, .ref h1, .ref z1, .int 0, .int 0, .int 0])), (h1, .inr (3, [.int 0, .ref gde, .int 0]))]) hD hS hA [0, 1] rfl
  refine va_calli (va_runV (As := [.int i1]) (rest := [.ref h0]) ⟨hx, hb, hml, hown, hts⟩ (kx_X5_isNoRule_0 l dC dI ge5 gea gv5 gva gde gic gi0 h0 h1 z0 z1 H.size i1 i1_l i1_u) (cwV 1 hts gX5_unwind_X5_isNoRule rfl rfl rfl (by decide +kernel) ⟨Nat.le_of_ble_eq_true rfl, Nat.le_of_ble_eq_true rfl⟩) ⟨fun a U g mk q => by obtain ⟨q0, q1, qP, qK, qD, qG⟩ := q; exact ⟨q0, q1, qP, va_K.moved (u := U) (U := U.calling g mk a) (Vm.Alike.refl U.vm) qK, qD, gv.fb qG⟩, va_recv hKc hPc (ci := 9) (q0 := 0) rfl rfl, fun U hU hW => ⟨rfl, by rw [hU], by rw [hU]; exact hPc, va_K.moved hW.alike hKc, hDc.weaken (fun _ _ _ _ => trivial), gv.pass hW hU hS hFc hG⟩⟩ rfl rfl hl.1 rfl (lv_room (Nat.le_of_ble_eq_true rfl)) dX5_unwind_10 ⟨Nat.le_of_ble_eq_true rfl, Nat.le_of_ble_eq_true rfl⟩) hS (fun q _ h => hFc q h) hFc (fun r9 u t H1 locs ht hvm hw hB hz1 hk1 hS => ?_)
  obtain rfl := hw
  obtain ⟨hP1, hK1, hD1⟩ := hB
  rw [ht] at hP1
  have hK1 := va_K.moved hvm.symm hK1
  obtain ⟨hP, hD⟩ := va_join (wr := []) (w1 := [(h0, .inr (9, [.int 0, .ref z0, .ref h1, .ref z1, .int 0, .int 0, .int 0])), (h1, .inr (3, [.int 0, .ref gde, .int 0]))]) hP hD [0, 1] [] rfl rfl (by decide) (by decide) hk1 hFc hP1 hD1
  generalize H1 = H at hP hS ⊢
  have hP : va_P (dC, dI) vwCl [(h0, .inr (9, [.int 0, .ref z0, .ref h1, .ref z1, .int 0, .int 0, .int 0])), (h1, .inr (3, [.int 0, .ref gde, .int 0]))] H := hP
  have hD : va_D A [(h0, .inr (9, [.int 0, .ref z0, .ref h1, .ref z1, .int 0, .int 0, .int 0])), (h1, .inr (3, [.int 0, .ref gde, .int 0]))] := hD
  refine lv_if_eq (tgt := 20) hx hb dX5_unwind_13 (by decide) (fun c9 => absurd c9 (by decide)) (fun _ => ?_)
  refine lv_iconst (v := 1) hx hb dX5_unwind_16 (by decide) ?_
  refine lv_goto (tgt := 21) hx hb dX5_unwind_17 (by decide) ?_
  refine lv_iconst (v := 0) hx hb dX5_unwind_21 (by decide) ?_
  refine lv_iconst (v := 0) hx hb dX5_unwind_22 (by decide) ?_
  have hPc := hP.sub (ws' := [(h0, .inr (9, [.int 0, .ref z0, .ref h1, .ref z1, .int 0, .int 0, .int 0]))]) [0] rfl
  have hDc := hD.sub (ws' := [(h0, .inr (9, [.int 0, .ref z0, .ref h1, .ref z1, .int 0, .int 0, .int 0]))]) [0] (by decide) rfl
  have hKc := hK.sub (tys' := []) [] rfl
  have hFc := va_free (wc := [(h0, .inr (9, [.int 0, .ref z0, .ref h1, .ref z1, .int 0, .int 0, .int 0]))]) hD hS hA [0] rfl
  refine va_calli (va_runV (As := [.int 1, .int 0, .int 0]) (rest := []) ⟨hx, hb, hml, hown, hts⟩ (kx_X5_fails_0 l dC dI h0 z0 h1 z1 H.size) (cwV 3 hts gX5_unwind_X5_fails rfl rfl rfl (by decide +kernel) ⟨Nat.le_of_ble_eq_true rfl, Nat.le_of_ble_eq_true rfl⟩) ⟨fun a U g mk q => by obtain ⟨q0, q1, qP, qK, qD⟩ := q; exact ⟨q0, q1, qP, va_K.moved (u := U) (U := U.calling g mk a) (Vm.Alike.refl U.vm) qK, qD⟩, va_recv hKc hPc (ci := 9) (q0 := 0) rfl rfl, fun U hU hW => ⟨rfl, by rw [hU], by rw [hU]; exact hPc, va_K.moved hW.alike hKc, hDc.weaken (fun _ _ _ _ => trivial)⟩⟩ rfl rfl hl.1 rfl (lv_room (Nat.le_of_ble_eq_true rfl)) dX5_unwind_23 ⟨Nat.le_of_ble_eq_true rfl, Nat.le_of_ble_eq_true rfl⟩) hS (fun q _ h => hFc q h) hFc (fun r9 u t H1 locs ht hvm hw hB hz1 hk1 hS => ?_)
  obtain rfl := hw
  obtain ⟨hP1, hK1, hD1⟩ := hB
  rw [ht] at hP1
  have hK1 := va_K.moved hvm.symm hK1
  obtain ⟨hP, hD⟩ := va_join (wr := [(h1, .inr (3, [.int 0, .ref gde, .int 0]))]) (w1 := [(h0, .inr (9, [.int 1, .ref z0, .ref h1, .ref z1, .int 0, .int 0, .int 0]))]) hP hD [0] [1] rfl rfl (by decide) (by decide) hk1 hFc hP1 hD1
  generalize H1 = H at hP hS ⊢
  have hP : va_P (dC, dI) vwCl [(h1, .inr (3, [.int 0, .ref gde, .int 0])), (h0, .inr (9, [.int 1, .ref z0, .ref h1, .ref z1, .int 0, .int 0, .int 0]))] H := hP
  have hD : va_D A [(h1, .inr (3, [.int 0, .ref gde, .int 0])), (h0, .inr (9, [.int 1, .ref z0, .ref h1, .ref z1, .int 0, .int 0, .int 0]))] := hD
  refine lv_if_eq (tgt := 31) hx hb dX5_unwind_26 (by decide) (fun c9 => absurd c9 (by decide)) (fun _ => ?_)
  refine lv_iconst (v := 0) hx hb dX5_unwind_29 (by decide) ?_
  have hP := hP.sub (ws' := [(h0, .inr (9, [.int 1, .ref z0, .ref h1, .ref z1, .int 0, .int 0, .int 0])), (h1, .inr (3, [.int 0, .ref gde, .int 0]))]) [1, 0] rfl
  have hD := hD.sub (ws' := [(h0, .inr (9, [.int 1, .ref z0, .ref h1, .ref z1, .int 0, .int 0, .int 0])), (h1, .inr (3, [.int 0, .ref gde, .int 0]))]) [1, 0] (by decide) rfl
  have hP := hP.sub (ws' := [(h0, .inr (9, [.int 1, .ref z0, .ref h1, .ref z1, .int 0, .int 0, .int 0]))]) [0] rfl
  have hD := hD.sub (ws' := [(h0, .inr (9, [.int 1, .ref z0, .ref h1, .ref z1, .int 0, .int 0, .int 0]))]) [0] (by decide) rfl
  exact W.iret (v := 0) hx hb hr (fun t ht hW => ⟨⟨0, (), rfl, rfl, by rw [ht]; exact hP, va_K.moved hW.alike hK, hD⟩, hS.F ht⟩) hS.2.2 dX5_unwind_30
set_option maxHeartbeats 4000000 in
set_option maxRecDepth 100000 in
theorem kx_X3_unwind_3 (l : Launch) (hst : l.stackTraces = false) (dC : Nat → ClassId) (dI : Nat → Nat → Nat) (ge5 gea gv5 gva gde gic gi0 : Nat) (h0 : Nat) (h1 : Nat) (z0 : Nat) (z1 : Nat) (z2 : Nat) (z3 : Nat) (z4 : Nat) (z5 : Nat) (z6 : Nat) (z7 : Nat) (z8 : Nat) (z9 : Nat) (z10 : Nat) (sz : Nat) (i0 : Int32) (i0_l : (0 : Int) ≤ i0.toInt) (i0_u : i0.toInt ≤ (3 : Int)) (i1 : Int32) (i1_l : (0 : Int) ≤ i1.toInt) (i1_u : i1.toInt ≤ (2147483647 : Int)) (i2 : Int32) (i2_l : ((-2147483648) : Int) ≤ i2.toInt) (i2_u : i2.toInt ≤ (2147483647 : Int)) : vx_Met l yX3_unwind wsX3_unwind ({ frames := 7, cells := 1, slots := 6, locals := 141 }) (va_Pc [.ref h0, .int i0, .int i1, .int i2] (fun U => U.heap.size = sz ∧ va_P (dC, dI) vwCl [(h0, .inr (7, [.ref z0, .ref h1, .ref z1, .ref z2, .ref z3, .ref z4, .int 0, .int 0, .int 0])), (h1, .inr (5, [.ref z5, .ref z6, .ref z7, .ref z8, .ref z9, .ref z10, .int 0, .int 0]))] U.heap ∧ va_K (dC, dI) vwCl [] U ∧ va_D (fun _ => True) [(h0, .inr (7, [.ref z0, .ref h1, .ref z1, .ref z2, .ref z3, .ref z4, .int 0, .int 0, .int 0])), (h1, .inr (5, [.ref z5, .ref z6, .ref z7, .ref z8, .ref z9, .ref z10, .int 0, .int 0]))] ∧ gv ge5 gea gv5 gva gde gic gi0 (va_A [(h0, .inr (7, [.ref z0, .ref h1, .ref z1, .ref z2, .ref z3, .ref z4, .int 0, .int 0, .int 0])), (h1, .inr (5, [.ref z5, .ref z6, .ref z7, .ref z8, .ref z9, .ref z10, .int 0, .int 0]))] sz) U U.heap)) (va_Qi (fun (_ : Int32) (_ : Unit) => False) (fun _ _ => True) (va_A [(h0, .inr (7, [.ref z0, .ref h1, .ref z1, .ref z2, .ref z3, .ref z4, .int 0, .int 0, .int 0])), (h1, .inr (5, [.ref z5, .ref z6, .ref z7, .ref z8, .ref z9, .ref z10, .int 0, .int 0]))] sz)) (vx_X (fun _ : Unit => True) (fun (E : String) (_ : Unit) (t : State) => E = "java/lang/IndexOutOfBoundsException" ∧ va_P (dC, dI) vwCl [(h0, .inr (7, [.ref z0, .ref h1, .ref z1, .ref z2, .ref z3, .ref z4, .int 0, .int 0, .int 0])), (h1, .inr (5, [.ref z5, .ref z6, .ref z7, .ref z8, .ref z9, .ref z10, .int 0, .int 0]))] t.heap ∧ va_K (dC, dI) vwCl [] t ∧ va_D (va_A [(h0, .inr (7, [.ref z0, .ref h1, .ref z1, .ref z2, .ref z3, .ref z4, .int 0, .int 0, .int 0])), (h1, .inr (5, [.ref z5, .ref z6, .ref z7, .ref z8, .ref z9, .ref z10, .int 0, .int 0]))] sz) [(h0, .inr (7, [.ref z0, .ref h1, .ref z1, .ref z2, .ref z3, .ref z4, .int 0, .int 0, .int 0])), (h1, .inr (5, [.ref z5, .ref z6, .ref z7, .ref z8, .ref z9, .ref z10, .int 0, .int 0]))]) (va_A [(h0, .inr (7, [.ref z0, .ref h1, .ref z1, .ref z2, .ref z3, .ref z4, .int 0, .int 0, .int 0])), (h1, .inr (5, [.ref z5, .ref z6, .ref z7, .ref z8, .ref z9, .ref z10, .int 0, .int 0]))] sz)) 1 6 (va_A [(h0, .inr (7, [.ref z0, .ref h1, .ref z1, .ref z2, .ref z3, .ref z4, .int 0, .int 0, .int 0])), (h1, .inr (5, [.ref z5, .ref z6, .ref z7, .ref z8, .ref z9, .ref z10, .int 0, .int 0]))] sz) := by
  refine vx_ofW (cc := cX3_unwind) (maxL := 8) (ret := (some .int)) (by decide) rfl ?_
  intro p e s m args below meth c s₁ B hml ht9 hv
  obtain ⟨rfl, hsz, hP, hK, hD0, hG⟩ := hv
  have hx := B.exec
  have hb := B.bytes
  have hr := B.returns
  have hts := atoms_spec (ws := wsX3_unwind) B.pre
  have hown : s.vm.findClass RX3 = some m.cls := findClass_of_methodNamed B.named
  have hlocks := B.notSynchronized
  subst hsz
  have hD := hD0.self (sz := s.heap.size)
  generalize hAe : va_A [(h0, .inr (7, [.ref z0, .ref h1, .ref z1, .ref z2, .ref z3, .ref z4, .int 0, .int 0, .int 0])), (h1, .inr (5, [.ref z5, .ref z6, .ref z7, .ref z8, .ref z9, .ref z10, .int 0, .int 0]))] s.heap.size = A at hD hG ⊢
  obtain ⟨⟨g_AO_Text, g_AO_String, g_AO_Object, g_nm_RX1_20, g_nm_RX0_17, g_nm_RX3_31, g_nm_RX2_44, g_nm_RL_121, g_nf_RL_13, g_nf_RL_47, g_ca_IO, g_ca_IA, g_ca_IS, g_ca_IntObj, g_ca_StrObj, g_de_RT, g_de_EX, g_de_TH, g_nc_IA_IO, g_nc_IS_IO, g_nc_IS_IA⟩, ⟨g_s3, g_s5, g_sa, g_x278, g_x280, g_x282, g_x284, g_x286, g_x180, g_x238, g_x250⟩, ⟨g_o5, g_c5, g_v5, g_t5, g_oa, g_ca, g_va, g_ta, g_zc, g_zd, g_td, g_zf, g_zU, g_zN, g_zh, g_zk, g_tk, g_oi, g_vi⟩⟩ := id hG
  have hA : ∀ q : Nat, s.heap.size ≤ q → A q := fun q h => by rw [← hAe]; exact Or.inr h
  have hS : va_S A s.heap s.heap [] := va_S.rf
  have hP : va_P (dC, dI) vwCl [(h0, .inr (7, [.ref z0, .ref h1, .ref z1, .ref z2, .ref z3, .ref z4, .int 0, .int 0, .int 0])), (h1, .inr (5, [.ref z5, .ref z6, .ref z7, .ref z8, .ref z9, .ref z10, .int 0, .int 0]))] s.heap := hP
  have hl := lv_entry ([.ref h0, .int i0, .int i1, .int i2]) (n := 8) (Nat.le_of_ble_eq_true rfl)
  rw [lg_entry_eq]
  generalize (lg_sl ([.ref h0, .int i0, .int i1, .int i2]) ++ List.replicate (8 - (lg_sl ([.ref h0, .int i0, .int i1, .int i2])).length) Slot.unset).toArray = ls at hl ⊢
  have hl : lv_has ls 8 [(0, .ref h0), (1, .int i0), (2, .int i1), (3, .int i2)] := hl
  refine lv_iload_n hx hb dX3_unwind_0 rfl (lv_at hl 1 rfl) ?_
  have hPc := hP.sub (ws' := []) [] rfl
  have hDc := hD.sub (ws' := []) [] (by decide) rfl
  have hKc := hK.sub (tys' := []) [] rfl
  have hFc := va_free (wc := []) hD hS hA [] rfl
  refine va_callv (va_runS (As := [.int i0]) (rest := []) ⟨hx, hb, hml, hown, hts⟩ (kx_X3_needRope_4 l dC dI s.heap.size i0 i0_l i0_u) (cwS 1 hts gX3_unwind_X3_needRope rfl rfl rfl (by decide +kernel) ⟨Nat.le_of_ble_eq_true rfl, Nat.le_of_ble_eq_true rfl⟩) ⟨fun a U g mk q => by obtain ⟨q0, q1, qP, qK, qD⟩ := q; exact ⟨q0, q1, qP, va_K.moved (u := U) (U := U.calling g mk a) (Vm.Alike.refl U.vm) qK, qD⟩, fun U hU hW => ⟨rfl, by rw [hU], by rw [hU]; exact hPc, va_K.moved hW.alike hKc, hDc.weaken (fun _ _ _ _ => trivial)⟩⟩ rfl rfl hl.1 rfl (lv_room (Nat.le_of_ble_eq_true rfl)) dX3_unwind_1 ⟨Nat.le_of_ble_eq_true rfl, Nat.le_of_ble_eq_true rfl⟩) hS (fun q _ h => hFc q h) hFc (fun u t H1 locs ht hvm hw hB hz1 hk1 hS => ?_)
  obtain ⟨hP1, hK1, hD1⟩ := hB
  rw [ht] at hP1
  have hK1 := va_K.moved hvm.symm hK1
  obtain ⟨hP, hD⟩ := va_join (wr := [(h0, .inr (7, [.ref z0, .ref h1, .ref z1, .ref z2, .ref z3, .ref z4, .int 0, .int 0, .int 0])), (h1, .inr (5, [.ref z5, .ref z6, .ref z7, .ref z8, .ref z9, .ref z10, .int 0, .int 0]))]) (w1 := []) hP hD [] [0, 1] rfl rfl (by decide) (by decide) hk1 hFc hP1 hD1
  generalize H1 = H at hP hS ⊢
  have hP : va_P (dC, dI) vwCl [(h0, .inr (7, [.ref z0, .ref h1, .ref z1, .ref z2, .ref z3, .ref z4, .int 0, .int 0, .int 0])), (h1, .inr (5, [.ref z5, .ref z6, .ref z7, .ref z8, .ref z9, .ref z10, .int 0, .int 0]))] H := hP
  have hD : va_D A [(h0, .inr (7, [.ref z0, .ref h1, .ref z1, .ref z2, .ref z3, .ref z4, .int 0, .int 0, .int 0])), (h1, .inr (5, [.ref z5, .ref z6, .ref z7, .ref z8, .ref z9, .ref z10, .int 0, .int 0]))] := hD
  refine lv_aload_n hx hb dX3_unwind_4 rfl (lv_at hl 0 rfl) ?_
  refine lv_iload_n hx hb dX3_unwind_5 rfl (lv_at hl 2 rfl) ?_
  have hPc := hP.sub (ws' := [(h0, .inr (7, [.ref z0, .ref h1, .ref z1, .ref z2, .ref z3, .ref z4, .int 0, .int 0, .int 0])), (h1, .inr (5, [.ref z5, .ref z6, .ref z7, .ref z8, .ref z9, .ref z10, .int 0, .int 0]))]) [0, 1] rfl
  have hDc := hD.sub (ws' := [(h0, .inr (7, [.ref z0, .ref h1, .ref z1, .ref z2, .ref z3, .ref z4, .int 0, .int 0, .int 0])), (h1, .inr (5, [.ref z5, .ref z6, .ref z7, .ref z8, .ref z9, .ref z10, .int 0, .int 0]))]) [0, 1] (by decide) rfl
  have hKc := hK.sub (tys' := []) [] rfl
  have hFc := va_free (wc := [(h0, .inr (7, [.ref z0, .ref h1, .ref z1, .ref z2, .ref z3, .ref z4, .int 0, .int 0, .int 0])), (h1, .inr (5, [.ref z5, .ref z6, .ref z7, .ref z8, .ref z9, .ref z10, .int 0, .int 0]))]) hD hS hA [0, 1] rfl
  refine vx_callv (vx_runV (As := [.int i1]) (rest := []) ⟨hx, hb, hml, hown, hts⟩ (kx_X3_needRule_1 l hst dC dI ge5 gea gv5 gva gde gic gi0 h0 h1 z0 z1 z2 z3 z4 z5 z6 z7 z8 z9 z10 H.size i1 i1_l i1_u) (cwV 1 hts gX3_unwind_X3_needRule rfl rfl rfl (by decide +kernel) ⟨Nat.le_of_ble_eq_true rfl, Nat.le_of_ble_eq_true rfl⟩) ⟨fun a U g mk q => by obtain ⟨q0, q1, qP, qK, qD, qG⟩ := q; exact ⟨q0, q1, qP, va_K.moved (u := U) (U := U.calling g mk a) (Vm.Alike.refl U.vm) qK, qD, gv.fb qG⟩, va_recv hKc hPc (ci := 7) (q0 := 0) rfl rfl, fun U hU hW => ⟨rfl, by rw [hU], by rw [hU]; exact hPc, va_K.moved hW.alike hKc, hDc.weaken (fun _ _ _ _ => trivial), gv.pass hW hU hS hFc hG⟩⟩ rfl rfl hl.1 rfl (lv_room (Nat.le_of_ble_eq_true rfl)) dX3_unwind_6 ⟨Nat.le_of_ble_eq_true rfl, Nat.le_of_ble_eq_true rfl⟩) hS (fun q _ h => hFc q h) hFc (fun q _ h => hFc q h) (fun E ce q9 u t H1 locs ht hvm hpx hB hz1 hk1 hS hce hcv hcl => ?_) (fun u t H1 locs ht hvm hw hB hz1 hk1 hS => hw.elim)
  obtain ⟨rfl, hP1, hK1, hD1⟩ := hB
  rw [ht] at hP1
  have hK1 := va_K.moved hvm.symm hK1
  obtain ⟨hP, hD⟩ := va_join (wr := []) (w1 := [(h0, .inr (7, [.ref z0, .ref h1, .ref z1, .ref z2, .ref z3, .ref z4, .int 0, .int 0, .int 0])), (h1, .inr (5, [.ref z5, .ref z6, .ref z7, .ref z8, .ref z9, .ref z10, .int 0, .int 0]))]) hP hD [0, 1] [] rfl rfl (by decide) (by decide) hk1 hFc hP1 hD1
  generalize H1 = H at hP hS hce ⊢
  have hP : va_P (dC, dI) vwCl [(h0, .inr (7, [.ref z0, .ref h1, .ref z1, .ref z2, .ref z3, .ref z4, .int 0, .int 0, .int 0])), (h1, .inr (5, [.ref z5, .ref z6, .ref z7, .ref z8, .ref z9, .ref z10, .int 0, .int 0]))] H := hP
  have hD : va_D A [(h0, .inr (7, [.ref z0, .ref h1, .ref z1, .ref z2, .ref z3, .ref z4, .int 0, .int 0, .int 0])), (h1, .inr (5, [.ref z5, .ref z6, .ref z7, .ref z8, .ref z9, .ref z10, .int 0, .int 0]))] := hD
  exact vx_out (fun x hx9 => (ht9 x hx9).elim) hlocks hce hcv hcl (fun t ht hW => ⟨(), trivial, ⟨rfl, by rw [ht]; exact hP, va_K.moved hW hK, hD⟩, hS.F ht⟩) hS.2.2 (by omega) (by omega)
set_option maxHeartbeats 4000000 in
set_option maxRecDepth 100000 in
theorem kx_L_unwind_3 (l : Launch) (hst : l.stackTraces = false) (dC : Nat → ClassId) (dI : Nat → Nat → Nat) (ge5 gea gv5 gva gde gic gi0 : Nat) (h0 : Nat) (h1 : Nat) (z0 : Nat) (z1 : Nat) (z2 : Nat) (z3 : Nat) (z4 : Nat) (z5 : Nat) (z6 : Nat) (z7 : Nat) (z8 : Nat) (z9 : Nat) (z10 : Nat) (z11 : Nat) (sz : Nat) (i0 : Int32) (i0_l : (0 : Int) ≤ i0.toInt) (i0_u : i0.toInt ≤ (3 : Int)) (i1 : Int32) (i1_l : (0 : Int) ≤ i1.toInt) (i1_u : i1.toInt ≤ (2147483647 : Int)) (i2 : Int32) (i2_l : ((-2147483648) : Int) ≤ i2.toInt) (i2_u : i2.toInt ≤ (2147483647 : Int)) : Met l yL_unwind wsL_unwind ({ frames := 8, cells := 1, slots := 6, locals := 168 }) (va_Pc [.ref h0, .int i0, .int i1, .int i2, .ref z0] (fun U => U.heap.size = sz ∧ va_P (dC, dI) vwCl [(h0, .inr (7, [.ref z1, .ref h1, .ref z2, .ref z3, .ref z4, .ref z5, .int 0, .int 0, .int 0])), (h1, .inr (5, [.ref z6, .ref z7, .ref z8, .ref z9, .ref z10, .ref z11, .int 0, .int 0]))] U.heap ∧ va_K (dC, dI) vwCl [] U ∧ va_D (fun _ => True) [(h0, .inr (7, [.ref z1, .ref h1, .ref z2, .ref z3, .ref z4, .ref z5, .int 0, .int 0, .int 0])), (h1, .inr (5, [.ref z6, .ref z7, .ref z8, .ref z9, .ref z10, .ref z11, .int 0, .int 0]))] ∧ gv ge5 gea gv5 gva gde gic gi0 (va_A [(h0, .inr (7, [.ref z1, .ref h1, .ref z2, .ref z3, .ref z4, .ref z5, .int 0, .int 0, .int 0])), (h1, .inr (5, [.ref z6, .ref z7, .ref z8, .ref z9, .ref z10, .ref z11, .int 0, .int 0]))] sz) U U.heap)) (va_Qi (fun (r : Int32) (_ : Unit) => r = 1) (fun (_ : Unit) (t : State) => va_P (dC, dI) vwCl [(h0, .inr (7, [.ref z1, .ref h1, .ref z2, .ref z3, .ref z4, .ref z5, .int 0, .int 0, .int 0])), (h1, .inr (5, [.ref z6, .ref z7, .ref z8, .ref z9, .ref z10, .ref z11, .int 0, .int 0]))] t.heap ∧ va_K (dC, dI) vwCl [] t ∧ va_D (va_A [(h0, .inr (7, [.ref z1, .ref h1, .ref z2, .ref z3, .ref z4, .ref z5, .int 0, .int 0, .int 0])), (h1, .inr (5, [.ref z6, .ref z7, .ref z8, .ref z9, .ref z10, .ref z11, .int 0, .int 0]))] sz) [(h0, .inr (7, [.ref z1, .ref h1, .ref z2, .ref z3, .ref z4, .ref z5, .int 0, .int 0, .int 0])), (h1, .inr (5, [.ref z6, .ref z7, .ref z8, .ref z9, .ref z10, .ref z11, .int 0, .int 0]))]) (va_A [(h0, .inr (7, [.ref z1, .ref h1, .ref z2, .ref z3, .ref z4, .ref z5, .int 0, .int 0, .int 0])), (h1, .inr (5, [.ref z6, .ref z7, .ref z8, .ref z9, .ref z10, .ref z11, .int 0, .int 0]))] sz)) 1 6 (va_A [(h0, .inr (7, [.ref z1, .ref h1, .ref z2, .ref z3, .ref z4, .ref z5, .int 0, .int 0, .int 0])), (h1, .inr (5, [.ref z6, .ref z7, .ref z8, .ref z9, .ref z10, .ref z11, .int 0, .int 0]))] sz) := by
  refine kz_ofWH (cc := cL_unwind) (maxL := 6) (ret := (some .int)) (hh := [(0, 13, 16, 19)]) (by decide) rfl ?_
  intro p e s m args below meth c s₁ B hml hv
  obtain ⟨rfl, hsz, hP, hK, hD0, hG⟩ := hv
  have hx := B.exec
  have hb := B.bytes
  have hr := B.returns
  have hts := atoms_spec (ws := wsL_unwind) B.pre
  have hown : s.vm.findClass RL = some m.cls := findClass_of_methodNamed B.named
  have htab := vx_table (x := yL_unwind) B (hts (.codeWith yL_unwind cL_unwind 6 (some .int) [(0, 13, 16, 19)]) (by decide +kernel))
  have hlocks := B.notSynchronized
  subst hsz
  have hD := hD0.self (sz := s.heap.size)
  generalize hAe : va_A [(h0, .inr (7, [.ref z1, .ref h1, .ref z2, .ref z3, .ref z4, .ref z5, .int 0, .int 0, .int 0])), (h1, .inr (5, [.ref z6, .ref z7, .ref z8, .ref z9, .ref z10, .ref z11, .int 0, .int 0]))] s.heap.size = A at hD hG ⊢
  obtain ⟨⟨g_AO_Text, g_AO_String, g_AO_Object, g_nm_RX1_20, g_nm_RX0_17, g_nm_RX3_31, g_nm_RX2_44, g_nm_RL_121, g_nf_RL_13, g_nf_RL_47, g_ca_IO, g_ca_IA, g_ca_IS, g_ca_IntObj, g_ca_StrObj, g_de_RT, g_de_EX, g_de_TH, g_nc_IA_IO, g_nc_IS_IO, g_nc_IS_IA⟩, ⟨g_s3, g_s5, g_sa, g_x278, g_x280, g_x282, g_x284, g_x286, g_x180, g_x238, g_x250⟩, ⟨g_o5, g_c5, g_v5, g_t5, g_oa, g_ca, g_va, g_ta, g_zc, g_zd, g_td, g_zf, g_zU, g_zN, g_zh, g_zk, g_tk, g_oi, g_vi⟩⟩ := id hG
  have hA : ∀ q : Nat, s.heap.size ≤ q → A q := fun q h => by rw [← hAe]; exact Or.inr h
  have hS : va_S A s.heap s.heap [] := va_S.rf
  have hP : va_P (dC, dI) vwCl [(h0, .inr (7, [.ref z1, .ref h1, .ref z2, .ref z3, .ref z4, .ref z5, .int 0, .int 0, .int 0])), (h1, .inr (5, [.ref z6, .ref z7, .ref z8, .ref z9, .ref z10, .ref z11, .int 0, .int 0]))] s.heap := hP
  have hl := lv_entry ([.ref h0, .int i0, .int i1, .int i2, .ref z0]) (n := 6) (Nat.le_of_ble_eq_true rfl)
  rw [lg_entry_eq]
  generalize (lg_sl ([.ref h0, .int i0, .int i1, .int i2, .ref z0]) ++ List.replicate (6 - (lg_sl ([.ref h0, .int i0, .int i1, .int i2, .ref z0])).length) Slot.unset).toArray = ls at hl ⊢
  have hl : lv_has ls 6 [(0, .ref h0), (1, .int i0), (2, .int i1), (3, .int i2), (4, .ref z0)] := hl
  refine lv_aload hx hb dL_unwind_0 (lv_at hl 4 rfl) ?_
  refine lv_aload_n hx hb dL_unwind_2 rfl (lv_at hl 0 rfl) ?_
  refine lv_iload_n hx hb dL_unwind_3 rfl (lv_at hl 1 rfl) ?_
  refine lv_iload_n hx hb dL_unwind_4 rfl (lv_at hl 2 rfl) ?_
  refine lv_iload_n hx hb dL_unwind_5 rfl (lv_at hl 3 rfl) ?_
  have hPc := hP.sub (ws' := [(h0, .inr (7, [.ref z1, .ref h1, .ref z2, .ref z3, .ref z4, .ref z5, .int 0, .int 0, .int 0])), (h1, .inr (5, [.ref z6, .ref z7, .ref z8, .ref z9, .ref z10, .ref z11, .int 0, .int 0]))]) [0, 1] rfl
  have hDc := hD.sub (ws' := [(h0, .inr (7, [.ref z1, .ref h1, .ref z2, .ref z3, .ref z4, .ref z5, .int 0, .int 0, .int 0])), (h1, .inr (5, [.ref z6, .ref z7, .ref z8, .ref z9, .ref z10, .ref z11, .int 0, .int 0]))]) [0, 1] (by decide) rfl
  have hKc := hK.sub (tys' := []) [] rfl
  have hFc := va_free (wc := [(h0, .inr (7, [.ref z1, .ref h1, .ref z2, .ref z3, .ref z4, .ref z5, .int 0, .int 0, .int 0])), (h1, .inr (5, [.ref z6, .ref z7, .ref z8, .ref z9, .ref z10, .ref z11, .int 0, .int 0]))]) hD hS hA [0, 1] rfl
  refine vx_calli (vx_runV (As := [.int i0, .int i1, .int i2]) (rest := [.ref z0]) ⟨hx, hb, hml, hown, hts⟩ (kx_X3_unwind_3 l hst dC dI ge5 gea gv5 gva gde gic gi0 h0 h1 z1 z2 z3 z4 z5 z6 z7 z8 z9 z10 z11 s.heap.size i0 i0_l i0_u i1 i1_l i1_u i2 i2_l i2_u) (cwV 3 hts gL_unwind_X3_unwind rfl rfl rfl (by decide +kernel) ⟨Nat.le_of_ble_eq_true rfl, Nat.le_of_ble_eq_true rfl⟩) ⟨fun a U g mk q => by obtain ⟨q0, q1, qP, qK, qD, qG⟩ := q; exact ⟨q0, q1, qP, va_K.moved (u := U) (U := U.calling g mk a) (Vm.Alike.refl U.vm) qK, qD, gv.fb qG⟩, va_recv hKc hPc (ci := 7) (q0 := 0) rfl rfl, fun U hU hW => ⟨rfl, by rw [hU], by rw [hU]; exact hPc, va_K.moved hW.alike hKc, hDc.weaken (fun _ _ _ _ => trivial), gv.pass hW hU hS hFc hG⟩⟩ rfl rfl hl.1 rfl (lv_room (Nat.le_of_ble_eq_true rfl)) dL_unwind_6 ⟨Nat.le_of_ble_eq_true rfl, Nat.le_of_ble_eq_true rfl⟩) hS (fun q _ h => hFc q h) hFc (fun q _ h => hFc q h) (fun E ce q9 u t H1 locs ht hvm hpx hB hz1 hk1 hS hce hcv hcl => ?_) (fun r9 u t H1 locs ht hvm hw hB hz1 hk1 hS => hw.elim)
  obtain ⟨rfl, hP1, hK1, hD1⟩ := hB
  rw [ht] at hP1
  have hK1 := va_K.moved hvm.symm hK1
  obtain ⟨hP, hD⟩ := va_join (wr := []) (w1 := [(h0, .inr (7, [.ref z1, .ref h1, .ref z2, .ref z3, .ref z4, .ref z5, .int 0, .int 0, .int 0])), (h1, .inr (5, [.ref z6, .ref z7, .ref z8, .ref z9, .ref z10, .ref z11, .int 0, .int 0]))]) hP hD [0, 1] [] rfl rfl (by decide) (by decide) hk1 hFc hP1 hD1
  generalize H1 = H at hP hS hce ⊢
  have hP : va_P (dC, dI) vwCl [(h0, .inr (7, [.ref z1, .ref h1, .ref z2, .ref z3, .ref z4, .ref z5, .int 0, .int 0, .int 0])), (h1, .inr (5, [.ref z6, .ref z7, .ref z8, .ref z9, .ref z10, .ref z11, .int 0, .int 0]))] H := hP
  have hD : va_D A [(h0, .inr (7, [.ref z1, .ref h1, .ref z2, .ref z3, .ref z4, .ref z5, .int 0, .int 0, .int 0])), (h1, .inr (5, [.ref z6, .ref z7, .ref z8, .ref z9, .ref z10, .ref z11, .int 0, .int 0]))] := hD
  refine vx_catch (own := RL) (name := "java/lang/IndexOutOfBoundsException") hown (tableOf []) ⟨0, 13, 16, 19⟩ (tableOf []) (by rw [htab]; rfl) (fun z hz => nomatch hz) (by decide +kernel) (by decide) (hts (.classLink RL 19 "java/lang/IndexOutOfBoundsException") (by decide +kernel)) (va_Nw.use rfl g_ca_IO) hce hcv hcl ?_
  refine W.eq (g2 := F0 m 16 ls [.ref q9]) rfl ?_
  refine lv_astore (lv' := [(5, .ref q9), (0, .ref h0), (1, .int i0), (2, .int i1), (3, .int i2), (4, .ref z0)]) hx hb dL_unwind_16 hl (by decide) rfl (fun ls hl => ?_)
  refine lv_iconst (v := 1) hx hb dL_unwind_18 (by decide) ?_
  exact W.iret (v := 1) hx hb hr (fun t ht hW => ⟨⟨1, (), rfl, rfl, by rw [ht]; exact hP, va_K.moved hW.alike hK, hD⟩, hS.F ht⟩) hS.2.2 dL_unwind_19
set_option maxHeartbeats 4000000 in
set_option maxRecDepth 100000 in
theorem kx_X5_unwind_3 (l : Launch) (dC : Nat → ClassId) (dI : Nat → Nat → Nat) (ge5 gea gv5 gva gde gic gi0 : Nat) (h0 : Nat) (h1 : Nat) (z0 : Nat) (z1 : Nat) (sz : Nat) (i0 : Int32) (i0_l : (0 : Int) ≤ i0.toInt) (i0_u : i0.toInt ≤ (3 : Int)) (i1 : Int32) (i1_l : (0 : Int) ≤ i1.toInt) (i1_u : i1.toInt ≤ (2147483647 : Int)) (i2 : Int32) (i2_l : ((-2147483648) : Int) ≤ i2.toInt) (i2_u : i2.toInt ≤ (2147483647 : Int)) : Met l yX5_unwind wsX5_unwind ({ frames := 2, cells := 0, slots := 0, locals := 43 }) (va_Pc [.ref h0, .int i0, .int i1, .int i2] (fun U => U.heap.size = sz ∧ va_P (dC, dI) vwCl [(h0, .inr (9, [.int 0, .ref z0, .ref h1, .ref z1, .int 0, .int 0, .int 0])), (h1, .inr (3, [.int 0, .ref gde, .int 0]))] U.heap ∧ va_K (dC, dI) vwCl [] U ∧ va_D (fun _ => True) [(h0, .inr (9, [.int 0, .ref z0, .ref h1, .ref z1, .int 0, .int 0, .int 0])), (h1, .inr (3, [.int 0, .ref gde, .int 0]))] ∧ gv ge5 gea gv5 gva gde gic gi0 (va_A [(h0, .inr (9, [.int 0, .ref z0, .ref h1, .ref z1, .int 0, .int 0, .int 0])), (h1, .inr (3, [.int 0, .ref gde, .int 0]))] sz) U U.heap)) (va_Qi (fun (r : Int32) (_ : Unit) => r = 0) (fun (_ : Unit) (t : State) => va_P (dC, dI) vwCl [(h0, .inr (9, [.int 1, .ref z0, .ref h1, .ref z1, .int 0, .int 0, .int 0]))] t.heap ∧ va_K (dC, dI) vwCl [] t ∧ va_D (va_A [(h0, .inr (9, [.int 0, .ref z0, .ref h1, .ref z1, .int 0, .int 0, .int 0])), (h1, .inr (3, [.int 0, .ref gde, .int 0]))] sz) [(h0, .inr (9, [.int 1, .ref z0, .ref h1, .ref z1, .int 0, .int 0, .int 0]))]) (va_A [(h0, .inr (9, [.int 0, .ref z0, .ref h1, .ref z1, .int 0, .int 0, .int 0])), (h1, .inr (3, [.int 0, .ref gde, .int 0]))] sz)) 0 0 (va_A [(h0, .inr (9, [.int 0, .ref z0, .ref h1, .ref z1, .int 0, .int 0, .int 0])), (h1, .inr (3, [.int 0, .ref gde, .int 0]))] sz) := by
  refine Met.ofW (cc := cX5_unwind) (maxL := 6) (ret := (some .int)) (by decide) rfl ?_
  intro p e s m args below meth c s₁ B hml hv
  obtain ⟨rfl, hsz, hP, hK, hD0, hG⟩ := hv
  have hx := B.exec
  have hb := B.bytes
  have hr := B.returns
  have hts := atoms_spec (ws := wsX5_unwind) B.pre
  have hown : s.vm.findClass RX5 = some m.cls := findClass_of_methodNamed B.named
  have hlocks := B.notSynchronized
  subst hsz
  have hD := hD0.self (sz := s.heap.size)
  generalize hAe : va_A [(h0, .inr (9, [.int 0, .ref z0, .ref h1, .ref z1, .int 0, .int 0, .int 0])), (h1, .inr (3, [.int 0, .ref gde, .int 0]))] s.heap.size = A at hD hG ⊢
  obtain ⟨⟨g_AO_Text, g_AO_String, g_AO_Object, g_nm_RX1_20, g_nm_RX0_17, g_nm_RX3_31, g_nm_RX2_44, g_nm_RL_121, g_nf_RL_13, g_nf_RL_47, g_ca_IO, g_ca_IA, g_ca_IS, g_ca_IntObj, g_ca_StrObj, g_de_RT, g_de_EX, g_de_TH, g_nc_IA_IO, g_nc_IS_IO, g_nc_IS_IA⟩, ⟨g_s3, g_s5, g_sa, g_x278, g_x280, g_x282, g_x284, g_x286, g_x180, g_x238, g_x250⟩, ⟨g_o5, g_c5, g_v5, g_t5, g_oa, g_ca, g_va, g_ta, g_zc, g_zd, g_td, g_zf, g_zU, g_zN, g_zh, g_zk, g_tk, g_oi, g_vi⟩⟩ := id hG
  have hA : ∀ q : Nat, s.heap.size ≤ q → A q := fun q h => by rw [← hAe]; exact Or.inr h
  have hS : va_S A s.heap s.heap [] := va_S.rf
  have hP : va_P (dC, dI) vwCl [(h0, .inr (9, [.int 0, .ref z0, .ref h1, .ref z1, .int 0, .int 0, .int 0])), (h1, .inr (3, [.int 0, .ref gde, .int 0]))] s.heap := hP
  have hl := lv_entry ([.ref h0, .int i0, .int i1, .int i2]) (n := 6) (Nat.le_of_ble_eq_true rfl)
  rw [lg_entry_eq]
  generalize (lg_sl ([.ref h0, .int i0, .int i1, .int i2]) ++ List.replicate (6 - (lg_sl ([.ref h0, .int i0, .int i1, .int i2])).length) Slot.unset).toArray = ls at hl ⊢
  have hl : lv_has ls 6 [(0, .ref h0), (1, .int i0), (2, .int i1), (3, .int i2)] := hl
  refine lv_aload_n hx hb dX5_unwind_0 rfl (lv_at hl 0 rfl) ?_
  refine lv_iload_n hx hb dX5_unwind_1 rfl (lv_at hl 1 rfl) ?_
  have hPc := hP.sub (ws' := []) [] rfl
  have hDc := hD.sub (ws' := []) [] (by decide) rfl
  have hKc := hK.sub (tys' := []) [] rfl
  have hFc := va_free (wc := []) hD hS hA [] rfl
  refine va_calli (va_runS (As := [.int i0]) (rest := [.ref h0]) ⟨hx, hb, hml, hown, hts⟩ (kx_X5_isNo_1 l dC dI s.heap.size i0 i0_l i0_u) (cwS 1 hts gX5_unwind_X5_isNo rfl rfl rfl (by decide +kernel) ⟨Nat.le_of_ble_eq_true rfl, Nat.le_of_ble_eq_true rfl⟩) ⟨fun a U g mk q => by obtain ⟨q0, q1, qP, qK, qD⟩ := q; exact ⟨q0, q1, qP, va_K.moved (u := U) (U := U.calling g mk a) (Vm.Alike.refl U.vm) qK, qD⟩, fun U hU hW => ⟨rfl, by rw [hU], by rw [hU]; exact hPc, va_K.moved hW.alike hKc, hDc.weaken (fun _ _ _ _ => trivial)⟩⟩ rfl rfl hl.1 rfl (lv_room (Nat.le_of_ble_eq_true rfl)) dX5_unwind_2 ⟨Nat.le_of_ble_eq_true rfl, Nat.le_of_ble_eq_true rfl⟩) hS (fun q _ h => hFc q h) hFc (fun r9 u t H1 locs ht hvm hw hB hz1 hk1 hS => ?_)
  obtain rfl := hw
  obtain ⟨hP1, hK1, hD1⟩ := hB
  rw [ht] at hP1
  have hK1 := va_K.moved hvm.symm hK1
  obtain ⟨hP, hD⟩ := va_join (wr := [(h0, .inr (9, [.int 0, .ref z0, .ref h1, .ref z1, .int 0, .int 0, .int 0])), (h1, .inr (3, [.int 0, .ref gde, .int 0]))]) (w1 := []) hP hD [] [0, 1] rfl rfl (by decide) (by decide) hk1 hFc hP1 hD1
  generalize H1 = H at hP hS ⊢
  have hP : va_P (dC, dI) vwCl [(h0, .inr (9, [.int 0, .ref z0, .ref h1, .ref z1, .int 0, .int 0, .int 0])), (h1, .inr (3, [.int 0, .ref gde, .int 0]))] H := hP
  have hD : va_D A [(h0, .inr (9, [.int 0, .ref z0, .ref h1, .ref z1, .int 0, .int 0, .int 0])), (h1, .inr (3, [.int 0, .ref gde, .int 0]))] := hD
  refine lv_if_ne (tgt := 16) hx hb dX5_unwind_5 (by decide) (fun c9 => absurd (by decide) c9) (fun _ => ?_)
  refine lv_aload_n hx hb dX5_unwind_8 rfl (lv_at hl 0 rfl) ?_
  refine lv_iload_n hx hb dX5_unwind_9 rfl (lv_at hl 2 rfl) ?_
  have hPc := hP.sub (ws' := [(h0, .inr (9, [.int 0, .ref z0, .ref h1, .ref z1, .int 0, .int 0, .int 0])), (h1, .inr (3, [.int 0, .ref gde, .int 0]))]) [0, 1] rfl
  have hDc := hD.sub (ws' := [(h0, .inr (9, [.int 0, .ref z0, .ref h1, .ref z1, .int 0, .int 0, .int 0])), (h1, .inr (3, [.int 0, .ref gde, .int 0]))]) [0, 1] (by decide) rfl
  have hKc := hK.sub (tys' := []) [] rfl
  have hFc := va_free (wc := [(h0, .inr (9, [.int 0, .ref z0, .ref h1, .ref z1, .int 0, .int 0, .int 0])), (h1, .inr (3, [.int 0, .ref gde, .int 0]))]) hD hS hA [0, 1] rfl
  refine va_calli (va_runV (As := [.int i1]) (rest := [.ref h0]) ⟨hx, hb, hml, hown, hts⟩ (kx_X5_isNoRule_1 l dC dI ge5 gea gv5 gva gde gic gi0 h0 h1 z0 z1 H.size i1 i1_l i1_u) (cwV 1 hts gX5_unwind_X5_isNoRule rfl rfl rfl (by decide +kernel) ⟨Nat.le_of_ble_eq_true rfl, Nat.le_of_ble_eq_true rfl⟩) ⟨fun a U g mk q => by obtain ⟨q0, q1, qP, qK, qD, qG⟩ := q; exact ⟨q0, q1, qP, va_K.moved (u := U) (U := U.calling g mk a) (Vm.Alike.refl U.vm) qK, qD, gv.fb qG⟩, va_recv hKc hPc (ci := 9) (q0 := 0) rfl rfl, fun U hU hW => ⟨rfl, by rw [hU], by rw [hU]; exact hPc, va_K.moved hW.alike hKc, hDc.weaken (fun _ _ _ _ => trivial), gv.pass hW hU hS hFc hG⟩⟩ rfl rfl hl.1 rfl (lv_room (Nat.le_of_ble_eq_true rfl)) dX5_unwind_10 ⟨Nat.le_of_ble_eq_true rfl, Nat.le_of_ble_eq_true rfl⟩) hS (fun q _ h => hFc q h) hFc (fun r9 u t H1 locs ht hvm hw hB hz1 hk1 hS => ?_)
  obtain rfl := hw
  obtain ⟨hP1, hK1, hD1⟩ := hB
  rw [ht] at hP1
  have hK1 := va_K.moved hvm.symm hK1
  obtain ⟨hP, hD⟩ := va_join (wr := []) (w1 := [(h0, .inr (9, [.int 0, .ref z0, .ref h1, .ref z1, .int 0, .int 0, .int 0])), (h1, .inr (3, [.int 0, .ref gde, .int 0]))]) hP hD [0, 1] [] rfl rfl (by decide) (by decide) hk1 hFc hP1 hD1
  generalize H1 = H at hP hS ⊢
  have hP : va_P (dC, dI) vwCl [(h0, .inr (9, [.int 0, .ref z0, .ref h1, .ref z1, .int 0, .int 0, .int 0])), (h1, .inr (3, [.int 0, .ref gde, .int 0]))] H := hP
  have hD : va_D A [(h0, .inr (9, [.int 0, .ref z0, .ref h1, .ref z1, .int 0, .int 0, .int 0])), (h1, .inr (3, [.int 0, .ref gde, .int 0]))] := hD
  refine lv_if_eq (tgt := 20) hx hb dX5_unwind_13 (by decide) (fun c9 => absurd c9 (by decide)) (fun _ => ?_)
  refine lv_iconst (v := 1) hx hb dX5_unwind_16 (by decide) ?_
  refine lv_goto (tgt := 21) hx hb dX5_unwind_17 (by decide) ?_
  refine lv_iconst (v := 0) hx hb dX5_unwind_21 (by decide) ?_
  refine lv_iconst (v := 0) hx hb dX5_unwind_22 (by decide) ?_
  have hPc := hP.sub (ws' := [(h0, .inr (9, [.int 0, .ref z0, .ref h1, .ref z1, .int 0, .int 0, .int 0]))]) [0] rfl
  have hDc := hD.sub (ws' := [(h0, .inr (9, [.int 0, .ref z0, .ref h1, .ref z1, .int 0, .int 0, .int 0]))]) [0] (by decide) rfl
  have hKc := hK.sub (tys' := []) [] rfl
  have hFc := va_free (wc := [(h0, .inr (9, [.int 0, .ref z0, .ref h1, .ref z1, .int 0, .int 0, .int 0]))]) hD hS hA [0] rfl
  refine va_calli (va_runV (As := [.int 1, .int 0, .int 0]) (rest := []) ⟨hx, hb, hml, hown, hts⟩ (kx_X5_fails_0 l dC dI h0 z0 h1 z1 H.size) (cwV 3 hts gX5_unwind_X5_fails rfl rfl rfl (by decide +kernel) ⟨Nat.le_of_ble_eq_true rfl, Nat.le_of_ble_eq_true rfl⟩) ⟨fun a U g mk q => by obtain ⟨q0, q1, qP, qK, qD⟩ := q; exact ⟨q0, q1, qP, va_K.moved (u := U) (U := U.calling g mk a) (Vm.Alike.refl U.vm) qK, qD⟩, va_recv hKc hPc (ci := 9) (q0 := 0) rfl rfl, fun U hU hW => ⟨rfl, by rw [hU], by rw [hU]; exact hPc, va_K.moved hW.alike hKc, hDc.weaken (fun _ _ _ _ => trivial)⟩⟩ rfl rfl hl.1 rfl (lv_room (Nat.le_of_ble_eq_true rfl)) dX5_unwind_23 ⟨Nat.le_of_ble_eq_true rfl, Nat.le_of_ble_eq_true rfl⟩) hS (fun q _ h => hFc q h) hFc (fun r9 u t H1 locs ht hvm hw hB hz1 hk1 hS => ?_)
  obtain rfl := hw
  obtain ⟨hP1, hK1, hD1⟩ := hB
  rw [ht] at hP1
  have hK1 := va_K.moved hvm.symm hK1
  obtain ⟨hP, hD⟩ := va_join (wr := [(h1, .inr (3, [.int 0, .ref gde, .int 0]))]) (w1 := [(h0, .inr (9, [.int 1, .ref z0, .ref h1, .ref z1, .int 0, .int 0, .int 0]))]) hP hD [0] [1] rfl rfl (by decide) (by decide) hk1 hFc hP1 hD1
  generalize H1 = H at hP hS ⊢
  have hP : va_P (dC, dI) vwCl [(h1, .inr (3, [.int 0, .ref gde, .int 0])), (h0, .inr (9, [.int 1, .ref z0, .ref h1, .ref z1, .int 0, .int 0, .int 0]))] H := hP
  have hD : va_D A [(h1, .inr (3, [.int 0, .ref gde, .int 0])), (h0, .inr (9, [.int 1, .ref z0, .ref h1, .ref z1, .int 0, .int 0, .int 0]))] := hD
  refine lv_if_eq (tgt := 31) hx hb dX5_unwind_26 (by decide) (fun c9 => absurd c9 (by decide)) (fun _ => ?_)
  refine lv_iconst (v := 0) hx hb dX5_unwind_29 (by decide) ?_
  have hP := hP.sub (ws' := [(h0, .inr (9, [.int 1, .ref z0, .ref h1, .ref z1, .int 0, .int 0, .int 0])), (h1, .inr (3, [.int 0, .ref gde, .int 0]))]) [1, 0] rfl
  have hD := hD.sub (ws' := [(h0, .inr (9, [.int 1, .ref z0, .ref h1, .ref z1, .int 0, .int 0, .int 0])), (h1, .inr (3, [.int 0, .ref gde, .int 0]))]) [1, 0] (by decide) rfl
  have hP := hP.sub (ws' := [(h0, .inr (9, [.int 1, .ref z0, .ref h1, .ref z1, .int 0, .int 0, .int 0]))]) [0] rfl
  have hD := hD.sub (ws' := [(h0, .inr (9, [.int 1, .ref z0, .ref h1, .ref z1, .int 0, .int 0, .int 0]))]) [0] (by decide) rfl
  exact W.iret (v := 0) hx hb hr (fun t ht hW => ⟨⟨0, (), rfl, rfl, by rw [ht]; exact hP, va_K.moved hW.alike hK, hD⟩, hS.F ht⟩) hS.2.2 dX5_unwind_30
set_option maxHeartbeats 4000000 in
set_option maxRecDepth 100000 in
theorem kx_X1_countSpots_0 (l : Launch) (dC : Nat → ClassId) (dI : Nat → Nat → Nat) (h0 : Nat) (h1 : Nat) (z0 : Nat) (z1 : Nat) (z2 : Nat) (z3 : Nat) (z4 : Nat) (z5 : Nat) (z6 : Nat) (sz : Nat) : Met l yX1_countSpots wsX1_countSpots ({ frames := 0, cells := 0, slots := 0, locals := 0 }) (va_Pc [.ref h0, .ref h1] (fun U => U.heap.size = sz ∧ va_P (dC, dI) vwCl [(h0, .inr (5, [.ref z0, .ref z1, .ref z2, .ref z3, .ref z4, .ref z5, .int 0, .int 0])), (h1, .inr (6, [.ref z6, .int 0]))] U.heap ∧ va_K (dC, dI) vwCl [] U ∧ va_D (fun _ => True) [(h0, .inr (5, [.ref z0, .ref z1, .ref z2, .ref z3, .ref z4, .ref z5, .int 0, .int 0])), (h1, .inr (6, [.ref z6, .int 0]))])) (va_Qi (fun (r : Int32) (_ : Unit) => r = 0) (fun (_ : Unit) (t : State) => va_P (dC, dI) vwCl [(h0, .inr (5, [.ref z0, .ref z1, .ref z2, .ref z3, .ref z4, .ref z5, .int 0, .int 0])), (h1, .inr (6, [.ref z6, .int 0]))] t.heap ∧ va_K (dC, dI) vwCl [] t ∧ va_D (va_A [(h0, .inr (5, [.ref z0, .ref z1, .ref z2, .ref z3, .ref z4, .ref z5, .int 0, .int 0])), (h1, .inr (6, [.ref z6, .int 0]))] sz) [(h0, .inr (5, [.ref z0, .ref z1, .ref z2, .ref z3, .ref z4, .ref z5, .int 0, .int 0])), (h1, .inr (6, [.ref z6, .int 0]))]) (va_A [(h0, .inr (5, [.ref z0, .ref z1, .ref z2, .ref z3, .ref z4, .ref z5, .int 0, .int 0])), (h1, .inr (6, [.ref z6, .int 0]))] sz)) 0 0 (va_A [(h0, .inr (5, [.ref z0, .ref z1, .ref z2, .ref z3, .ref z4, .ref z5, .int 0, .int 0])), (h1, .inr (6, [.ref z6, .int 0]))] sz) := by
  refine Met.ofW (cc := cX1_countSpots) (maxL := 5) (ret := (some .int)) (by decide) rfl ?_
  intro p e s m args below meth c s₁ B hml hv
  obtain ⟨rfl, hsz, hP, hK, hD0⟩ := hv
  have hx := B.exec
  have hb := B.bytes
  have hr := B.returns
  have hts := atoms_spec (ws := wsX1_countSpots) B.pre
  have hown : s.vm.findClass RX1 = some m.cls := findClass_of_methodNamed B.named
  have hlocks := B.notSynchronized
  subst hsz
  have hD := hD0.self (sz := s.heap.size)
  generalize hAe : va_A [(h0, .inr (5, [.ref z0, .ref z1, .ref z2, .ref z3, .ref z4, .ref z5, .int 0, .int 0])), (h1, .inr (6, [.ref z6, .int 0]))] s.heap.size = A at hD ⊢
  have hA : ∀ q : Nat, s.heap.size ≤ q → A q := fun q h => by rw [← hAe]; exact Or.inr h
  have hS : va_S A s.heap s.heap [] := va_S.rf
  have hP : va_P (dC, dI) vwCl [(h0, .inr (5, [.ref z0, .ref z1, .ref z2, .ref z3, .ref z4, .ref z5, .int 0, .int 0])), (h1, .inr (6, [.ref z6, .int 0]))] s.heap := hP
  have hl := lv_entry ([.ref h0, .ref h1]) (n := 5) (Nat.le_of_ble_eq_true rfl)
  rw [lg_entry_eq]
  generalize (lg_sl ([.ref h0, .ref h1]) ++ List.replicate (5 - (lg_sl ([.ref h0, .ref h1])).length) Slot.unset).toArray = ls at hl ⊢
  have hl : lv_has ls 5 [(0, .ref h0), (1, .ref h1)] := hl
  refine lv_iconst (v := 0) hx hb dX1_countSpots_0 (by decide) ?_
  refine lv_istore_n (lv' := [(2, .int 0), (0, .ref h0), (1, .ref h1)]) hx hb dX1_countSpots_1 rfl hl (by decide) rfl (fun ls hl => ?_)
  refine lv_iconst (v := 0) hx hb dX1_countSpots_2 (by decide) ?_
  refine lv_istore_n (lv' := [(3, .int 0), (2, .int 0), (0, .ref h0), (1, .ref h1)]) hx hb dX1_countSpots_3 rfl hl (by decide) rfl (fun ls hl => ?_)
  refine lv_iload_n hx hb dX1_countSpots_4 rfl (lv_at hl 0 rfl) ?_
  refine lv_aload_n hx hb dX1_countSpots_5 rfl (lv_at hl 3 rfl) ?_
  refine va_get (D := (dC, dI)) (ci := 6) (v := .int 0) (C := RX2) (T := TX2) (N := 2) hx hb hts (by decide +kernel) hown hK hP 1 rfl rfl 1 (by decide) (hts (.fieldLink RX1 60 "Rewriterope$Text" "length" "I") (by decide +kernel)) (fun _ h9 => h9) rfl dX1_countSpots_6 ?_
  refine lv_icmp_ge (tgt := 54) hx hb dX1_countSpots_9 (by decide) (fun _ => ?_) (fun c9 => absurd (by decide) c9)
  refine lv_iload_n hx hb dX1_countSpots_54 rfl (lv_at hl 1 rfl) ?_
  exact W.iret (v := 0) hx hb hr (fun t ht hW => ⟨⟨0, (), rfl, rfl, by rw [ht]; exact hP, va_K.moved hW.alike hK, hD⟩, hS.F ht⟩) hS.2.2 dX1_countSpots_55
set_option maxHeartbeats 4000000 in
set_option maxRecDepth 100000 in
theorem kx_X3_spots_0 (l : Launch) (dC : Nat → ClassId) (dI : Nat → Nat → Nat) (h0 : Nat) (h1 : Nat) (h2 : Nat) (h3 : Nat) (h4 : Nat) (h5 : Nat) (h6 : Nat) (z0 : Nat) (z1 : Nat) (z2 : Nat) (z3 : Nat) (z4 : Nat) (z5 : Nat) (z6 : Nat) (z7 : Nat) (z8 : Nat) (z9 : Nat) (z10 : Nat) (z11 : Nat) (z12 : Nat) (z13 : Nat) (k0 : ClassId) (sz : Nat) : Met l yX3_spots wsX3_spots ({ frames := 1, cells := 0, slots := 0, locals := 24 }) (va_Pc [.ref h0, .int 0] (fun U => U.heap.size = sz ∧ va_P (dC, dI) vwCl [(h0, .inr (7, [.ref h1, .ref h2, .ref z0, .ref z1, .ref z2, .ref z3, .int 0, .int 0, .int 0])), (h1, .inl (k0, 4, .inr (.inr (.inr (.inr (va_up (va_up (va_up (va_up (fun _ => none) 0 (some h3)) 1 (some h4)) 2 (some h5)) 3 (some h6))))))), (h2, .inr (5, [.ref z4, .ref z5, .ref z6, .ref z7, .ref z8, .ref z9, .int 0, .int 0])), (h3, .inr (6, [.ref z10, .int 0])), (h4, .inr (6, [.ref z11, .int 0])), (h5, .inr (6, [.ref z12, .int 0])), (h6, .inr (6, [.ref z13, .int 0]))] U.heap ∧ va_K (dC, dI) vwCl [(k0, .object "Rewriterope$Text")] U ∧ va_D (fun _ => True) [(h0, .inr (7, [.ref h1, .ref h2, .ref z0, .ref z1, .ref z2, .ref z3, .int 0, .int 0, .int 0])), (h1, .inl (k0, 4, .inr (.inr (.inr (.inr (va_up (va_up (va_up (va_up (fun _ => none) 0 (some h3)) 1 (some h4)) 2 (some h5)) 3 (some h6))))))), (h2, .inr (5, [.ref z4, .ref z5, .ref z6, .ref z7, .ref z8, .ref z9, .int 0, .int 0])), (h3, .inr (6, [.ref z10, .int 0])), (h4, .inr (6, [.ref z11, .int 0])), (h5, .inr (6, [.ref z12, .int 0])), (h6, .inr (6, [.ref z13, .int 0]))])) (va_Qi (fun (r : Int32) (_ : Unit) => r = 0) (fun (_ : Unit) (t : State) => va_P (dC, dI) vwCl [(h0, .inr (7, [.ref h1, .ref h2, .ref z0, .ref z1, .ref z2, .ref z3, .int 0, .int 0, .int 0])), (h1, .inl (k0, 4, .inr (.inr (.inr (.inr (va_up (va_up (va_up (va_up (fun _ => none) 0 (some h3)) 1 (some h4)) 2 (some h5)) 3 (some h6))))))), (h2, .inr (5, [.ref z4, .ref z5, .ref z6, .ref z7, .ref z8, .ref z9, .int 0, .int 0])), (h3, .inr (6, [.ref z10, .int 0])), (h4, .inr (6, [.ref z11, .int 0])), (h5, .inr (6, [.ref z12, .int 0])), (h6, .inr (6, [.ref z13, .int 0]))] t.heap ∧ va_K (dC, dI) vwCl [(k0, .object "Rewriterope$Text")] t ∧ va_D (va_A [(h0, .inr (7, [.ref h1, .ref h2, .ref z0, .ref z1, .ref z2, .ref z3, .int 0, .int 0, .int 0])), (h1, .inl (k0, 4, .inr (.inr (.inr (.inr (va_up (va_up (va_up (va_up (fun _ => none) 0 (some h3)) 1 (some h4)) 2 (some h5)) 3 (some h6))))))), (h2, .inr (5, [.ref z4, .ref z5, .ref z6, .ref z7, .ref z8, .ref z9, .int 0, .int 0])), (h3, .inr (6, [.ref z10, .int 0])), (h4, .inr (6, [.ref z11, .int 0])), (h5, .inr (6, [.ref z12, .int 0])), (h6, .inr (6, [.ref z13, .int 0]))] sz) [(h0, .inr (7, [.ref h1, .ref h2, .ref z0, .ref z1, .ref z2, .ref z3, .int 0, .int 0, .int 0])), (h1, .inl (k0, 4, .inr (.inr (.inr (.inr (va_up (va_up (va_up (va_up (fun _ => none) 0 (some h3)) 1 (some h4)) 2 (some h5)) 3 (some h6))))))), (h2, .inr (5, [.ref z4, .ref z5, .ref z6, .ref z7, .ref z8, .ref z9, .int 0, .int 0])), (h3, .inr (6, [.ref z10, .int 0])), (h4, .inr (6, [.ref z11, .int 0])), (h5, .inr (6, [.ref z12, .int 0])), (h6, .inr (6, [.ref z13, .int 0]))]) (va_A [(h0, .inr (7, [.ref h1, .ref h2, .ref z0, .ref z1, .ref z2, .ref z3, .int 0, .int 0, .int 0])), (h1, .inl (k0, 4, .inr (.inr (.inr (.inr (va_up (va_up (va_up (va_up (fun _ => none) 0 (some h3)) 1 (some h4)) 2 (some h5)) 3 (some h6))))))), (h2, .inr (5, [.ref z4, .ref z5, .ref z6, .ref z7, .ref z8, .ref z9, .int 0, .int 0])), (h3, .inr (6, [.ref z10, .int 0])), (h4, .inr (6, [.ref z11, .int 0])), (h5, .inr (6, [.ref z12, .int 0])), (h6, .inr (6, [.ref z13, .int 0]))] sz)) 0 0 (va_A [(h0, .inr (7, [.ref h1, .ref h2, .ref z0, .ref z1, .ref z2, .ref z3, .int 0, .int 0, .int 0])), (h1, .inl (k0, 4, .inr (.inr (.inr (.inr (va_up (va_up (va_up (va_up (fun _ => none) 0 (some h3)) 1 (some h4)) 2 (some h5)) 3 (some h6))))))), (h2, .inr (5, [.ref z4, .ref z5, .ref z6, .ref z7, .ref z8, .ref z9, .int 0, .int 0])), (h3, .inr (6, [.ref z10, .int 0])), (h4, .inr (6, [.ref z11, .int 0])), (h5, .inr (6, [.ref z12, .int 0])), (h6, .inr (6, [.ref z13, .int 0]))] sz) := by
  refine Met.ofW (cc := cX3_spots) (maxL := 2) (ret := (some .int)) (by decide) rfl ?_
  intro p e s m args below meth c s₁ B hml hv
  obtain ⟨rfl, hsz, hP, hK, hD0⟩ := hv
  have hx := B.exec
  have hb := B.bytes
  have hr := B.returns
  have hts := atoms_spec (ws := wsX3_spots) B.pre
  have hown : s.vm.findClass RX3 = some m.cls := findClass_of_methodNamed B.named
  have hlocks := B.notSynchronized
  subst hsz
  have hD := hD0.self (sz := s.heap.size)
  generalize hAe : va_A [(h0, .inr (7, [.ref h1, .ref h2, .ref z0, .ref z1, .ref z2, .ref z3, .int 0, .int 0, .int 0])), (h1, .inl (k0, 4, .inr (.inr (.inr (.inr (va_up (va_up (va_up (va_up (fun _ => none) 0 (some h3)) 1 (some h4)) 2 (some h5)) 3 (some h6))))))), (h2, .inr (5, [.ref z4, .ref z5, .ref z6, .ref z7, .ref z8, .ref z9, .int 0, .int 0])), (h3, .inr (6, [.ref z10, .int 0])), (h4, .inr (6, [.ref z11, .int 0])), (h5, .inr (6, [.ref z12, .int 0])), (h6, .inr (6, [.ref z13, .int 0]))] s.heap.size = A at hD ⊢
  have hA : ∀ q : Nat, s.heap.size ≤ q → A q := fun q h => by rw [← hAe]; exact Or.inr h
  have hS : va_S A s.heap s.heap [] := va_S.rf
  have hP : va_P (dC, dI) vwCl [(h0, .inr (7, [.ref h1, .ref h2, .ref z0, .ref z1, .ref z2, .ref z3, .int 0, .int 0, .int 0])), (h1, .inl (k0, 4, .inr (.inr (.inr (.inr (va_up (va_up (va_up (va_up (fun _ => none) 0 (some h3)) 1 (some h4)) 2 (some h5)) 3 (some h6))))))), (h2, .inr (5, [.ref z4, .ref z5, .ref z6, .ref z7, .ref z8, .ref z9, .int 0, .int 0])), (h3, .inr (6, [.ref z10, .int 0])), (h4, .inr (6, [.ref z11, .int 0])), (h5, .inr (6, [.ref z12, .int 0])), (h6, .inr (6, [.ref z13, .int 0]))] s.heap := hP
  have hl := lv_entry ([.ref h0, .int 0]) (n := 2) (Nat.le_of_ble_eq_true rfl)
  rw [lg_entry_eq]
  generalize (lg_sl ([.ref h0, .int 0]) ++ List.replicate (2 - (lg_sl ([.ref h0, .int 0])).length) Slot.unset).toArray = ls at hl ⊢
  have hl : lv_has ls 2 [(0, .ref h0), (1, .int 0)] := hl
  refine lv_iload_n hx hb dX3_spots_0 rfl (lv_at hl 1 rfl) ?_
  have hPc := hP.sub (ws' := []) [] rfl
  have hDc := hD.sub (ws' := []) [] (by decide) rfl
  have hKc := hK.sub (tys' := []) [] rfl
  have hFc := va_free (wc := []) hD hS hA [] rfl
  refine va_callv (va_runS (As := [.int 0]) (rest := []) ⟨hx, hb, hml, hown, hts⟩ (kx_X3_needRope_0 l dC dI s.heap.size) (cwS 1 hts gX3_spots_X3_needRope rfl rfl rfl (by decide +kernel) ⟨Nat.le_of_ble_eq_true rfl, Nat.le_of_ble_eq_true rfl⟩) ⟨fun a U g mk q => by obtain ⟨q0, q1, qP, qK, qD⟩ := q; exact ⟨q0, q1, qP, va_K.moved (u := U) (U := U.calling g mk a) (Vm.Alike.refl U.vm) qK, qD⟩, fun U hU hW => ⟨rfl, by rw [hU], by rw [hU]; exact hPc, va_K.moved hW.alike hKc, hDc.weaken (fun _ _ _ _ => trivial)⟩⟩ rfl rfl hl.1 rfl (lv_room (Nat.le_of_ble_eq_true rfl)) dX3_spots_1 ⟨Nat.le_of_ble_eq_true rfl, Nat.le_of_ble_eq_true rfl⟩) hS (fun q _ h => hFc q h) hFc (fun u t H1 locs ht hvm hw hB hz1 hk1 hS => ?_)
  obtain ⟨hP1, hK1, hD1⟩ := hB
  rw [ht] at hP1
  have hK1 := va_K.moved hvm.symm hK1
  obtain ⟨hP, hD⟩ := va_join (wr := [(h0, .inr (7, [.ref h1, .ref h2, .ref z0, .ref z1, .ref z2, .ref z3, .int 0, .int 0, .int 0])), (h1, .inl (k0, 4, .inr (.inr (.inr (.inr (va_up (va_up (va_up (va_up (fun _ => none) 0 (some h3)) 1 (some h4)) 2 (some h5)) 3 (some h6))))))), (h2, .inr (5, [.ref z4, .ref z5, .ref z6, .ref z7, .ref z8, .ref z9, .int 0, .int 0])), (h3, .inr (6, [.ref z10, .int 0])), (h4, .inr (6, [.ref z11, .int 0])), (h5, .inr (6, [.ref z12, .int 0])), (h6, .inr (6, [.ref z13, .int 0]))]) (w1 := []) hP hD [] [0, 1, 2, 3, 4, 5, 6] rfl rfl (by decide) (by decide) hk1 hFc hP1 hD1
  generalize H1 = H at hP hS ⊢
  have hP : va_P (dC, dI) vwCl [(h0, .inr (7, [.ref h1, .ref h2, .ref z0, .ref z1, .ref z2, .ref z3, .int 0, .int 0, .int 0])), (h1, .inl (k0, 4, .inr (.inr (.inr (.inr (va_up (va_up (va_up (va_up (fun _ => none) 0 (some h3)) 1 (some h4)) 2 (some h5)) 3 (some h6))))))), (h2, .inr (5, [.ref z4, .ref z5, .ref z6, .ref z7, .ref z8, .ref z9, .int 0, .int 0])), (h3, .inr (6, [.ref z10, .int 0])), (h4, .inr (6, [.ref z11, .int 0])), (h5, .inr (6, [.ref z12, .int 0])), (h6, .inr (6, [.ref z13, .int 0]))] H := hP
  have hD : va_D A [(h0, .inr (7, [.ref h1, .ref h2, .ref z0, .ref z1, .ref z2, .ref z3, .int 0, .int 0, .int 0])), (h1, .inl (k0, 4, .inr (.inr (.inr (.inr (va_up (va_up (va_up (va_up (fun _ => none) 0 (some h3)) 1 (some h4)) 2 (some h5)) 3 (some h6))))))), (h2, .inr (5, [.ref z4, .ref z5, .ref z6, .ref z7, .ref z8, .ref z9, .int 0, .int 0])), (h3, .inr (6, [.ref z10, .int 0])), (h4, .inr (6, [.ref z11, .int 0])), (h5, .inr (6, [.ref z12, .int 0])), (h6, .inr (6, [.ref z13, .int 0]))] := hD
  refine lv_aload_n hx hb dX3_spots_4 rfl (lv_at hl 0 rfl) ?_
  refine va_get (D := (dC, dI)) (ci := 7) (v := .ref h2) (C := RX3) (T := TX3) (N := 9) hx hb hts (by decide +kernel) hown hK hP 0 rfl rfl 1 (by decide) (hts (.fieldLink RX3 18 "Rewriterope" "book" "LRewriterope$RuleBook;") (by decide +kernel)) (fun _ h9 => h9) rfl dX3_spots_5 ?_
  refine lv_aload_n hx hb dX3_spots_8 rfl (lv_at hl 0 rfl) ?_
  refine va_get (D := (dC, dI)) (ci := 7) (v := .ref h1) (C := RX3) (T := TX3) (N := 9) hx hb hts (by decide +kernel) hown hK hP 0 rfl rfl 0 (by decide) (hts (.fieldLink RX3 11 "Rewriterope" "ropes" "[LRewriterope$Text;") (by decide +kernel)) (fun _ h9 => h9) rfl dX3_spots_9 ?_
  refine lv_iload_n hx hb dX3_spots_12 rfl (lv_at hl 1 rfl) ?_
  refine va_aldq (D := (dC, dI)) hx hb hK hP 1 0 rfl rfl (by unfold vp_in; decide) dX3_spots_13 ?_
  refine W.eq (g2 := F0 m 14 ls [.ref h3, .ref h2]) rfl ?_
  have hPc := hP.sub (ws' := [(h2, .inr (5, [.ref z4, .ref z5, .ref z6, .ref z7, .ref z8, .ref z9, .int 0, .int 0])), (h3, .inr (6, [.ref z10, .int 0]))]) [2, 3] rfl
  have hDc := hD.sub (ws' := [(h2, .inr (5, [.ref z4, .ref z5, .ref z6, .ref z7, .ref z8, .ref z9, .int 0, .int 0])), (h3, .inr (6, [.ref z10, .int 0]))]) [2, 3] (by decide) rfl
  have hKc := hK.sub (tys' := []) [] rfl
  have hFc := va_free (wc := [(h2, .inr (5, [.ref z4, .ref z5, .ref z6, .ref z7, .ref z8, .ref z9, .int 0, .int 0])), (h3, .inr (6, [.ref z10, .int 0]))]) hD hS hA [2, 3] rfl
  refine va_calli (va_runV (As := [.ref h3]) (rest := []) ⟨hx, hb, hml, hown, hts⟩ (kx_X1_countSpots_0 l dC dI h2 h3 z4 z5 z6 z7 z8 z9 z10 H.size) (cwV 1 hts gX3_spots_X1_countSpots rfl rfl rfl (by decide +kernel) ⟨Nat.le_of_ble_eq_true rfl, Nat.le_of_ble_eq_true rfl⟩) ⟨fun a U g mk q => by obtain ⟨q0, q1, qP, qK, qD⟩ := q; exact ⟨q0, q1, qP, va_K.moved (u := U) (U := U.calling g mk a) (Vm.Alike.refl U.vm) qK, qD⟩, va_recv hKc hPc (ci := 5) (q0 := 0) rfl rfl, fun U hU hW => ⟨rfl, by rw [hU], by rw [hU]; exact hPc, va_K.moved hW.alike hKc, hDc.weaken (fun _ _ _ _ => trivial)⟩⟩ rfl rfl hl.1 rfl (lv_room (Nat.le_of_ble_eq_true rfl)) dX3_spots_14 ⟨Nat.le_of_ble_eq_true rfl, Nat.le_of_ble_eq_true rfl⟩) hS (fun q _ h => hFc q h) hFc (fun r9 u t H1 locs ht hvm hw hB hz1 hk1 hS => ?_)
  obtain rfl := hw
  obtain ⟨hP1, hK1, hD1⟩ := hB
  rw [ht] at hP1
  have hK1 := va_K.moved hvm.symm hK1
  obtain ⟨hP, hD⟩ := va_join (wr := [(h0, .inr (7, [.ref h1, .ref h2, .ref z0, .ref z1, .ref z2, .ref z3, .int 0, .int 0, .int 0])), (h1, .inl (k0, 4, .inr (.inr (.inr (.inr (va_up (va_up (va_up (va_up (fun _ => none) 0 (some h3)) 1 (some h4)) 2 (some h5)) 3 (some h6))))))), (h4, .inr (6, [.ref z11, .int 0])), (h5, .inr (6, [.ref z12, .int 0])), (h6, .inr (6, [.ref z13, .int 0]))]) (w1 := [(h2, .inr (5, [.ref z4, .ref z5, .ref z6, .ref z7, .ref z8, .ref z9, .int 0, .int 0])), (h3, .inr (6, [.ref z10, .int 0]))]) hP hD [2, 3] [0, 1, 4, 5, 6] rfl rfl (by decide) (by decide) hk1 hFc hP1 hD1
  generalize H1 = H at hP hS ⊢
  have hP : va_P (dC, dI) vwCl [(h0, .inr (7, [.ref h1, .ref h2, .ref z0, .ref z1, .ref z2, .ref z3, .int 0, .int 0, .int 0])), (h1, .inl (k0, 4, .inr (.inr (.inr (.inr (va_up (va_up (va_up (va_up (fun _ => none) 0 (some h3)) 1 (some h4)) 2 (some h5)) 3 (some h6))))))), (h4, .inr (6, [.ref z11, .int 0])), (h5, .inr (6, [.ref z12, .int 0])), (h6, .inr (6, [.ref z13, .int 0])), (h2, .inr (5, [.ref z4, .ref z5, .ref z6, .ref z7, .ref z8, .ref z9, .int 0, .int 0])), (h3, .inr (6, [.ref z10, .int 0]))] H := hP
  have hD : va_D A [(h0, .inr (7, [.ref h1, .ref h2, .ref z0, .ref z1, .ref z2, .ref z3, .int 0, .int 0, .int 0])), (h1, .inl (k0, 4, .inr (.inr (.inr (.inr (va_up (va_up (va_up (va_up (fun _ => none) 0 (some h3)) 1 (some h4)) 2 (some h5)) 3 (some h6))))))), (h4, .inr (6, [.ref z11, .int 0])), (h5, .inr (6, [.ref z12, .int 0])), (h6, .inr (6, [.ref z13, .int 0])), (h2, .inr (5, [.ref z4, .ref z5, .ref z6, .ref z7, .ref z8, .ref z9, .int 0, .int 0])), (h3, .inr (6, [.ref z10, .int 0]))] := hD
  have hP := hP.sub (ws' := [(h0, .inr (7, [.ref h1, .ref h2, .ref z0, .ref z1, .ref z2, .ref z3, .int 0, .int 0, .int 0])), (h1, .inl (k0, 4, .inr (.inr (.inr (.inr (va_up (va_up (va_up (va_up (fun _ => none) 0 (some h3)) 1 (some h4)) 2 (some h5)) 3 (some h6))))))), (h2, .inr (5, [.ref z4, .ref z5, .ref z6, .ref z7, .ref z8, .ref z9, .int 0, .int 0])), (h3, .inr (6, [.ref z10, .int 0])), (h4, .inr (6, [.ref z11, .int 0])), (h5, .inr (6, [.ref z12, .int 0])), (h6, .inr (6, [.ref z13, .int 0]))]) [0, 1, 5, 6, 2, 3, 4] rfl
  have hD := hD.sub (ws' := [(h0, .inr (7, [.ref h1, .ref h2, .ref z0, .ref z1, .ref z2, .ref z3, .int 0, .int 0, .int 0])), (h1, .inl (k0, 4, .inr (.inr (.inr (.inr (va_up (va_up (va_up (va_up (fun _ => none) 0 (some h3)) 1 (some h4)) 2 (some h5)) 3 (some h6))))))), (h2, .inr (5, [.ref z4, .ref z5, .ref z6, .ref z7, .ref z8, .ref z9, .int 0, .int 0])), (h3, .inr (6, [.ref z10, .int 0])), (h4, .inr (6, [.ref z11, .int 0])), (h5, .inr (6, [.ref z12, .int 0])), (h6, .inr (6, [.ref z13, .int 0]))]) [0, 1, 5, 6, 2, 3, 4] (by decide) rfl
  exact W.iret (v := 0) hx hb hr (fun t ht hW => ⟨⟨0, (), rfl, rfl, by rw [ht]; exact hP, va_K.moved hW.alike hK, hD⟩, hS.F ht⟩) hS.2.2 dX3_spots_17
set_option maxHeartbeats 4000000 in
set_option maxRecDepth 100000 in
theorem kx_X3_spots_1 (l : Launch) (dC : Nat → ClassId) (dI : Nat → Nat → Nat) (h0 : Nat) (h1 : Nat) (h2 : Nat) (h3 : Nat) (h4 : Nat) (h5 : Nat) (h6 : Nat) (z0 : Nat) (z1 : Nat) (z2 : Nat) (z3 : Nat) (z4 : Nat) (z5 : Nat) (z6 : Nat) (z7 : Nat) (z8 : Nat) (z9 : Nat) (z10 : Nat) (z11 : Nat) (z12 : Nat) (z13 : Nat) (k0 : ClassId) (sz : Nat) : Met l yX3_spots wsX3_spots ({ frames := 1, cells := 0, slots := 0, locals := 24 }) (va_Pc [.ref h0, .int 1] (fun U => U.heap.size = sz ∧ va_P (dC, dI) vwCl [(h0, .inr (7, [.ref h1, .ref h2, .ref z0, .ref z1, .ref z2, .ref z3, .int 0, .int 0, .int 0])), (h1, .inl (k0, 4, .inr (.inr (.inr (.inr (va_up (va_up (va_up (va_up (fun _ => none) 0 (some h3)) 1 (some h4)) 2 (some h5)) 3 (some h6))))))), (h2, .inr (5, [.ref z4, .ref z5, .ref z6, .ref z7, .ref z8, .ref z9, .int 0, .int 0])), (h3, .inr (6, [.ref z10, .int 0])), (h4, .inr (6, [.ref z11, .int 0])), (h5, .inr (6, [.ref z12, .int 0])), (h6, .inr (6, [.ref z13, .int 0]))] U.heap ∧ va_K (dC, dI) vwCl [(k0, .object "Rewriterope$Text")] U ∧ va_D (fun _ => True) [(h0, .inr (7, [.ref h1, .ref h2, .ref z0, .ref z1, .ref z2, .ref z3, .int 0, .int 0, .int 0])), (h1, .inl (k0, 4, .inr (.inr (.inr (.inr (va_up (va_up (va_up (va_up (fun _ => none) 0 (some h3)) 1 (some h4)) 2 (some h5)) 3 (some h6))))))), (h2, .inr (5, [.ref z4, .ref z5, .ref z6, .ref z7, .ref z8, .ref z9, .int 0, .int 0])), (h3, .inr (6, [.ref z10, .int 0])), (h4, .inr (6, [.ref z11, .int 0])), (h5, .inr (6, [.ref z12, .int 0])), (h6, .inr (6, [.ref z13, .int 0]))])) (va_Qi (fun (r : Int32) (_ : Unit) => r = 0) (fun (_ : Unit) (t : State) => va_P (dC, dI) vwCl [(h0, .inr (7, [.ref h1, .ref h2, .ref z0, .ref z1, .ref z2, .ref z3, .int 0, .int 0, .int 0])), (h1, .inl (k0, 4, .inr (.inr (.inr (.inr (va_up (va_up (va_up (va_up (fun _ => none) 0 (some h3)) 1 (some h4)) 2 (some h5)) 3 (some h6))))))), (h2, .inr (5, [.ref z4, .ref z5, .ref z6, .ref z7, .ref z8, .ref z9, .int 0, .int 0])), (h3, .inr (6, [.ref z10, .int 0])), (h4, .inr (6, [.ref z11, .int 0])), (h5, .inr (6, [.ref z12, .int 0])), (h6, .inr (6, [.ref z13, .int 0]))] t.heap ∧ va_K (dC, dI) vwCl [(k0, .object "Rewriterope$Text")] t ∧ va_D (va_A [(h0, .inr (7, [.ref h1, .ref h2, .ref z0, .ref z1, .ref z2, .ref z3, .int 0, .int 0, .int 0])), (h1, .inl (k0, 4, .inr (.inr (.inr (.inr (va_up (va_up (va_up (va_up (fun _ => none) 0 (some h3)) 1 (some h4)) 2 (some h5)) 3 (some h6))))))), (h2, .inr (5, [.ref z4, .ref z5, .ref z6, .ref z7, .ref z8, .ref z9, .int 0, .int 0])), (h3, .inr (6, [.ref z10, .int 0])), (h4, .inr (6, [.ref z11, .int 0])), (h5, .inr (6, [.ref z12, .int 0])), (h6, .inr (6, [.ref z13, .int 0]))] sz) [(h0, .inr (7, [.ref h1, .ref h2, .ref z0, .ref z1, .ref z2, .ref z3, .int 0, .int 0, .int 0])), (h1, .inl (k0, 4, .inr (.inr (.inr (.inr (va_up (va_up (va_up (va_up (fun _ => none) 0 (some h3)) 1 (some h4)) 2 (some h5)) 3 (some h6))))))), (h2, .inr (5, [.ref z4, .ref z5, .ref z6, .ref z7, .ref z8, .ref z9, .int 0, .int 0])), (h3, .inr (6, [.ref z10, .int 0])), (h4, .inr (6, [.ref z11, .int 0])), (h5, .inr (6, [.ref z12, .int 0])), (h6, .inr (6, [.ref z13, .int 0]))]) (va_A [(h0, .inr (7, [.ref h1, .ref h2, .ref z0, .ref z1, .ref z2, .ref z3, .int 0, .int 0, .int 0])), (h1, .inl (k0, 4, .inr (.inr (.inr (.inr (va_up (va_up (va_up (va_up (fun _ => none) 0 (some h3)) 1 (some h4)) 2 (some h5)) 3 (some h6))))))), (h2, .inr (5, [.ref z4, .ref z5, .ref z6, .ref z7, .ref z8, .ref z9, .int 0, .int 0])), (h3, .inr (6, [.ref z10, .int 0])), (h4, .inr (6, [.ref z11, .int 0])), (h5, .inr (6, [.ref z12, .int 0])), (h6, .inr (6, [.ref z13, .int 0]))] sz)) 0 0 (va_A [(h0, .inr (7, [.ref h1, .ref h2, .ref z0, .ref z1, .ref z2, .ref z3, .int 0, .int 0, .int 0])), (h1, .inl (k0, 4, .inr (.inr (.inr (.inr (va_up (va_up (va_up (va_up (fun _ => none) 0 (some h3)) 1 (some h4)) 2 (some h5)) 3 (some h6))))))), (h2, .inr (5, [.ref z4, .ref z5, .ref z6, .ref z7, .ref z8, .ref z9, .int 0, .int 0])), (h3, .inr (6, [.ref z10, .int 0])), (h4, .inr (6, [.ref z11, .int 0])), (h5, .inr (6, [.ref z12, .int 0])), (h6, .inr (6, [.ref z13, .int 0]))] sz) := by
  refine Met.ofW (cc := cX3_spots) (maxL := 2) (ret := (some .int)) (by decide) rfl ?_
  intro p e s m args below meth c s₁ B hml hv
  obtain ⟨rfl, hsz, hP, hK, hD0⟩ := hv
  have hx := B.exec
  have hb := B.bytes
  have hr := B.returns
  have hts := atoms_spec (ws := wsX3_spots) B.pre
  have hown : s.vm.findClass RX3 = some m.cls := findClass_of_methodNamed B.named
  have hlocks := B.notSynchronized
  subst hsz
  have hD := hD0.self (sz := s.heap.size)
  generalize hAe : va_A [(h0, .inr (7, [.ref h1, .ref h2, .ref z0, .ref z1, .ref z2, .ref z3, .int 0, .int 0, .int 0])), (h1, .inl (k0, 4, .inr (.inr (.inr (.inr (va_up (va_up (va_up (va_up (fun _ => none) 0 (some h3)) 1 (some h4)) 2 (some h5)) 3 (some h6))))))), (h2, .inr (5, [.ref z4, .ref z5, .ref z6, .ref z7, .ref z8, .ref z9, .int 0, .int 0])), (h3, .inr (6, [.ref z10, .int 0])), (h4, .inr (6, [.ref z11, .int 0])), (h5, .inr (6, [.ref z12, .int 0])), (h6, .inr (6, [.ref z13, .int 0]))] s.heap.size = A at hD ⊢
  have hA : ∀ q : Nat, s.heap.size ≤ q → A q := fun q h => by rw [← hAe]; exact Or.inr h
  have hS : va_S A s.heap s.heap [] := va_S.rf
  have hP : va_P (dC, dI) vwCl [(h0, .inr (7, [.ref h1, .ref h2, .ref z0, .ref z1, .ref z2, .ref z3, .int 0, .int 0, .int 0])), (h1, .inl (k0, 4, .inr (.inr (.inr (.inr (va_up (va_up (va_up (va_up (fun _ => none) 0 (some h3)) 1 (some h4)) 2 (some h5)) 3 (some h6))))))), (h2, .inr (5, [.ref z4, .ref z5, .ref z6, .ref z7, .ref z8, .ref z9, .int 0, .int 0])), (h3, .inr (6, [.ref z10, .int 0])), (h4, .inr (6, [.ref z11, .int 0])), (h5, .inr (6, [.ref z12, .int 0])), (h6, .inr (6, [.ref z13, .int 0]))] s.heap := hP
  have hl := lv_entry ([.ref h0, .int 1]) (n := 2) (Nat.le_of_ble_eq_true rfl)
  rw [lg_entry_eq]
  generalize (lg_sl ([.ref h0, .int 1]) ++ List.replicate (2 - (lg_sl ([.ref h0, .int 1])).length) Slot.unset).toArray = ls at hl ⊢
  have hl : lv_has ls 2 [(0, .ref h0), (1, .int 1)] := hl
  refine lv_iload_n hx hb dX3_spots_0 rfl (lv_at hl 1 rfl) ?_
  have hPc := hP.sub (ws' := []) [] rfl
  have hDc := hD.sub (ws' := []) [] (by decide) rfl
  have hKc := hK.sub (tys' := []) [] rfl
  have hFc := va_free (wc := []) hD hS hA [] rfl
  refine va_callv (va_runS (As := [.int 1]) (rest := []) ⟨hx, hb, hml, hown, hts⟩ (kx_X3_needRope_1 l dC dI s.heap.size) (cwS 1 hts gX3_spots_X3_needRope rfl rfl rfl (by decide +kernel) ⟨Nat.le_of_ble_eq_true rfl, Nat.le_of_ble_eq_true rfl⟩) ⟨fun a U g mk q => by obtain ⟨q0, q1, qP, qK, qD⟩ := q; exact ⟨q0, q1, qP, va_K.moved (u := U) (U := U.calling g mk a) (Vm.Alike.refl U.vm) qK, qD⟩, fun U hU hW => ⟨rfl, by rw [hU], by rw [hU]; exact hPc, va_K.moved hW.alike hKc, hDc.weaken (fun _ _ _ _ => trivial)⟩⟩ rfl rfl hl.1 rfl (lv_room (Nat.le_of_ble_eq_true rfl)) dX3_spots_1 ⟨Nat.le_of_ble_eq_true rfl, Nat.le_of_ble_eq_true rfl⟩) hS (fun q _ h => hFc q h) hFc (fun u t H1 locs ht hvm hw hB hz1 hk1 hS => ?_)
  obtain ⟨hP1, hK1, hD1⟩ := hB
  rw [ht] at hP1
  have hK1 := va_K.moved hvm.symm hK1
  obtain ⟨hP, hD⟩ := va_join (wr := [(h0, .inr (7, [.ref h1, .ref h2, .ref z0, .ref z1, .ref z2, .ref z3, .int 0, .int 0, .int 0])), (h1, .inl (k0, 4, .inr (.inr (.inr (.inr (va_up (va_up (va_up (va_up (fun _ => none) 0 (some h3)) 1 (some h4)) 2 (some h5)) 3 (some h6))))))), (h2, .inr (5, [.ref z4, .ref z5, .ref z6, .ref z7, .ref z8, .ref z9, .int 0, .int 0])), (h3, .inr (6, [.ref z10, .int 0])), (h4, .inr (6, [.ref z11, .int 0])), (h5, .inr (6, [.ref z12, .int 0])), (h6, .inr (6, [.ref z13, .int 0]))]) (w1 := []) hP hD [] [0, 1, 2, 3, 4, 5, 6] rfl rfl (by decide) (by decide) hk1 hFc hP1 hD1
  generalize H1 = H at hP hS ⊢
  have hP : va_P (dC, dI) vwCl [(h0, .inr (7, [.ref h1, .ref h2, .ref z0, .ref z1, .ref z2, .ref z3, .int 0, .int 0, .int 0])), (h1, .inl (k0, 4, .inr (.inr (.inr (.inr (va_up (va_up (va_up (va_up (fun _ => none) 0 (some h3)) 1 (some h4)) 2 (some h5)) 3 (some h6))))))), (h2, .inr (5, [.ref z4, .ref z5, .ref z6, .ref z7, .ref z8, .ref z9, .int 0, .int 0])), (h3, .inr (6, [.ref z10, .int 0])), (h4, .inr (6, [.ref z11, .int 0])), (h5, .inr (6, [.ref z12, .int 0])), (h6, .inr (6, [.ref z13, .int 0]))] H := hP
  have hD : va_D A [(h0, .inr (7, [.ref h1, .ref h2, .ref z0, .ref z1, .ref z2, .ref z3, .int 0, .int 0, .int 0])), (h1, .inl (k0, 4, .inr (.inr (.inr (.inr (va_up (va_up (va_up (va_up (fun _ => none) 0 (some h3)) 1 (some h4)) 2 (some h5)) 3 (some h6))))))), (h2, .inr (5, [.ref z4, .ref z5, .ref z6, .ref z7, .ref z8, .ref z9, .int 0, .int 0])), (h3, .inr (6, [.ref z10, .int 0])), (h4, .inr (6, [.ref z11, .int 0])), (h5, .inr (6, [.ref z12, .int 0])), (h6, .inr (6, [.ref z13, .int 0]))] := hD
  refine lv_aload_n hx hb dX3_spots_4 rfl (lv_at hl 0 rfl) ?_
  refine va_get (D := (dC, dI)) (ci := 7) (v := .ref h2) (C := RX3) (T := TX3) (N := 9) hx hb hts (by decide +kernel) hown hK hP 0 rfl rfl 1 (by decide) (hts (.fieldLink RX3 18 "Rewriterope" "book" "LRewriterope$RuleBook;") (by decide +kernel)) (fun _ h9 => h9) rfl dX3_spots_5 ?_
  refine lv_aload_n hx hb dX3_spots_8 rfl (lv_at hl 0 rfl) ?_
  refine va_get (D := (dC, dI)) (ci := 7) (v := .ref h1) (C := RX3) (T := TX3) (N := 9) hx hb hts (by decide +kernel) hown hK hP 0 rfl rfl 0 (by decide) (hts (.fieldLink RX3 11 "Rewriterope" "ropes" "[LRewriterope$Text;") (by decide +kernel)) (fun _ h9 => h9) rfl dX3_spots_9 ?_
  refine lv_iload_n hx hb dX3_spots_12 rfl (lv_at hl 1 rfl) ?_
  refine va_aldq (D := (dC, dI)) hx hb hK hP 1 0 rfl rfl (by unfold vp_in; decide) dX3_spots_13 ?_
  refine W.eq (g2 := F0 m 14 ls [.ref h4, .ref h2]) rfl ?_
  have hPc := hP.sub (ws' := [(h2, .inr (5, [.ref z4, .ref z5, .ref z6, .ref z7, .ref z8, .ref z9, .int 0, .int 0])), (h4, .inr (6, [.ref z11, .int 0]))]) [2, 4] rfl
  have hDc := hD.sub (ws' := [(h2, .inr (5, [.ref z4, .ref z5, .ref z6, .ref z7, .ref z8, .ref z9, .int 0, .int 0])), (h4, .inr (6, [.ref z11, .int 0]))]) [2, 4] (by decide) rfl
  have hKc := hK.sub (tys' := []) [] rfl
  have hFc := va_free (wc := [(h2, .inr (5, [.ref z4, .ref z5, .ref z6, .ref z7, .ref z8, .ref z9, .int 0, .int 0])), (h4, .inr (6, [.ref z11, .int 0]))]) hD hS hA [2, 4] rfl
  refine va_calli (va_runV (As := [.ref h4]) (rest := []) ⟨hx, hb, hml, hown, hts⟩ (kx_X1_countSpots_0 l dC dI h2 h4 z4 z5 z6 z7 z8 z9 z11 H.size) (cwV 1 hts gX3_spots_X1_countSpots rfl rfl rfl (by decide +kernel) ⟨Nat.le_of_ble_eq_true rfl, Nat.le_of_ble_eq_true rfl⟩) ⟨fun a U g mk q => by obtain ⟨q0, q1, qP, qK, qD⟩ := q; exact ⟨q0, q1, qP, va_K.moved (u := U) (U := U.calling g mk a) (Vm.Alike.refl U.vm) qK, qD⟩, va_recv hKc hPc (ci := 5) (q0 := 0) rfl rfl, fun U hU hW => ⟨rfl, by rw [hU], by rw [hU]; exact hPc, va_K.moved hW.alike hKc, hDc.weaken (fun _ _ _ _ => trivial)⟩⟩ rfl rfl hl.1 rfl (lv_room (Nat.le_of_ble_eq_true rfl)) dX3_spots_14 ⟨Nat.le_of_ble_eq_true rfl, Nat.le_of_ble_eq_true rfl⟩) hS (fun q _ h => hFc q h) hFc (fun r9 u t H1 locs ht hvm hw hB hz1 hk1 hS => ?_)
  obtain rfl := hw
  obtain ⟨hP1, hK1, hD1⟩ := hB
  rw [ht] at hP1
  have hK1 := va_K.moved hvm.symm hK1
  obtain ⟨hP, hD⟩ := va_join (wr := [(h0, .inr (7, [.ref h1, .ref h2, .ref z0, .ref z1, .ref z2, .ref z3, .int 0, .int 0, .int 0])), (h1, .inl (k0, 4, .inr (.inr (.inr (.inr (va_up (va_up (va_up (va_up (fun _ => none) 0 (some h3)) 1 (some h4)) 2 (some h5)) 3 (some h6))))))), (h3, .inr (6, [.ref z10, .int 0])), (h5, .inr (6, [.ref z12, .int 0])), (h6, .inr (6, [.ref z13, .int 0]))]) (w1 := [(h2, .inr (5, [.ref z4, .ref z5, .ref z6, .ref z7, .ref z8, .ref z9, .int 0, .int 0])), (h4, .inr (6, [.ref z11, .int 0]))]) hP hD [2, 4] [0, 1, 3, 5, 6] rfl rfl (by decide) (by decide) hk1 hFc hP1 hD1
  generalize H1 = H at hP hS ⊢
  have hP : va_P (dC, dI) vwCl [(h0, .inr (7, [.ref h1, .ref h2, .ref z0, .ref z1, .ref z2, .ref z3, .int 0, .int 0, .int 0])), (h1, .inl (k0, 4, .inr (.inr (.inr (.inr (va_up (va_up (va_up (va_up (fun _ => none) 0 (some h3)) 1 (some h4)) 2 (some h5)) 3 (some h6))))))), (h3, .inr (6, [.ref z10, .int 0])), (h5, .inr (6, [.ref z12, .int 0])), (h6, .inr (6, [.ref z13, .int 0])), (h2, .inr (5, [.ref z4, .ref z5, .ref z6, .ref z7, .ref z8, .ref z9, .int 0, .int 0])), (h4, .inr (6, [.ref z11, .int 0]))] H := hP
  have hD : va_D A [(h0, .inr (7, [.ref h1, .ref h2, .ref z0, .ref z1, .ref z2, .ref z3, .int 0, .int 0, .int 0])), (h1, .inl (k0, 4, .inr (.inr (.inr (.inr (va_up (va_up (va_up (va_up (fun _ => none) 0 (some h3)) 1 (some h4)) 2 (some h5)) 3 (some h6))))))), (h3, .inr (6, [.ref z10, .int 0])), (h5, .inr (6, [.ref z12, .int 0])), (h6, .inr (6, [.ref z13, .int 0])), (h2, .inr (5, [.ref z4, .ref z5, .ref z6, .ref z7, .ref z8, .ref z9, .int 0, .int 0])), (h4, .inr (6, [.ref z11, .int 0]))] := hD
  have hP := hP.sub (ws' := [(h0, .inr (7, [.ref h1, .ref h2, .ref z0, .ref z1, .ref z2, .ref z3, .int 0, .int 0, .int 0])), (h1, .inl (k0, 4, .inr (.inr (.inr (.inr (va_up (va_up (va_up (va_up (fun _ => none) 0 (some h3)) 1 (some h4)) 2 (some h5)) 3 (some h6))))))), (h2, .inr (5, [.ref z4, .ref z5, .ref z6, .ref z7, .ref z8, .ref z9, .int 0, .int 0])), (h3, .inr (6, [.ref z10, .int 0])), (h4, .inr (6, [.ref z11, .int 0])), (h5, .inr (6, [.ref z12, .int 0])), (h6, .inr (6, [.ref z13, .int 0]))]) [0, 1, 5, 2, 6, 3, 4] rfl
  have hD := hD.sub (ws' := [(h0, .inr (7, [.ref h1, .ref h2, .ref z0, .ref z1, .ref z2, .ref z3, .int 0, .int 0, .int 0])), (h1, .inl (k0, 4, .inr (.inr (.inr (.inr (va_up (va_up (va_up (va_up (fun _ => none) 0 (some h3)) 1 (some h4)) 2 (some h5)) 3 (some h6))))))), (h2, .inr (5, [.ref z4, .ref z5, .ref z6, .ref z7, .ref z8, .ref z9, .int 0, .int 0])), (h3, .inr (6, [.ref z10, .int 0])), (h4, .inr (6, [.ref z11, .int 0])), (h5, .inr (6, [.ref z12, .int 0])), (h6, .inr (6, [.ref z13, .int 0]))]) [0, 1, 5, 2, 6, 3, 4] (by decide) rfl
  exact W.iret (v := 0) hx hb hr (fun t ht hW => ⟨⟨0, (), rfl, rfl, by rw [ht]; exact hP, va_K.moved hW.alike hK, hD⟩, hS.F ht⟩) hS.2.2 dX3_spots_17
set_option maxHeartbeats 4000000 in
set_option maxRecDepth 100000 in
theorem kx_X3_spots_2 (l : Launch) (dC : Nat → ClassId) (dI : Nat → Nat → Nat) (h0 : Nat) (h1 : Nat) (h2 : Nat) (h3 : Nat) (h4 : Nat) (h5 : Nat) (h6 : Nat) (z0 : Nat) (z1 : Nat) (z2 : Nat) (z3 : Nat) (z4 : Nat) (z5 : Nat) (z6 : Nat) (z7 : Nat) (z8 : Nat) (z9 : Nat) (z10 : Nat) (z11 : Nat) (z12 : Nat) (z13 : Nat) (k0 : ClassId) (sz : Nat) : Met l yX3_spots wsX3_spots ({ frames := 1, cells := 0, slots := 0, locals := 24 }) (va_Pc [.ref h0, .int 2] (fun U => U.heap.size = sz ∧ va_P (dC, dI) vwCl [(h0, .inr (7, [.ref h1, .ref h2, .ref z0, .ref z1, .ref z2, .ref z3, .int 0, .int 0, .int 0])), (h1, .inl (k0, 4, .inr (.inr (.inr (.inr (va_up (va_up (va_up (va_up (fun _ => none) 0 (some h3)) 1 (some h4)) 2 (some h5)) 3 (some h6))))))), (h2, .inr (5, [.ref z4, .ref z5, .ref z6, .ref z7, .ref z8, .ref z9, .int 0, .int 0])), (h3, .inr (6, [.ref z10, .int 0])), (h4, .inr (6, [.ref z11, .int 0])), (h5, .inr (6, [.ref z12, .int 0])), (h6, .inr (6, [.ref z13, .int 0]))] U.heap ∧ va_K (dC, dI) vwCl [(k0, .object "Rewriterope$Text")] U ∧ va_D (fun _ => True) [(h0, .inr (7, [.ref h1, .ref h2, .ref z0, .ref z1, .ref z2, .ref z3, .int 0, .int 0, .int 0])), (h1, .inl (k0, 4, .inr (.inr (.inr (.inr (va_up (va_up (va_up (va_up (fun _ => none) 0 (some h3)) 1 (some h4)) 2 (some h5)) 3 (some h6))))))), (h2, .inr (5, [.ref z4, .ref z5, .ref z6, .ref z7, .ref z8, .ref z9, .int 0, .int 0])), (h3, .inr (6, [.ref z10, .int 0])), (h4, .inr (6, [.ref z11, .int 0])), (h5, .inr (6, [.ref z12, .int 0])), (h6, .inr (6, [.ref z13, .int 0]))])) (va_Qi (fun (r : Int32) (_ : Unit) => r = 0) (fun (_ : Unit) (t : State) => va_P (dC, dI) vwCl [(h0, .inr (7, [.ref h1, .ref h2, .ref z0, .ref z1, .ref z2, .ref z3, .int 0, .int 0, .int 0])), (h1, .inl (k0, 4, .inr (.inr (.inr (.inr (va_up (va_up (va_up (va_up (fun _ => none) 0 (some h3)) 1 (some h4)) 2 (some h5)) 3 (some h6))))))), (h2, .inr (5, [.ref z4, .ref z5, .ref z6, .ref z7, .ref z8, .ref z9, .int 0, .int 0])), (h3, .inr (6, [.ref z10, .int 0])), (h4, .inr (6, [.ref z11, .int 0])), (h5, .inr (6, [.ref z12, .int 0])), (h6, .inr (6, [.ref z13, .int 0]))] t.heap ∧ va_K (dC, dI) vwCl [(k0, .object "Rewriterope$Text")] t ∧ va_D (va_A [(h0, .inr (7, [.ref h1, .ref h2, .ref z0, .ref z1, .ref z2, .ref z3, .int 0, .int 0, .int 0])), (h1, .inl (k0, 4, .inr (.inr (.inr (.inr (va_up (va_up (va_up (va_up (fun _ => none) 0 (some h3)) 1 (some h4)) 2 (some h5)) 3 (some h6))))))), (h2, .inr (5, [.ref z4, .ref z5, .ref z6, .ref z7, .ref z8, .ref z9, .int 0, .int 0])), (h3, .inr (6, [.ref z10, .int 0])), (h4, .inr (6, [.ref z11, .int 0])), (h5, .inr (6, [.ref z12, .int 0])), (h6, .inr (6, [.ref z13, .int 0]))] sz) [(h0, .inr (7, [.ref h1, .ref h2, .ref z0, .ref z1, .ref z2, .ref z3, .int 0, .int 0, .int 0])), (h1, .inl (k0, 4, .inr (.inr (.inr (.inr (va_up (va_up (va_up (va_up (fun _ => none) 0 (some h3)) 1 (some h4)) 2 (some h5)) 3 (some h6))))))), (h2, .inr (5, [.ref z4, .ref z5, .ref z6, .ref z7, .ref z8, .ref z9, .int 0, .int 0])), (h3, .inr (6, [.ref z10, .int 0])), (h4, .inr (6, [.ref z11, .int 0])), (h5, .inr (6, [.ref z12, .int 0])), (h6, .inr (6, [.ref z13, .int 0]))]) (va_A [(h0, .inr (7, [.ref h1, .ref h2, .ref z0, .ref z1, .ref z2, .ref z3, .int 0, .int 0, .int 0])), (h1, .inl (k0, 4, .inr (.inr (.inr (.inr (va_up (va_up (va_up (va_up (fun _ => none) 0 (some h3)) 1 (some h4)) 2 (some h5)) 3 (some h6))))))), (h2, .inr (5, [.ref z4, .ref z5, .ref z6, .ref z7, .ref z8, .ref z9, .int 0, .int 0])), (h3, .inr (6, [.ref z10, .int 0])), (h4, .inr (6, [.ref z11, .int 0])), (h5, .inr (6, [.ref z12, .int 0])), (h6, .inr (6, [.ref z13, .int 0]))] sz)) 0 0 (va_A [(h0, .inr (7, [.ref h1, .ref h2, .ref z0, .ref z1, .ref z2, .ref z3, .int 0, .int 0, .int 0])), (h1, .inl (k0, 4, .inr (.inr (.inr (.inr (va_up (va_up (va_up (va_up (fun _ => none) 0 (some h3)) 1 (some h4)) 2 (some h5)) 3 (some h6))))))), (h2, .inr (5, [.ref z4, .ref z5, .ref z6, .ref z7, .ref z8, .ref z9, .int 0, .int 0])), (h3, .inr (6, [.ref z10, .int 0])), (h4, .inr (6, [.ref z11, .int 0])), (h5, .inr (6, [.ref z12, .int 0])), (h6, .inr (6, [.ref z13, .int 0]))] sz) := by
  refine Met.ofW (cc := cX3_spots) (maxL := 2) (ret := (some .int)) (by decide) rfl ?_
  intro p e s m args below meth c s₁ B hml hv
  obtain ⟨rfl, hsz, hP, hK, hD0⟩ := hv
  have hx := B.exec
  have hb := B.bytes
  have hr := B.returns
  have hts := atoms_spec (ws := wsX3_spots) B.pre
  have hown : s.vm.findClass RX3 = some m.cls := findClass_of_methodNamed B.named
  have hlocks := B.notSynchronized
  subst hsz
  have hD := hD0.self (sz := s.heap.size)
  generalize hAe : va_A [(h0, .inr (7, [.ref h1, .ref h2, .ref z0, .ref z1, .ref z2, .ref z3, .int 0, .int 0, .int 0])), (h1, .inl (k0, 4, .inr (.inr (.inr (.inr (va_up (va_up (va_up (va_up (fun _ => none) 0 (some h3)) 1 (some h4)) 2 (some h5)) 3 (some h6))))))), (h2, .inr (5, [.ref z4, .ref z5, .ref z6, .ref z7, .ref z8, .ref z9, .int 0, .int 0])), (h3, .inr (6, [.ref z10, .int 0])), (h4, .inr (6, [.ref z11, .int 0])), (h5, .inr (6, [.ref z12, .int 0])), (h6, .inr (6, [.ref z13, .int 0]))] s.heap.size = A at hD ⊢
  have hA : ∀ q : Nat, s.heap.size ≤ q → A q := fun q h => by rw [← hAe]; exact Or.inr h
  have hS : va_S A s.heap s.heap [] := va_S.rf
  have hP : va_P (dC, dI) vwCl [(h0, .inr (7, [.ref h1, .ref h2, .ref z0, .ref z1, .ref z2, .ref z3, .int 0, .int 0, .int 0])), (h1, .inl (k0, 4, .inr (.inr (.inr (.inr (va_up (va_up (va_up (va_up (fun _ => none) 0 (some h3)) 1 (some h4)) 2 (some h5)) 3 (some h6))))))), (h2, .inr (5, [.ref z4, .ref z5, .ref z6, .ref z7, .ref z8, .ref z9, .int 0, .int 0])), (h3, .inr (6, [.ref z10, .int 0])), (h4, .inr (6, [.ref z11, .int 0])), (h5, .inr (6, [.ref z12, .int 0])), (h6, .inr (6, [.ref z13, .int 0]))] s.heap := hP
  have hl := lv_entry ([.ref h0, .int 2]) (n := 2) (Nat.le_of_ble_eq_true rfl)
  rw [lg_entry_eq]
  generalize (lg_sl ([.ref h0, .int 2]) ++ List.replicate (2 - (lg_sl ([.ref h0, .int 2])).length) Slot.unset).toArray = ls at hl ⊢
  have hl : lv_has ls 2 [(0, .ref h0), (1, .int 2)] := hl
  refine lv_iload_n hx hb dX3_spots_0 rfl (lv_at hl 1 rfl) ?_
  have hPc := hP.sub (ws' := []) [] rfl
  have hDc := hD.sub (ws' := []) [] (by decide) rfl
  have hKc := hK.sub (tys' := []) [] rfl
  have hFc := va_free (wc := []) hD hS hA [] rfl
  refine va_callv (va_runS (As := [.int 2]) (rest := []) ⟨hx, hb, hml, hown, hts⟩ (kx_X3_needRope_2 l dC dI s.heap.size) (cwS 1 hts gX3_spots_X3_needRope rfl rfl rfl (by decide +kernel) ⟨Nat.le_of_ble_eq_true rfl, Nat.le_of_ble_eq_true rfl⟩) ⟨fun a U g mk q => by obtain ⟨q0, q1, qP, qK, qD⟩ := q; exact ⟨q0, q1, qP, va_K.moved (u := U) (U := U.calling g mk a) (Vm.Alike.refl U.vm) qK, qD⟩, fun U hU hW => ⟨rfl, by rw [hU], by rw [hU]; exact hPc, va_K.moved hW.alike hKc, hDc.weaken (fun _ _ _ _ => trivial)⟩⟩ rfl rfl hl.1 rfl (lv_room (Nat.le_of_ble_eq_true rfl)) dX3_spots_1 ⟨Nat.le_of_ble_eq_true rfl, Nat.le_of_ble_eq_true rfl⟩) hS (fun q _ h => hFc q h) hFc (fun u t H1 locs ht hvm hw hB hz1 hk1 hS => ?_)
  obtain ⟨hP1, hK1, hD1⟩ := hB
  rw [ht] at hP1
  have hK1 := va_K.moved hvm.symm hK1
  obtain ⟨hP, hD⟩ := va_join (wr := [(h0, .inr (7, [.ref h1, .ref h2, .ref z0, .ref z1, .ref z2, .ref z3, .int 0, .int 0, .int 0])), (h1, .inl (k0, 4, .inr (.inr (.inr (.inr (va_up (va_up (va_up (va_up (fun _ => none) 0 (some h3)) 1 (some h4)) 2 (some h5)) 3 (some h6))))))), (h2, .inr (5, [.ref z4, .ref z5, .ref z6, .ref z7, .ref z8, .ref z9, .int 0, .int 0])), (h3, .inr (6, [.ref z10, .int 0])), (h4, .inr (6, [.ref z11, .int 0])), (h5, .inr (6, [.ref z12, .int 0])), (h6, .inr (6, [.ref z13, .int 0]))]) (w1 := []) hP hD [] [0, 1, 2, 3, 4, 5, 6] rfl rfl (by decide) (by decide) hk1 hFc hP1 hD1
  generalize H1 = H at hP hS ⊢
  have hP : va_P (dC, dI) vwCl [(h0, .inr (7, [.ref h1, .ref h2, .ref z0, .ref z1, .ref z2, .ref z3, .int 0, .int 0, .int 0])), (h1, .inl (k0, 4, .inr (.inr (.inr (.inr (va_up (va_up (va_up (va_up (fun _ => none) 0 (some h3)) 1 (some h4)) 2 (some h5)) 3 (some h6))))))), (h2, .inr (5, [.ref z4, .ref z5, .ref z6, .ref z7, .ref z8, .ref z9, .int 0, .int 0])), (h3, .inr (6, [.ref z10, .int 0])), (h4, .inr (6, [.ref z11, .int 0])), (h5, .inr (6, [.ref z12, .int 0])), (h6, .inr (6, [.ref z13, .int 0]))] H := hP
  have hD : va_D A [(h0, .inr (7, [.ref h1, .ref h2, .ref z0, .ref z1, .ref z2, .ref z3, .int 0, .int 0, .int 0])), (h1, .inl (k0, 4, .inr (.inr (.inr (.inr (va_up (va_up (va_up (va_up (fun _ => none) 0 (some h3)) 1 (some h4)) 2 (some h5)) 3 (some h6))))))), (h2, .inr (5, [.ref z4, .ref z5, .ref z6, .ref z7, .ref z8, .ref z9, .int 0, .int 0])), (h3, .inr (6, [.ref z10, .int 0])), (h4, .inr (6, [.ref z11, .int 0])), (h5, .inr (6, [.ref z12, .int 0])), (h6, .inr (6, [.ref z13, .int 0]))] := hD
  refine lv_aload_n hx hb dX3_spots_4 rfl (lv_at hl 0 rfl) ?_
  refine va_get (D := (dC, dI)) (ci := 7) (v := .ref h2) (C := RX3) (T := TX3) (N := 9) hx hb hts (by decide +kernel) hown hK hP 0 rfl rfl 1 (by decide) (hts (.fieldLink RX3 18 "Rewriterope" "book" "LRewriterope$RuleBook;") (by decide +kernel)) (fun _ h9 => h9) rfl dX3_spots_5 ?_
  refine lv_aload_n hx hb dX3_spots_8 rfl (lv_at hl 0 rfl) ?_
  refine va_get (D := (dC, dI)) (ci := 7) (v := .ref h1) (C := RX3) (T := TX3) (N := 9) hx hb hts (by decide +kernel) hown hK hP 0 rfl rfl 0 (by decide) (hts (.fieldLink RX3 11 "Rewriterope" "ropes" "[LRewriterope$Text;") (by decide +kernel)) (fun _ h9 => h9) rfl dX3_spots_9 ?_
  refine lv_iload_n hx hb dX3_spots_12 rfl (lv_at hl 1 rfl) ?_
  refine va_aldq (D := (dC, dI)) hx hb hK hP 1 0 rfl rfl (by unfold vp_in; decide) dX3_spots_13 ?_
  refine W.eq (g2 := F0 m 14 ls [.ref h5, .ref h2]) rfl ?_
  have hPc := hP.sub (ws' := [(h2, .inr (5, [.ref z4, .ref z5, .ref z6, .ref z7, .ref z8, .ref z9, .int 0, .int 0])), (h5, .inr (6, [.ref z12, .int 0]))]) [2, 5] rfl
  have hDc := hD.sub (ws' := [(h2, .inr (5, [.ref z4, .ref z5, .ref z6, .ref z7, .ref z8, .ref z9, .int 0, .int 0])), (h5, .inr (6, [.ref z12, .int 0]))]) [2, 5] (by decide) rfl
  have hKc := hK.sub (tys' := []) [] rfl
  have hFc := va_free (wc := [(h2, .inr (5, [.ref z4, .ref z5, .ref z6, .ref z7, .ref z8, .ref z9, .int 0, .int 0])), (h5, .inr (6, [.ref z12, .int 0]))]) hD hS hA [2, 5] rfl
  refine va_calli (va_runV (As := [.ref h5]) (rest := []) ⟨hx, hb, hml, hown, hts⟩ (kx_X1_countSpots_0 l dC dI h2 h5 z4 z5 z6 z7 z8 z9 z12 H.size) (cwV 1 hts gX3_spots_X1_countSpots rfl rfl rfl (by decide +kernel) ⟨Nat.le_of_ble_eq_true rfl, Nat.le_of_ble_eq_true rfl⟩) ⟨fun a U g mk q => by obtain ⟨q0, q1, qP, qK, qD⟩ := q; exact ⟨q0, q1, qP, va_K.moved (u := U) (U := U.calling g mk a) (Vm.Alike.refl U.vm) qK, qD⟩, va_recv hKc hPc (ci := 5) (q0 := 0) rfl rfl, fun U hU hW => ⟨rfl, by rw [hU], by rw [hU]; exact hPc, va_K.moved hW.alike hKc, hDc.weaken (fun _ _ _ _ => trivial)⟩⟩ rfl rfl hl.1 rfl (lv_room (Nat.le_of_ble_eq_true rfl)) dX3_spots_14 ⟨Nat.le_of_ble_eq_true rfl, Nat.le_of_ble_eq_true rfl⟩) hS (fun q _ h => hFc q h) hFc (fun r9 u t H1 locs ht hvm hw hB hz1 hk1 hS => ?_)
  obtain rfl := hw
  obtain ⟨hP1, hK1, hD1⟩ := hB
  rw [ht] at hP1
  have hK1 := va_K.moved hvm.symm hK1
  obtain ⟨hP, hD⟩ := va_join (wr := [(h0, .inr (7, [.ref h1, .ref h2, .ref z0, .ref z1, .ref z2, .ref z3, .int 0, .int 0, .int 0])), (h1, .inl (k0, 4, .inr (.inr (.inr (.inr (va_up (va_up (va_up (va_up (fun _ => none) 0 (some h3)) 1 (some h4)) 2 (some h5)) 3 (some h6))))))), (h3, .inr (6, [.ref z10, .int 0])), (h4, .inr (6, [.ref z11, .int 0])), (h6, .inr (6, [.ref z13, .int 0]))]) (w1 := [(h2, .inr (5, [.ref z4, .ref z5, .ref z6, .ref z7, .ref z8, .ref z9, .int 0, .int 0])), (h5, .inr (6, [.ref z12, .int 0]))]) hP hD [2, 5] [0, 1, 3, 4, 6] rfl rfl (by decide) (by decide) hk1 hFc hP1 hD1
  generalize H1 = H at hP hS ⊢
  have hP : va_P (dC, dI) vwCl [(h0, .inr (7, [.ref h1, .ref h2, .ref z0, .ref z1, .ref z2, .ref z3, .int 0, .int 0, .int 0])), (h1, .inl (k0, 4, .inr (.inr (.inr (.inr (va_up (va_up (va_up (va_up (fun _ => none) 0 (some h3)) 1 (some h4)) 2 (some h5)) 3 (some h6))))))), (h3, .inr (6, [.ref z10, .int 0])), (h4, .inr (6, [.ref z11, .int 0])), (h6, .inr (6, [.ref z13, .int 0])), (h2, .inr (5, [.ref z4, .ref z5, .ref z6, .ref z7, .ref z8, .ref z9, .int 0, .int 0])), (h5, .inr (6, [.ref z12, .int 0]))] H := hP
  have hD : va_D A [(h0, .inr (7, [.ref h1, .ref h2, .ref z0, .ref z1, .ref z2, .ref z3, .int 0, .int 0, .int 0])), (h1, .inl (k0, 4, .inr (.inr (.inr (.inr (va_up (va_up (va_up (va_up (fun _ => none) 0 (some h3)) 1 (some h4)) 2 (some h5)) 3 (some h6))))))), (h3, .inr (6, [.ref z10, .int 0])), (h4, .inr (6, [.ref z11, .int 0])), (h6, .inr (6, [.ref z13, .int 0])), (h2, .inr (5, [.ref z4, .ref z5, .ref z6, .ref z7, .ref z8, .ref z9, .int 0, .int 0])), (h5, .inr (6, [.ref z12, .int 0]))] := hD
  have hP := hP.sub (ws' := [(h0, .inr (7, [.ref h1, .ref h2, .ref z0, .ref z1, .ref z2, .ref z3, .int 0, .int 0, .int 0])), (h1, .inl (k0, 4, .inr (.inr (.inr (.inr (va_up (va_up (va_up (va_up (fun _ => none) 0 (some h3)) 1 (some h4)) 2 (some h5)) 3 (some h6))))))), (h2, .inr (5, [.ref z4, .ref z5, .ref z6, .ref z7, .ref z8, .ref z9, .int 0, .int 0])), (h3, .inr (6, [.ref z10, .int 0])), (h4, .inr (6, [.ref z11, .int 0])), (h5, .inr (6, [.ref z12, .int 0])), (h6, .inr (6, [.ref z13, .int 0]))]) [0, 1, 5, 2, 3, 6, 4] rfl
  have hD := hD.sub (ws' := [(h0, .inr (7, [.ref h1, .ref h2, .ref z0, .ref z1, .ref z2, .ref z3, .int 0, .int 0, .int 0])), (h1, .inl (k0, 4, .inr (.inr (.inr (.inr (va_up (va_up (va_up (va_up (fun _ => none) 0 (some h3)) 1 (some h4)) 2 (some h5)) 3 (some h6))))))), (h2, .inr (5, [.ref z4, .ref z5, .ref z6, .ref z7, .ref z8, .ref z9, .int 0, .int 0])), (h3, .inr (6, [.ref z10, .int 0])), (h4, .inr (6, [.ref z11, .int 0])), (h5, .inr (6, [.ref z12, .int 0])), (h6, .inr (6, [.ref z13, .int 0]))]) [0, 1, 5, 2, 3, 6, 4] (by decide) rfl
  exact W.iret (v := 0) hx hb hr (fun t ht hW => ⟨⟨0, (), rfl, rfl, by rw [ht]; exact hP, va_K.moved hW.alike hK, hD⟩, hS.F ht⟩) hS.2.2 dX3_spots_17
set_option maxHeartbeats 4000000 in
set_option maxRecDepth 100000 in
theorem kx_X3_spots_3 (l : Launch) (dC : Nat → ClassId) (dI : Nat → Nat → Nat) (h0 : Nat) (h1 : Nat) (h2 : Nat) (h3 : Nat) (h4 : Nat) (h5 : Nat) (h6 : Nat) (z0 : Nat) (z1 : Nat) (z2 : Nat) (z3 : Nat) (z4 : Nat) (z5 : Nat) (z6 : Nat) (z7 : Nat) (z8 : Nat) (z9 : Nat) (z10 : Nat) (z11 : Nat) (z12 : Nat) (z13 : Nat) (k0 : ClassId) (sz : Nat) : Met l yX3_spots wsX3_spots ({ frames := 1, cells := 0, slots := 0, locals := 24 }) (va_Pc [.ref h0, .int 3] (fun U => U.heap.size = sz ∧ va_P (dC, dI) vwCl [(h0, .inr (7, [.ref h1, .ref h2, .ref z0, .ref z1, .ref z2, .ref z3, .int 0, .int 0, .int 0])), (h1, .inl (k0, 4, .inr (.inr (.inr (.inr (va_up (va_up (va_up (va_up (fun _ => none) 0 (some h3)) 1 (some h4)) 2 (some h5)) 3 (some h6))))))), (h2, .inr (5, [.ref z4, .ref z5, .ref z6, .ref z7, .ref z8, .ref z9, .int 0, .int 0])), (h3, .inr (6, [.ref z10, .int 0])), (h4, .inr (6, [.ref z11, .int 0])), (h5, .inr (6, [.ref z12, .int 0])), (h6, .inr (6, [.ref z13, .int 0]))] U.heap ∧ va_K (dC, dI) vwCl [(k0, .object "Rewriterope$Text")] U ∧ va_D (fun _ => True) [(h0, .inr (7, [.ref h1, .ref h2, .ref z0, .ref z1, .ref z2, .ref z3, .int 0, .int 0, .int 0])), (h1, .inl (k0, 4, .inr (.inr (.inr (.inr (va_up (va_up (va_up (va_up (fun _ => none) 0 (some h3)) 1 (some h4)) 2 (some h5)) 3 (some h6))))))), (h2, .inr (5, [.ref z4, .ref z5, .ref z6, .ref z7, .ref z8, .ref z9, .int 0, .int 0])), (h3, .inr (6, [.ref z10, .int 0])), (h4, .inr (6, [.ref z11, .int 0])), (h5, .inr (6, [.ref z12, .int 0])), (h6, .inr (6, [.ref z13, .int 0]))])) (va_Qi (fun (r : Int32) (_ : Unit) => r = 0) (fun (_ : Unit) (t : State) => va_P (dC, dI) vwCl [(h0, .inr (7, [.ref h1, .ref h2, .ref z0, .ref z1, .ref z2, .ref z3, .int 0, .int 0, .int 0])), (h1, .inl (k0, 4, .inr (.inr (.inr (.inr (va_up (va_up (va_up (va_up (fun _ => none) 0 (some h3)) 1 (some h4)) 2 (some h5)) 3 (some h6))))))), (h2, .inr (5, [.ref z4, .ref z5, .ref z6, .ref z7, .ref z8, .ref z9, .int 0, .int 0])), (h3, .inr (6, [.ref z10, .int 0])), (h4, .inr (6, [.ref z11, .int 0])), (h5, .inr (6, [.ref z12, .int 0])), (h6, .inr (6, [.ref z13, .int 0]))] t.heap ∧ va_K (dC, dI) vwCl [(k0, .object "Rewriterope$Text")] t ∧ va_D (va_A [(h0, .inr (7, [.ref h1, .ref h2, .ref z0, .ref z1, .ref z2, .ref z3, .int 0, .int 0, .int 0])), (h1, .inl (k0, 4, .inr (.inr (.inr (.inr (va_up (va_up (va_up (va_up (fun _ => none) 0 (some h3)) 1 (some h4)) 2 (some h5)) 3 (some h6))))))), (h2, .inr (5, [.ref z4, .ref z5, .ref z6, .ref z7, .ref z8, .ref z9, .int 0, .int 0])), (h3, .inr (6, [.ref z10, .int 0])), (h4, .inr (6, [.ref z11, .int 0])), (h5, .inr (6, [.ref z12, .int 0])), (h6, .inr (6, [.ref z13, .int 0]))] sz) [(h0, .inr (7, [.ref h1, .ref h2, .ref z0, .ref z1, .ref z2, .ref z3, .int 0, .int 0, .int 0])), (h1, .inl (k0, 4, .inr (.inr (.inr (.inr (va_up (va_up (va_up (va_up (fun _ => none) 0 (some h3)) 1 (some h4)) 2 (some h5)) 3 (some h6))))))), (h2, .inr (5, [.ref z4, .ref z5, .ref z6, .ref z7, .ref z8, .ref z9, .int 0, .int 0])), (h3, .inr (6, [.ref z10, .int 0])), (h4, .inr (6, [.ref z11, .int 0])), (h5, .inr (6, [.ref z12, .int 0])), (h6, .inr (6, [.ref z13, .int 0]))]) (va_A [(h0, .inr (7, [.ref h1, .ref h2, .ref z0, .ref z1, .ref z2, .ref z3, .int 0, .int 0, .int 0])), (h1, .inl (k0, 4, .inr (.inr (.inr (.inr (va_up (va_up (va_up (va_up (fun _ => none) 0 (some h3)) 1 (some h4)) 2 (some h5)) 3 (some h6))))))), (h2, .inr (5, [.ref z4, .ref z5, .ref z6, .ref z7, .ref z8, .ref z9, .int 0, .int 0])), (h3, .inr (6, [.ref z10, .int 0])), (h4, .inr (6, [.ref z11, .int 0])), (h5, .inr (6, [.ref z12, .int 0])), (h6, .inr (6, [.ref z13, .int 0]))] sz)) 0 0 (va_A [(h0, .inr (7, [.ref h1, .ref h2, .ref z0, .ref z1, .ref z2, .ref z3, .int 0, .int 0, .int 0])), (h1, .inl (k0, 4, .inr (.inr (.inr (.inr (va_up (va_up (va_up (va_up (fun _ => none) 0 (some h3)) 1 (some h4)) 2 (some h5)) 3 (some h6))))))), (h2, .inr (5, [.ref z4, .ref z5, .ref z6, .ref z7, .ref z8, .ref z9, .int 0, .int 0])), (h3, .inr (6, [.ref z10, .int 0])), (h4, .inr (6, [.ref z11, .int 0])), (h5, .inr (6, [.ref z12, .int 0])), (h6, .inr (6, [.ref z13, .int 0]))] sz) := by
  refine Met.ofW (cc := cX3_spots) (maxL := 2) (ret := (some .int)) (by decide) rfl ?_
  intro p e s m args below meth c s₁ B hml hv
  obtain ⟨rfl, hsz, hP, hK, hD0⟩ := hv
  have hx := B.exec
  have hb := B.bytes
  have hr := B.returns
  have hts := atoms_spec (ws := wsX3_spots) B.pre
  have hown : s.vm.findClass RX3 = some m.cls := findClass_of_methodNamed B.named
  have hlocks := B.notSynchronized
  subst hsz
  have hD := hD0.self (sz := s.heap.size)
  generalize hAe : va_A [(h0, .inr (7, [.ref h1, .ref h2, .ref z0, .ref z1, .ref z2, .ref z3, .int 0, .int 0, .int 0])), (h1, .inl (k0, 4, .inr (.inr (.inr (.inr (va_up (va_up (va_up (va_up (fun _ => none) 0 (some h3)) 1 (some h4)) 2 (some h5)) 3 (some h6))))))), (h2, .inr (5, [.ref z4, .ref z5, .ref z6, .ref z7, .ref z8, .ref z9, .int 0, .int 0])), (h3, .inr (6, [.ref z10, .int 0])), (h4, .inr (6, [.ref z11, .int 0])), (h5, .inr (6, [.ref z12, .int 0])), (h6, .inr (6, [.ref z13, .int 0]))] s.heap.size = A at hD ⊢
  have hA : ∀ q : Nat, s.heap.size ≤ q → A q := fun q h => by rw [← hAe]; exact Or.inr h
  have hS : va_S A s.heap s.heap [] := va_S.rf
  have hP : va_P (dC, dI) vwCl [(h0, .inr (7, [.ref h1, .ref h2, .ref z0, .ref z1, .ref z2, .ref z3, .int 0, .int 0, .int 0])), (h1, .inl (k0, 4, .inr (.inr (.inr (.inr (va_up (va_up (va_up (va_up (fun _ => none) 0 (some h3)) 1 (some h4)) 2 (some h5)) 3 (some h6))))))), (h2, .inr (5, [.ref z4, .ref z5, .ref z6, .ref z7, .ref z8, .ref z9, .int 0, .int 0])), (h3, .inr (6, [.ref z10, .int 0])), (h4, .inr (6, [.ref z11, .int 0])), (h5, .inr (6, [.ref z12, .int 0])), (h6, .inr (6, [.ref z13, .int 0]))] s.heap := hP
  have hl := lv_entry ([.ref h0, .int 3]) (n := 2) (Nat.le_of_ble_eq_true rfl)
  rw [lg_entry_eq]
  generalize (lg_sl ([.ref h0, .int 3]) ++ List.replicate (2 - (lg_sl ([.ref h0, .int 3])).length) Slot.unset).toArray = ls at hl ⊢
  have hl : lv_has ls 2 [(0, .ref h0), (1, .int 3)] := hl
  refine lv_iload_n hx hb dX3_spots_0 rfl (lv_at hl 1 rfl) ?_
  have hPc := hP.sub (ws' := []) [] rfl
  have hDc := hD.sub (ws' := []) [] (by decide) rfl
  have hKc := hK.sub (tys' := []) [] rfl
  have hFc := va_free (wc := []) hD hS hA [] rfl
  refine va_callv (va_runS (As := [.int 3]) (rest := []) ⟨hx, hb, hml, hown, hts⟩ (kx_X3_needRope_3 l dC dI s.heap.size) (cwS 1 hts gX3_spots_X3_needRope rfl rfl rfl (by decide +kernel) ⟨Nat.le_of_ble_eq_true rfl, Nat.le_of_ble_eq_true rfl⟩) ⟨fun a U g mk q => by obtain ⟨q0, q1, qP, qK, qD⟩ := q; exact ⟨q0, q1, qP, va_K.moved (u := U) (U := U.calling g mk a) (Vm.Alike.refl U.vm) qK, qD⟩, fun U hU hW => ⟨rfl, by rw [hU], by rw [hU]; exact hPc, va_K.moved hW.alike hKc, hDc.weaken (fun _ _ _ _ => trivial)⟩⟩ rfl rfl hl.1 rfl (lv_room (Nat.le_of_ble_eq_true rfl)) dX3_spots_1 ⟨Nat.le_of_ble_eq_true rfl, Nat.le_of_ble_eq_true rfl⟩) hS (fun q _ h => hFc q h) hFc (fun u t H1 locs ht hvm hw hB hz1 hk1 hS => ?_)
  obtain ⟨hP1, hK1, hD1⟩ := hB
  rw [ht] at hP1
  have hK1 := va_K.moved hvm.symm hK1
  obtain ⟨hP, hD⟩ := va_join (wr := [(h0, .inr (7, [.ref h1, .ref h2, .ref z0, .ref z1, .ref z2, .ref z3, .int 0, .int 0, .int 0])), (h1, .inl (k0, 4, .inr (.inr (.inr (.inr (va_up (va_up (va_up (va_up (fun _ => none) 0 (some h3)) 1 (some h4)) 2 (some h5)) 3 (some h6))))))), (h2, .inr (5, [.ref z4, .ref z5, .ref z6, .ref z7, .ref z8, .ref z9, .int 0, .int 0])), (h3, .inr (6, [.ref z10, .int 0])), (h4, .inr (6, [.ref z11, .int 0])), (h5, .inr (6, [.ref z12, .int 0])), (h6, .inr (6, [.ref z13, .int 0]))]) (w1 := []) hP hD [] [0, 1, 2, 3, 4, 5, 6] rfl rfl (by decide) (by decide) hk1 hFc hP1 hD1
  generalize H1 = H at hP hS ⊢
  have hP : va_P (dC, dI) vwCl [(h0, .inr (7, [.ref h1, .ref h2, .ref z0, .ref z1, .ref z2, .ref z3, .int 0, .int 0, .int 0])), (h1, .inl (k0, 4, .inr (.inr (.inr (.inr (va_up (va_up (va_up (va_up (fun _ => none) 0 (some h3)) 1 (some h4)) 2 (some h5)) 3 (some h6))))))), (h2, .inr (5, [.ref z4, .ref z5, .ref z6, .ref z7, .ref z8, .ref z9, .int 0, .int 0])), (h3, .inr (6, [.ref z10, .int 0])), (h4, .inr (6, [.ref z11, .int 0])), (h5, .inr (6, [.ref z12, .int 0])), (h6, .inr (6, [.ref z13, .int 0]))] H := hP
  have hD : va_D A [(h0, .inr (7, [.ref h1, .ref h2, .ref z0, .ref z1, .ref z2, .ref z3, .int 0, .int 0, .int 0])), (h1, .inl (k0, 4, .inr (.inr (.inr (.inr (va_up (va_up (va_up (va_up (fun _ => none) 0 (some h3)) 1 (some h4)) 2 (some h5)) 3 (some h6))))))), (h2, .inr (5, [.ref z4, .ref z5, .ref z6, .ref z7, .ref z8, .ref z9, .int 0, .int 0])), (h3, .inr (6, [.ref z10, .int 0])), (h4, .inr (6, [.ref z11, .int 0])), (h5, .inr (6, [.ref z12, .int 0])), (h6, .inr (6, [.ref z13, .int 0]))] := hD
  refine lv_aload_n hx hb dX3_spots_4 rfl (lv_at hl 0 rfl) ?_
  refine va_get (D := (dC, dI)) (ci := 7) (v := .ref h2) (C := RX3) (T := TX3) (N := 9) hx hb hts (by decide +kernel) hown hK hP 0 rfl rfl 1 (by decide) (hts (.fieldLink RX3 18 "Rewriterope" "book" "LRewriterope$RuleBook;") (by decide +kernel)) (fun _ h9 => h9) rfl dX3_spots_5 ?_
  refine lv_aload_n hx hb dX3_spots_8 rfl (lv_at hl 0 rfl) ?_
  refine va_get (D := (dC, dI)) (ci := 7) (v := .ref h1) (C := RX3) (T := TX3) (N := 9) hx hb hts (by decide +kernel) hown hK hP 0 rfl rfl 0 (by decide) (hts (.fieldLink RX3 11 "Rewriterope" "ropes" "[LRewriterope$Text;") (by decide +kernel)) (fun _ h9 => h9) rfl dX3_spots_9 ?_
  refine lv_iload_n hx hb dX3_spots_12 rfl (lv_at hl 1 rfl) ?_
  refine va_aldq (D := (dC, dI)) hx hb hK hP 1 0 rfl rfl (by unfold vp_in; decide) dX3_spots_13 ?_
  refine W.eq (g2 := F0 m 14 ls [.ref h6, .ref h2]) rfl ?_
  have hPc := hP.sub (ws' := [(h2, .inr (5, [.ref z4, .ref z5, .ref z6, .ref z7, .ref z8, .ref z9, .int 0, .int 0])), (h6, .inr (6, [.ref z13, .int 0]))]) [2, 6] rfl
  have hDc := hD.sub (ws' := [(h2, .inr (5, [.ref z4, .ref z5, .ref z6, .ref z7, .ref z8, .ref z9, .int 0, .int 0])), (h6, .inr (6, [.ref z13, .int 0]))]) [2, 6] (by decide) rfl
  have hKc := hK.sub (tys' := []) [] rfl
  have hFc := va_free (wc := [(h2, .inr (5, [.ref z4, .ref z5, .ref z6, .ref z7, .ref z8, .ref z9, .int 0, .int 0])), (h6, .inr (6, [.ref z13, .int 0]))]) hD hS hA [2, 6] rfl
  refine va_calli (va_runV (As := [.ref h6]) (rest := []) ⟨hx, hb, hml, hown, hts⟩ (kx_X1_countSpots_0 l dC dI h2 h6 z4 z5 z6 z7 z8 z9 z13 H.size) (cwV 1 hts gX3_spots_X1_countSpots rfl rfl rfl (by decide +kernel) ⟨Nat.le_of_ble_eq_true rfl, Nat.le_of_ble_eq_true rfl⟩) ⟨fun a U g mk q => by obtain ⟨q0, q1, qP, qK, qD⟩ := q; exact ⟨q0, q1, qP, va_K.moved (u := U) (U := U.calling g mk a) (Vm.Alike.refl U.vm) qK, qD⟩, va_recv hKc hPc (ci := 5) (q0 := 0) rfl rfl, fun U hU hW => ⟨rfl, by rw [hU], by rw [hU]; exact hPc, va_K.moved hW.alike hKc, hDc.weaken (fun _ _ _ _ => trivial)⟩⟩ rfl rfl hl.1 rfl (lv_room (Nat.le_of_ble_eq_true rfl)) dX3_spots_14 ⟨Nat.le_of_ble_eq_true rfl, Nat.le_of_ble_eq_true rfl⟩) hS (fun q _ h => hFc q h) hFc (fun r9 u t H1 locs ht hvm hw hB hz1 hk1 hS => ?_)
  obtain rfl := hw
  obtain ⟨hP1, hK1, hD1⟩ := hB
  rw [ht] at hP1
  have hK1 := va_K.moved hvm.symm hK1
  obtain ⟨hP, hD⟩ := va_join (wr := [(h0, .inr (7, [.ref h1, .ref h2, .ref z0, .ref z1, .ref z2, .ref z3, .int 0, .int 0, .int 0])), (h1, .inl (k0, 4, .inr (.inr (.inr (.inr (va_up (va_up (va_up (va_up (fun _ => none) 0 (some h3)) 1 (some h4)) 2 (some h5)) 3 (some h6))))))), (h3, .inr (6, [.ref z10, .int 0])), (h4, .inr (6, [.ref z11, .int 0])), (h5, .inr (6, [.ref z12, .int 0]))]) (w1 := [(h2, .inr (5, [.ref z4, .ref z5, .ref z6, .ref z7, .ref z8, .ref z9, .int 0, .int 0])), (h6, .inr (6, [.ref z13, .int 0]))]) hP hD [2, 6] [0, 1, 3, 4, 5] rfl rfl (by decide) (by decide) hk1 hFc hP1 hD1
  generalize H1 = H at hP hS ⊢
  have hP : va_P (dC, dI) vwCl [(h0, .inr (7, [.ref h1, .ref h2, .ref z0, .ref z1, .ref z2, .ref z3, .int 0, .int 0, .int 0])), (h1, .inl (k0, 4, .inr (.inr (.inr (.inr (va_up (va_up (va_up (va_up (fun _ => none) 0 (some h3)) 1 (some h4)) 2 (some h5)) 3 (some h6))))))), (h3, .inr (6, [.ref z10, .int 0])), (h4, .inr (6, [.ref z11, .int 0])), (h5, .inr (6, [.ref z12, .int 0])), (h2, .inr (5, [.ref z4, .ref z5, .ref z6, .ref z7, .ref z8, .ref z9, .int 0, .int 0])), (h6, .inr (6, [.ref z13, .int 0]))] H := hP
  have hD : va_D A [(h0, .inr (7, [.ref h1, .ref h2, .ref z0, .ref z1, .ref z2, .ref z3, .int 0, .int 0, .int 0])), (h1, .inl (k0, 4, .inr (.inr (.inr (.inr (va_up (va_up (va_up (va_up (fun _ => none) 0 (some h3)) 1 (some h4)) 2 (some h5)) 3 (some h6))))))), (h3, .inr (6, [.ref z10, .int 0])), (h4, .inr (6, [.ref z11, .int 0])), (h5, .inr (6, [.ref z12, .int 0])), (h2, .inr (5, [.ref z4, .ref z5, .ref z6, .ref z7, .ref z8, .ref z9, .int 0, .int 0])), (h6, .inr (6, [.ref z13, .int 0]))] := hD
  have hP := hP.sub (ws' := [(h0, .inr (7, [.ref h1, .ref h2, .ref z0, .ref z1, .ref z2, .ref z3, .int 0, .int 0, .int 0])), (h1, .inl (k0, 4, .inr (.inr (.inr (.inr (va_up (va_up (va_up (va_up (fun _ => none) 0 (some h3)) 1 (some h4)) 2 (some h5)) 3 (some h6))))))), (h2, .inr (5, [.ref z4, .ref z5, .ref z6, .ref z7, .ref z8, .ref z9, .int 0, .int 0])), (h3, .inr (6, [.ref z10, .int 0])), (h4, .inr (6, [.ref z11, .int 0])), (h5, .inr (6, [.ref z12, .int 0])), (h6, .inr (6, [.ref z13, .int 0]))]) [0, 1, 5, 2, 3, 4, 6] rfl
  have hD := hD.sub (ws' := [(h0, .inr (7, [.ref h1, .ref h2, .ref z0, .ref z1, .ref z2, .ref z3, .int 0, .int 0, .int 0])), (h1, .inl (k0, 4, .inr (.inr (.inr (.inr (va_up (va_up (va_up (va_up (fun _ => none) 0 (some h3)) 1 (some h4)) 2 (some h5)) 3 (some h6))))))), (h2, .inr (5, [.ref z4, .ref z5, .ref z6, .ref z7, .ref z8, .ref z9, .int 0, .int 0])), (h3, .inr (6, [.ref z10, .int 0])), (h4, .inr (6, [.ref z11, .int 0])), (h5, .inr (6, [.ref z12, .int 0])), (h6, .inr (6, [.ref z13, .int 0]))]) [0, 1, 5, 2, 3, 4, 6] (by decide) rfl
  exact W.iret (v := 0) hx hb hr (fun t ht hW => ⟨⟨0, (), rfl, rfl, by rw [ht]; exact hP, va_K.moved hW.alike hK, hD⟩, hS.F ht⟩) hS.2.2 dX3_spots_17
set_option maxHeartbeats 4000000 in
set_option maxRecDepth 100000 in
theorem kx_X3_spots_s0 (l : Launch) (dC : Nat → ClassId) (dI : Nat → Nat → Nat) (h0 : Nat) (h1 : Nat) (h2 : Nat) (h3 : Nat) (h4 : Nat) (h5 : Nat) (h6 : Nat) (z0 : Nat) (z1 : Nat) (z2 : Nat) (z3 : Nat) (z4 : Nat) (z5 : Nat) (z6 : Nat) (z7 : Nat) (z8 : Nat) (z9 : Nat) (z10 : Nat) (z11 : Nat) (z12 : Nat) (z13 : Nat) (k0 : ClassId) (sz : Nat) (j0 : Int32) (j0_l : (0 : Int) ≤ j0.toInt) (j0_u : j0.toInt ≤ (3 : Int)) : Met l yX3_spots wsX3_spots ({ frames := 1, cells := 0, slots := 0, locals := 24 }) (va_Pc [.ref h0, .int j0] (fun U => U.heap.size = sz ∧ va_P (dC, dI) vwCl [(h0, .inr (7, [.ref h1, .ref h2, .ref z0, .ref z1, .ref z2, .ref z3, .int 0, .int 0, .int 0])), (h1, .inl (k0, 4, .inr (.inr (.inr (.inr (va_up (va_up (va_up (va_up (fun _ => none) 0 (some h3)) 1 (some h4)) 2 (some h5)) 3 (some h6))))))), (h2, .inr (5, [.ref z4, .ref z5, .ref z6, .ref z7, .ref z8, .ref z9, .int 0, .int 0])), (h3, .inr (6, [.ref z10, .int 0])), (h4, .inr (6, [.ref z11, .int 0])), (h5, .inr (6, [.ref z12, .int 0])), (h6, .inr (6, [.ref z13, .int 0]))] U.heap ∧ va_K (dC, dI) vwCl [(k0, .object "Rewriterope$Text")] U ∧ va_D (fun _ => True) [(h0, .inr (7, [.ref h1, .ref h2, .ref z0, .ref z1, .ref z2, .ref z3, .int 0, .int 0, .int 0])), (h1, .inl (k0, 4, .inr (.inr (.inr (.inr (va_up (va_up (va_up (va_up (fun _ => none) 0 (some h3)) 1 (some h4)) 2 (some h5)) 3 (some h6))))))), (h2, .inr (5, [.ref z4, .ref z5, .ref z6, .ref z7, .ref z8, .ref z9, .int 0, .int 0])), (h3, .inr (6, [.ref z10, .int 0])), (h4, .inr (6, [.ref z11, .int 0])), (h5, .inr (6, [.ref z12, .int 0])), (h6, .inr (6, [.ref z13, .int 0]))])) (va_Qi (fun (r : Int32) (_ : Unit) => r = 0) (fun (_ : Unit) (t : State) => va_P (dC, dI) vwCl [(h0, .inr (7, [.ref h1, .ref h2, .ref z0, .ref z1, .ref z2, .ref z3, .int 0, .int 0, .int 0])), (h1, .inl (k0, 4, .inr (.inr (.inr (.inr (va_up (va_up (va_up (va_up (fun _ => none) 0 (some h3)) 1 (some h4)) 2 (some h5)) 3 (some h6))))))), (h2, .inr (5, [.ref z4, .ref z5, .ref z6, .ref z7, .ref z8, .ref z9, .int 0, .int 0])), (h3, .inr (6, [.ref z10, .int 0])), (h4, .inr (6, [.ref z11, .int 0])), (h5, .inr (6, [.ref z12, .int 0])), (h6, .inr (6, [.ref z13, .int 0]))] t.heap ∧ va_K (dC, dI) vwCl [(k0, .object "Rewriterope$Text")] t ∧ va_D (va_A [(h0, .inr (7, [.ref h1, .ref h2, .ref z0, .ref z1, .ref z2, .ref z3, .int 0, .int 0, .int 0])), (h1, .inl (k0, 4, .inr (.inr (.inr (.inr (va_up (va_up (va_up (va_up (fun _ => none) 0 (some h3)) 1 (some h4)) 2 (some h5)) 3 (some h6))))))), (h2, .inr (5, [.ref z4, .ref z5, .ref z6, .ref z7, .ref z8, .ref z9, .int 0, .int 0])), (h3, .inr (6, [.ref z10, .int 0])), (h4, .inr (6, [.ref z11, .int 0])), (h5, .inr (6, [.ref z12, .int 0])), (h6, .inr (6, [.ref z13, .int 0]))] sz) [(h0, .inr (7, [.ref h1, .ref h2, .ref z0, .ref z1, .ref z2, .ref z3, .int 0, .int 0, .int 0])), (h1, .inl (k0, 4, .inr (.inr (.inr (.inr (va_up (va_up (va_up (va_up (fun _ => none) 0 (some h3)) 1 (some h4)) 2 (some h5)) 3 (some h6))))))), (h2, .inr (5, [.ref z4, .ref z5, .ref z6, .ref z7, .ref z8, .ref z9, .int 0, .int 0])), (h3, .inr (6, [.ref z10, .int 0])), (h4, .inr (6, [.ref z11, .int 0])), (h5, .inr (6, [.ref z12, .int 0])), (h6, .inr (6, [.ref z13, .int 0]))]) (va_A [(h0, .inr (7, [.ref h1, .ref h2, .ref z0, .ref z1, .ref z2, .ref z3, .int 0, .int 0, .int 0])), (h1, .inl (k0, 4, .inr (.inr (.inr (.inr (va_up (va_up (va_up (va_up (fun _ => none) 0 (some h3)) 1 (some h4)) 2 (some h5)) 3 (some h6))))))), (h2, .inr (5, [.ref z4, .ref z5, .ref z6, .ref z7, .ref z8, .ref z9, .int 0, .int 0])), (h3, .inr (6, [.ref z10, .int 0])), (h4, .inr (6, [.ref z11, .int 0])), (h5, .inr (6, [.ref z12, .int 0])), (h6, .inr (6, [.ref z13, .int 0]))] sz)) 0 0 (va_A [(h0, .inr (7, [.ref h1, .ref h2, .ref z0, .ref z1, .ref z2, .ref z3, .int 0, .int 0, .int 0])), (h1, .inl (k0, 4, .inr (.inr (.inr (.inr (va_up (va_up (va_up (va_up (fun _ => none) 0 (some h3)) 1 (some h4)) 2 (some h5)) 3 (some h6))))))), (h2, .inr (5, [.ref z4, .ref z5, .ref z6, .ref z7, .ref z8, .ref z9, .int 0, .int 0])), (h3, .inr (6, [.ref z10, .int 0])), (h4, .inr (6, [.ref z11, .int 0])), (h5, .inr (6, [.ref z12, .int 0])), (h6, .inr (6, [.ref z13, .int 0]))] sz) := by
  have e9 : j0 = 0 ∨ j0 = 1 ∨ j0 = 2 ∨ j0 = 3 := by
    have h9 : j0.toInt = 0 ∨ j0.toInt = 1 ∨ j0.toInt = 2 ∨ j0.toInt = 3 := by omega
    rcases h9 with h9 | h9 | h9 | h9
    · exact Or.inl (Int32.toInt_inj.mp (h9.trans (by decide)))
    · exact Or.inr (Or.inl (Int32.toInt_inj.mp (h9.trans (by decide))))
    · exact Or.inr (Or.inr (Or.inl (Int32.toInt_inj.mp (h9.trans (by decide)))))
    · exact Or.inr (Or.inr (Or.inr (Int32.toInt_inj.mp (h9.trans (by decide)))))
  rcases e9 with rfl | rfl | rfl | rfl
  · exact kx_X3_spots_0 l dC dI h0 h1 h2 h3 h4 h5 h6 z0 z1 z2 z3 z4 z5 z6 z7 z8 z9 z10 z11 z12 z13 k0 sz
  · exact kx_X3_spots_1 l dC dI h0 h1 h2 h3 h4 h5 h6 z0 z1 z2 z3 z4 z5 z6 z7 z8 z9 z10 z11 z12 z13 k0 sz
  · exact kx_X3_spots_2 l dC dI h0 h1 h2 h3 h4 h5 h6 z0 z1 z2 z3 z4 z5 z6 z7 z8 z9 z10 z11 z12 z13 k0 sz
  · exact kx_X3_spots_3 l dC dI h0 h1 h2 h3 h4 h5 h6 z0 z1 z2 z3 z4 z5 z6 z7 z8 z9 z10 z11 z12 z13 k0 sz
set_option maxHeartbeats 4000000 in
set_option maxRecDepth 100000 in
theorem kx_L_spots_0 (l : Launch) (dC : Nat → ClassId) (dI : Nat → Nat → Nat) (ge5 gea gv5 gva gde gic gi0 : Nat) (h0 : Nat) (h1 : Nat) (h2 : Nat) (h3 : Nat) (h4 : Nat) (h5 : Nat) (h6 : Nat) (h7 : Nat) (z0 : Nat) (z1 : Nat) (z2 : Nat) (z3 : Nat) (z4 : Nat) (z5 : Nat) (z6 : Nat) (z7 : Nat) (z8 : Nat) (z9 : Nat) (z10 : Nat) (z11 : Nat) (z12 : Nat) (z13 : Nat) (k0 : ClassId) (sz : Nat) (i0 : Int32) (i0_l : (0 : Int) ≤ i0.toInt) (i0_u : i0.toInt ≤ (3 : Int)) : Met l yL_spots wsL_spots ({ frames := 2, cells := 0, slots := 0, locals := 45 }) (va_Pc [.ref h0, .int i0, .ref h7] (fun U => U.heap.size = sz ∧ va_P (dC, dI) vwCl [(h0, .inr (7, [.ref h1, .ref h2, .ref z0, .ref z1, .ref z2, .ref z3, .int 0, .int 0, .int 0])), (h1, .inl (k0, 4, .inr (.inr (.inr (.inr (va_up (va_up (va_up (va_up (fun _ => none) 0 (some h3)) 1 (some h4)) 2 (some h5)) 3 (some h6))))))), (h2, .inr (5, [.ref z4, .ref z5, .ref z6, .ref z7, .ref z8, .ref z9, .int 0, .int 0])), (h3, .inr (6, [.ref z10, .int 0])), (h4, .inr (6, [.ref z11, .int 0])), (h5, .inr (6, [.ref z12, .int 0])), (h6, .inr (6, [.ref z13, .int 0])), (h7, .inr (8, [.long 0, .null]))] U.heap ∧ va_K (dC, dI) vwCl [(k0, .object "Rewriterope$Text")] U ∧ va_D (fun _ => True) [(h0, .inr (7, [.ref h1, .ref h2, .ref z0, .ref z1, .ref z2, .ref z3, .int 0, .int 0, .int 0])), (h1, .inl (k0, 4, .inr (.inr (.inr (.inr (va_up (va_up (va_up (va_up (fun _ => none) 0 (some h3)) 1 (some h4)) 2 (some h5)) 3 (some h6))))))), (h2, .inr (5, [.ref z4, .ref z5, .ref z6, .ref z7, .ref z8, .ref z9, .int 0, .int 0])), (h3, .inr (6, [.ref z10, .int 0])), (h4, .inr (6, [.ref z11, .int 0])), (h5, .inr (6, [.ref z12, .int 0])), (h6, .inr (6, [.ref z13, .int 0])), (h7, .inr (8, [.long 0, .null]))] ∧ gv ge5 gea gv5 gva gde gic gi0 (va_A [(h0, .inr (7, [.ref h1, .ref h2, .ref z0, .ref z1, .ref z2, .ref z3, .int 0, .int 0, .int 0])), (h1, .inl (k0, 4, .inr (.inr (.inr (.inr (va_up (va_up (va_up (va_up (fun _ => none) 0 (some h3)) 1 (some h4)) 2 (some h5)) 3 (some h6))))))), (h2, .inr (5, [.ref z4, .ref z5, .ref z6, .ref z7, .ref z8, .ref z9, .int 0, .int 0])), (h3, .inr (6, [.ref z10, .int 0])), (h4, .inr (6, [.ref z11, .int 0])), (h5, .inr (6, [.ref z12, .int 0])), (h6, .inr (6, [.ref z13, .int 0])), (h7, .inr (8, [.long 0, .null]))] sz) U U.heap)) (va_Qi (fun (r : Int32) (_ : Unit) => r = 0) (fun (_ : Unit) (t : State) => va_P (dC, dI) vwCl [(h0, .inr (7, [.ref h1, .ref h2, .ref z0, .ref z1, .ref z2, .ref z3, .int 0, .int 0, .int 0])), (h1, .inl (k0, 4, .inr (.inr (.inr (.inr (va_up (va_up (va_up (va_up (fun _ => none) 0 (some h3)) 1 (some h4)) 2 (some h5)) 3 (some h6))))))), (h2, .inr (5, [.ref z4, .ref z5, .ref z6, .ref z7, .ref z8, .ref z9, .int 0, .int 0])), (h3, .inr (6, [.ref z10, .int 0])), (h4, .inr (6, [.ref z11, .int 0])), (h5, .inr (6, [.ref z12, .int 0])), (h6, .inr (6, [.ref z13, .int 0])), (h7, .inr (8, [.long 0, .null]))] t.heap ∧ va_K (dC, dI) vwCl [(k0, .object "Rewriterope$Text")] t ∧ va_D (va_A [(h0, .inr (7, [.ref h1, .ref h2, .ref z0, .ref z1, .ref z2, .ref z3, .int 0, .int 0, .int 0])), (h1, .inl (k0, 4, .inr (.inr (.inr (.inr (va_up (va_up (va_up (va_up (fun _ => none) 0 (some h3)) 1 (some h4)) 2 (some h5)) 3 (some h6))))))), (h2, .inr (5, [.ref z4, .ref z5, .ref z6, .ref z7, .ref z8, .ref z9, .int 0, .int 0])), (h3, .inr (6, [.ref z10, .int 0])), (h4, .inr (6, [.ref z11, .int 0])), (h5, .inr (6, [.ref z12, .int 0])), (h6, .inr (6, [.ref z13, .int 0])), (h7, .inr (8, [.long 0, .null]))] sz) [(h0, .inr (7, [.ref h1, .ref h2, .ref z0, .ref z1, .ref z2, .ref z3, .int 0, .int 0, .int 0])), (h1, .inl (k0, 4, .inr (.inr (.inr (.inr (va_up (va_up (va_up (va_up (fun _ => none) 0 (some h3)) 1 (some h4)) 2 (some h5)) 3 (some h6))))))), (h2, .inr (5, [.ref z4, .ref z5, .ref z6, .ref z7, .ref z8, .ref z9, .int 0, .int 0])), (h3, .inr (6, [.ref z10, .int 0])), (h4, .inr (6, [.ref z11, .int 0])), (h5, .inr (6, [.ref z12, .int 0])), (h6, .inr (6, [.ref z13, .int 0])), (h7, .inr (8, [.long 0, .null]))]) (va_A [(h0, .inr (7, [.ref h1, .ref h2, .ref z0, .ref z1, .ref z2, .ref z3, .int 0, .int 0, .int 0])), (h1, .inl (k0, 4, .inr (.inr (.inr (.inr (va_up (va_up (va_up (va_up (fun _ => none) 0 (some h3)) 1 (some h4)) 2 (some h5)) 3 (some h6))))))), (h2, .inr (5, [.ref z4, .ref z5, .ref z6, .ref z7, .ref z8, .ref z9, .int 0, .int 0])), (h3, .inr (6, [.ref z10, .int 0])), (h4, .inr (6, [.ref z11, .int 0])), (h5, .inr (6, [.ref z12, .int 0])), (h6, .inr (6, [.ref z13, .int 0])), (h7, .inr (8, [.long 0, .null]))] sz)) 0 0 (va_A [(h0, .inr (7, [.ref h1, .ref h2, .ref z0, .ref z1, .ref z2, .ref z3, .int 0, .int 0, .int 0])), (h1, .inl (k0, 4, .inr (.inr (.inr (.inr (va_up (va_up (va_up (va_up (fun _ => none) 0 (some h3)) 1 (some h4)) 2 (some h5)) 3 (some h6))))))), (h2, .inr (5, [.ref z4, .ref z5, .ref z6, .ref z7, .ref z8, .ref z9, .int 0, .int 0])), (h3, .inr (6, [.ref z10, .int 0])), (h4, .inr (6, [.ref z11, .int 0])), (h5, .inr (6, [.ref z12, .int 0])), (h6, .inr (6, [.ref z13, .int 0])), (h7, .inr (8, [.long 0, .null]))] sz) := by
  refine kz_ofWH (cc := cL_spots) (maxL := 4) (ret := (some .int)) (hh := [(0, 10, 13, 19)]) (by decide) rfl ?_
  intro p e s m args below meth c s₁ B hml hv
  obtain ⟨rfl, hsz, hP, hK, hD0, hG⟩ := hv
  have hx := B.exec
  have hb := B.bytes
  have hr := B.returns
  have hts := atoms_spec (ws := wsL_spots) B.pre
  have hown : s.vm.findClass RL = some m.cls := findClass_of_methodNamed B.named
  have htab := vx_table (x := yL_spots) B (hts (.codeWith yL_spots cL_spots 4 (some .int) [(0, 10, 13, 19)]) (by decide +kernel))
  have hlocks := B.notSynchronized
  subst hsz
  have hD := hD0.self (sz := s.heap.size)
  generalize hAe : va_A [(h0, .inr (7, [.ref h1, .ref h2, .ref z0, .ref z1, .ref z2, .ref z3, .int 0, .int 0, .int 0])), (h1, .inl (k0, 4, .inr (.inr (.inr (.inr (va_up (va_up (va_up (va_up (fun _ => none) 0 (some h3)) 1 (some h4)) 2 (some h5)) 3 (some h6))))))), (h2, .inr (5, [.ref z4, .ref z5, .ref z6, .ref z7, .ref z8, .ref z9, .int 0, .int 0])), (h3, .inr (6, [.ref z10, .int 0])), (h4, .inr (6, [.ref z11, .int 0])), (h5, .inr (6, [.ref z12, .int 0])), (h6, .inr (6, [.ref z13, .int 0])), (h7, .inr (8, [.long 0, .null]))] s.heap.size = A at hD hG ⊢
  obtain ⟨⟨g_AO_Text, g_AO_String, g_AO_Object, g_nm_RX1_20, g_nm_RX0_17, g_nm_RX3_31, g_nm_RX2_44, g_nm_RL_121, g_nf_RL_13, g_nf_RL_47, g_ca_IO, g_ca_IA, g_ca_IS, g_ca_IntObj, g_ca_StrObj, g_de_RT, g_de_EX, g_de_TH, g_nc_IA_IO, g_nc_IS_IO, g_nc_IS_IA⟩, ⟨g_s3, g_s5, g_sa, g_x278, g_x280, g_x282, g_x284, g_x286, g_x180, g_x238, g_x250⟩, ⟨g_o5, g_c5, g_v5, g_t5, g_oa, g_ca, g_va, g_ta, g_zc, g_zd, g_td, g_zf, g_zU, g_zN, g_zh, g_zk, g_tk, g_oi, g_vi⟩⟩ := id hG
  have hA : ∀ q : Nat, s.heap.size ≤ q → A q := fun q h => by rw [← hAe]; exact Or.inr h
  have hS : va_S A s.heap s.heap [] := va_S.rf
  have hP : va_P (dC, dI) vwCl [(h0, .inr (7, [.ref h1, .ref h2, .ref z0, .ref z1, .ref z2, .ref z3, .int 0, .int 0, .int 0])), (h1, .inl (k0, 4, .inr (.inr (.inr (.inr (va_up (va_up (va_up (va_up (fun _ => none) 0 (some h3)) 1 (some h4)) 2 (some h5)) 3 (some h6))))))), (h2, .inr (5, [.ref z4, .ref z5, .ref z6, .ref z7, .ref z8, .ref z9, .int 0, .int 0])), (h3, .inr (6, [.ref z10, .int 0])), (h4, .inr (6, [.ref z11, .int 0])), (h5, .inr (6, [.ref z12, .int 0])), (h6, .inr (6, [.ref z13, .int 0])), (h7, .inr (8, [.long 0, .null]))] s.heap := hP
  have hl := lv_entry ([.ref h0, .int i0, .ref h7]) (n := 4) (Nat.le_of_ble_eq_true rfl)
  rw [lg_entry_eq]
  generalize (lg_sl ([.ref h0, .int i0, .ref h7]) ++ List.replicate (4 - (lg_sl ([.ref h0, .int i0, .ref h7])).length) Slot.unset).toArray = ls at hl ⊢
  have hl : lv_has ls 4 [(0, .ref h0), (1, .int i0), (2, .ref h7)] := hl
  refine lv_aload_n hx hb dL_spots_0 rfl (lv_at hl 2 rfl) ?_
  refine lv_aload_n hx hb dL_spots_1 rfl (lv_at hl 0 rfl) ?_
  refine lv_iload_n hx hb dL_spots_2 rfl (lv_at hl 1 rfl) ?_
  have hPc := hP.sub (ws' := [(h0, .inr (7, [.ref h1, .ref h2, .ref z0, .ref z1, .ref z2, .ref z3, .int 0, .int 0, .int 0])), (h1, .inl (k0, 4, .inr (.inr (.inr (.inr (va_up (va_up (va_up (va_up (fun _ => none) 0 (some h3)) 1 (some h4)) 2 (some h5)) 3 (some h6))))))), (h2, .inr (5, [.ref z4, .ref z5, .ref z6, .ref z7, .ref z8, .ref z9, .int 0, .int 0])), (h3, .inr (6, [.ref z10, .int 0])), (h4, .inr (6, [.ref z11, .int 0])), (h5, .inr (6, [.ref z12, .int 0])), (h6, .inr (6, [.ref z13, .int 0]))]) [0, 1, 2, 3, 4, 5, 6] rfl
  have hDc := hD.sub (ws' := [(h0, .inr (7, [.ref h1, .ref h2, .ref z0, .ref z1, .ref z2, .ref z3, .int 0, .int 0, .int 0])), (h1, .inl (k0, 4, .inr (.inr (.inr (.inr (va_up (va_up (va_up (va_up (fun _ => none) 0 (some h3)) 1 (some h4)) 2 (some h5)) 3 (some h6))))))), (h2, .inr (5, [.ref z4, .ref z5, .ref z6, .ref z7, .ref z8, .ref z9, .int 0, .int 0])), (h3, .inr (6, [.ref z10, .int 0])), (h4, .inr (6, [.ref z11, .int 0])), (h5, .inr (6, [.ref z12, .int 0])), (h6, .inr (6, [.ref z13, .int 0]))]) [0, 1, 2, 3, 4, 5, 6] (by decide) rfl
  have hKc := hK.sub (tys' := [(k0, .object "Rewriterope$Text")]) [0] rfl
  have hFc := va_free (wc := [(h0, .inr (7, [.ref h1, .ref h2, .ref z0, .ref z1, .ref z2, .ref z3, .int 0, .int 0, .int 0])), (h1, .inl (k0, 4, .inr (.inr (.inr (.inr (va_up (va_up (va_up (va_up (fun _ => none) 0 (some h3)) 1 (some h4)) 2 (some h5)) 3 (some h6))))))), (h2, .inr (5, [.ref z4, .ref z5, .ref z6, .ref z7, .ref z8, .ref z9, .int 0, .int 0])), (h3, .inr (6, [.ref z10, .int 0])), (h4, .inr (6, [.ref z11, .int 0])), (h5, .inr (6, [.ref z12, .int 0])), (h6, .inr (6, [.ref z13, .int 0]))]) hD hS hA [0, 1, 2, 3, 4, 5, 6] rfl
  refine va_calli (va_runV (As := [.int i0]) (rest := [.ref h7]) ⟨hx, hb, hml, hown, hts⟩ (kx_X3_spots_s0 l dC dI h0 h1 h2 h3 h4 h5 h6 z0 z1 z2 z3 z4 z5 z6 z7 z8 z9 z10 z11 z12 z13 k0 s.heap.size i0 i0_l i0_u) (cwV 1 hts gL_spots_X3_spots rfl rfl rfl (by decide +kernel) ⟨Nat.le_of_ble_eq_true rfl, Nat.le_of_ble_eq_true rfl⟩) ⟨fun a U g mk q => by obtain ⟨q0, q1, qP, qK, qD⟩ := q; exact ⟨q0, q1, qP, va_K.moved (u := U) (U := U.calling g mk a) (Vm.Alike.refl U.vm) qK, qD⟩, va_recv hKc hPc (ci := 7) (q0 := 0) rfl rfl, fun U hU hW => ⟨rfl, by rw [hU], by rw [hU]; exact hPc, va_K.moved hW.alike hKc, hDc.weaken (fun _ _ _ _ => trivial)⟩⟩ rfl rfl hl.1 rfl (lv_room (Nat.le_of_ble_eq_true rfl)) dL_spots_3 ⟨Nat.le_of_ble_eq_true rfl, Nat.le_of_ble_eq_true rfl⟩) hS (fun q _ h => hFc q h) hFc (fun r9 u t H1 locs ht hvm hw hB hz1 hk1 hS => ?_)
  obtain rfl := hw
  obtain ⟨hP1, hK1, hD1⟩ := hB
  rw [ht] at hP1
  have hK1 := va_K.moved hvm.symm hK1
  obtain ⟨hP, hD⟩ := va_join (wr := [(h7, .inr (8, [.long 0, .null]))]) (w1 := [(h0, .inr (7, [.ref h1, .ref h2, .ref z0, .ref z1, .ref z2, .ref z3, .int 0, .int 0, .int 0])), (h1, .inl (k0, 4, .inr (.inr (.inr (.inr (va_up (va_up (va_up (va_up (fun _ => none) 0 (some h3)) 1 (some h4)) 2 (some h5)) 3 (some h6))))))), (h2, .inr (5, [.ref z4, .ref z5, .ref z6, .ref z7, .ref z8, .ref z9, .int 0, .int 0])), (h3, .inr (6, [.ref z10, .int 0])), (h4, .inr (6, [.ref z11, .int 0])), (h5, .inr (6, [.ref z12, .int 0])), (h6, .inr (6, [.ref z13, .int 0]))]) hP hD [0, 1, 2, 3, 4, 5, 6] [7] rfl rfl (by decide) (by decide) hk1 hFc hP1 hD1
  generalize H1 = H at hP hS ⊢
  have hP : va_P (dC, dI) vwCl [(h7, .inr (8, [.long 0, .null])), (h0, .inr (7, [.ref h1, .ref h2, .ref z0, .ref z1, .ref z2, .ref z3, .int 0, .int 0, .int 0])), (h1, .inl (k0, 4, .inr (.inr (.inr (.inr (va_up (va_up (va_up (va_up (fun _ => none) 0 (some h3)) 1 (some h4)) 2 (some h5)) 3 (some h6))))))), (h2, .inr (5, [.ref z4, .ref z5, .ref z6, .ref z7, .ref z8, .ref z9, .int 0, .int 0])), (h3, .inr (6, [.ref z10, .int 0])), (h4, .inr (6, [.ref z11, .int 0])), (h5, .inr (6, [.ref z12, .int 0])), (h6, .inr (6, [.ref z13, .int 0]))] H := hP
  have hD : va_D A [(h7, .inr (8, [.long 0, .null])), (h0, .inr (7, [.ref h1, .ref h2, .ref z0, .ref z1, .ref z2, .ref z3, .int 0, .int 0, .int 0])), (h1, .inl (k0, 4, .inr (.inr (.inr (.inr (va_up (va_up (va_up (va_up (fun _ => none) 0 (some h3)) 1 (some h4)) 2 (some h5)) 3 (some h6))))))), (h2, .inr (5, [.ref z4, .ref z5, .ref z6, .ref z7, .ref z8, .ref z9, .int 0, .int 0])), (h3, .inr (6, [.ref z10, .int 0])), (h4, .inr (6, [.ref z11, .int 0])), (h5, .inr (6, [.ref z12, .int 0])), (h6, .inr (6, [.ref z13, .int 0]))] := hD
  refine lv_i2l (v := 0) hx hb dL_spots_6 (by decide) ?_
  refine va_putN (D := (dC, dI)) (ci := 8) (v := .long 0) (ty := .long) (C := RX4) (T := TX4) (N := 2) hx hb hts (by decide +kernel) tyX4 tyX4_ok nmX4 hown hK hP hD hS 0 rfl rfl 0 (by decide) (va_Nw.use rfl g_nf_RL_13) (fun _ h9 => h9) rfl (by decide +kernel) rfl rfl (Nat.le_of_ble_eq_true rfl) dL_spots_7 (fun H locs hP hD hS => ?_)
  have hP : va_P (dC, dI) vwCl [(h7, .inr (8, [.long 0, .null])), (h0, .inr (7, [.ref h1, .ref h2, .ref z0, .ref z1, .ref z2, .ref z3, .int 0, .int 0, .int 0])), (h1, .inl (k0, 4, .inr (.inr (.inr (.inr (va_up (va_up (va_up (va_up (fun _ => none) 0 (some h3)) 1 (some h4)) 2 (some h5)) 3 (some h6))))))), (h2, .inr (5, [.ref z4, .ref z5, .ref z6, .ref z7, .ref z8, .ref z9, .int 0, .int 0])), (h3, .inr (6, [.ref z10, .int 0])), (h4, .inr (6, [.ref z11, .int 0])), (h5, .inr (6, [.ref z12, .int 0])), (h6, .inr (6, [.ref z13, .int 0]))] H := hP
  have hD : va_D A [(h7, .inr (8, [.long 0, .null])), (h0, .inr (7, [.ref h1, .ref h2, .ref z0, .ref z1, .ref z2, .ref z3, .int 0, .int 0, .int 0])), (h1, .inl (k0, 4, .inr (.inr (.inr (.inr (va_up (va_up (va_up (va_up (fun _ => none) 0 (some h3)) 1 (some h4)) 2 (some h5)) 3 (some h6))))))), (h2, .inr (5, [.ref z4, .ref z5, .ref z6, .ref z7, .ref z8, .ref z9, .int 0, .int 0])), (h3, .inr (6, [.ref z10, .int 0])), (h4, .inr (6, [.ref z11, .int 0])), (h5, .inr (6, [.ref z12, .int 0])), (h6, .inr (6, [.ref z13, .int 0]))] := hD
  refine lv_goto (tgt := 16) hx hb dL_spots_10 (by decide) ?_
  refine lv_iconst (v := 0) hx hb dL_spots_16 (by decide) ?_
  have hP := hP.sub (ws' := [(h0, .inr (7, [.ref h1, .ref h2, .ref z0, .ref z1, .ref z2, .ref z3, .int 0, .int 0, .int 0])), (h1, .inl (k0, 4, .inr (.inr (.inr (.inr (va_up (va_up (va_up (va_up (fun _ => none) 0 (some h3)) 1 (some h4)) 2 (some h5)) 3 (some h6))))))), (h2, .inr (5, [.ref z4, .ref z5, .ref z6, .ref z7, .ref z8, .ref z9, .int 0, .int 0])), (h3, .inr (6, [.ref z10, .int 0])), (h4, .inr (6, [.ref z11, .int 0])), (h5, .inr (6, [.ref z12, .int 0])), (h6, .inr (6, [.ref z13, .int 0])), (h7, .inr (8, [.long 0, .null]))]) [1, 2, 3, 4, 5, 6, 7, 0] rfl
  have hD := hD.sub (ws' := [(h0, .inr (7, [.ref h1, .ref h2, .ref z0, .ref z1, .ref z2, .ref z3, .int 0, .int 0, .int 0])), (h1, .inl (k0, 4, .inr (.inr (.inr (.inr (va_up (va_up (va_up (va_up (fun _ => none) 0 (some h3)) 1 (some h4)) 2 (some h5)) 3 (some h6))))))), (h2, .inr (5, [.ref z4, .ref z5, .ref z6, .ref z7, .ref z8, .ref z9, .int 0, .int 0])), (h3, .inr (6, [.ref z10, .int 0])), (h4, .inr (6, [.ref z11, .int 0])), (h5, .inr (6, [.ref z12, .int 0])), (h6, .inr (6, [.ref z13, .int 0])), (h7, .inr (8, [.long 0, .null]))]) [1, 2, 3, 4, 5, 6, 7, 0] (by decide) rfl
  exact W.iret (v := 0) hx hb hr (fun t ht hW => ⟨⟨0, (), rfl, rfl, by rw [ht]; exact hP, va_K.moved hW.alike hK, hD⟩, hS.F ht⟩) hS.2.2 dL_spots_17
set_option maxHeartbeats 4000000 in
set_option maxRecDepth 100000 in
theorem kx_X5_spots_0 (l : Launch) (dC : Nat → ClassId) (dI : Nat → Nat → Nat) (ge5 gea gv5 gva gde gic gi0 : Nat) (h0 : Nat) (h1 : Nat) (z0 : Nat) (z1 : Nat) (k0 : ClassId) (sz : Nat) (i0 : Int32) (i0_l : (0 : Int) ≤ i0.toInt) (i0_u : i0.toInt ≤ (3 : Int)) : Met l yX5_spots wsX5_spots ({ frames := 5, cells := 1, slots := 3, locals := 96 }) (va_Pc [.ref h0, .int i0] (fun U => U.heap.size = sz ∧ va_P (dC, dI) vwCl [(h0, .inr (9, [.int 0, .ref h1, .ref z0, .ref z1, .int 0, .int 0, .int 0])), (h1, .inl (k0, 4, .inr (.inr (.inr (.inr (va_up (va_up (va_up (va_up (fun _ => none) 0 (some ge5)) 1 (some ge5)) 2 (some ge5)) 3 (some ge5)))))))] U.heap ∧ va_K (dC, dI) vwCl [(k0, .object "java/lang/String")] U ∧ va_D (fun _ => True) [(h0, .inr (9, [.int 0, .ref h1, .ref z0, .ref z1, .int 0, .int 0, .int 0])), (h1, .inl (k0, 4, .inr (.inr (.inr (.inr (va_up (va_up (va_up (va_up (fun _ => none) 0 (some ge5)) 1 (some ge5)) 2 (some ge5)) 3 (some ge5)))))))] ∧ gv ge5 gea gv5 gva gde gic gi0 (va_A [(h0, .inr (9, [.int 0, .ref h1, .ref z0, .ref z1, .int 0, .int 0, .int 0])), (h1, .inl (k0, 4, .inr (.inr (.inr (.inr (va_up (va_up (va_up (va_up (fun _ => none) 0 (some ge5)) 1 (some ge5)) 2 (some ge5)) 3 (some ge5)))))))] sz) U U.heap)) (va_Qi (fun (r : Int32) (_ : Unit) => r = 0) (fun (_ : Unit) (t : State) => ∃ q1 : Nat, va_P (dC, dI) vwCl [(h0, .inr (9, [.int 0, .ref h1, .ref z0, .ref z1, .int 0, .int 0, .int 0]))] t.heap ∧ va_K (dC, dI) vwCl [(k0, .object "java/lang/String")] t ∧ va_D (va_A [(h0, .inr (9, [.int 0, .ref h1, .ref z0, .ref z1, .int 0, .int 0, .int 0])), (h1, .inl (k0, 4, .inr (.inr (.inr (.inr (va_up (va_up (va_up (va_up (fun _ => none) 0 (some ge5)) 1 (some ge5)) 2 (some ge5)) 3 (some ge5)))))))] sz) [(h0, .inr (9, [.int 0, .ref h1, .ref z0, .ref z1, .int 0, .int 0, .int 0]))]) (va_A [(h0, .inr (9, [.int 0, .ref h1, .ref z0, .ref z1, .int 0, .int 0, .int 0])), (h1, .inl (k0, 4, .inr (.inr (.inr (.inr (va_up (va_up (va_up (va_up (fun _ => none) 0 (some ge5)) 1 (some ge5)) 2 (some ge5)) 3 (some ge5)))))))] sz)) 1 3 (va_A [(h0, .inr (9, [.int 0, .ref h1, .ref z0, .ref z1, .int 0, .int 0, .int 0])), (h1, .inl (k0, 4, .inr (.inr (.inr (.inr (va_up (va_up (va_up (va_up (fun _ => none) 0 (some ge5)) 1 (some ge5)) 2 (some ge5)) 3 (some ge5)))))))] sz) := by
  refine Met.ofW (cc := cX5_spots) (maxL := 2) (ret := (some .int)) (by decide) rfl ?_
  intro p e s m args below meth c s₁ B hml hv
  obtain ⟨rfl, hsz, hP, hK, hD0, hG⟩ := hv
  have hx := B.exec
  have hb := B.bytes
  have hr := B.returns
  have hts := atoms_spec (ws := wsX5_spots) B.pre
  have hown : s.vm.findClass RX5 = some m.cls := findClass_of_methodNamed B.named
  have hlocks := B.notSynchronized
  subst hsz
  have hD := hD0.self (sz := s.heap.size)
  generalize hAe : va_A [(h0, .inr (9, [.int 0, .ref h1, .ref z0, .ref z1, .int 0, .int 0, .int 0])), (h1, .inl (k0, 4, .inr (.inr (.inr (.inr (va_up (va_up (va_up (va_up (fun _ => none) 0 (some ge5)) 1 (some ge5)) 2 (some ge5)) 3 (some ge5)))))))] s.heap.size = A at hD hG ⊢
  obtain ⟨⟨g_AO_Text, g_AO_String, g_AO_Object, g_nm_RX1_20, g_nm_RX0_17, g_nm_RX3_31, g_nm_RX2_44, g_nm_RL_121, g_nf_RL_13, g_nf_RL_47, g_ca_IO, g_ca_IA, g_ca_IS, g_ca_IntObj, g_ca_StrObj, g_de_RT, g_de_EX, g_de_TH, g_nc_IA_IO, g_nc_IS_IO, g_nc_IS_IA⟩, ⟨g_s3, g_s5, g_sa, g_x278, g_x280, g_x282, g_x284, g_x286, g_x180, g_x238, g_x250⟩, ⟨g_o5, g_c5, g_v5, g_t5, g_oa, g_ca, g_va, g_ta, g_zc, g_zd, g_td, g_zf, g_zU, g_zN, g_zh, g_zk, g_tk, g_oi, g_vi⟩⟩ := id hG
  have hA : ∀ q : Nat, s.heap.size ≤ q → A q := fun q h => by rw [← hAe]; exact Or.inr h
  have hS : va_S A s.heap s.heap [] := va_S.rf
  have hP : va_P (dC, dI) vwCl [(h0, .inr (9, [.int 0, .ref h1, .ref z0, .ref z1, .int 0, .int 0, .int 0])), (h1, .inl (k0, 4, .inr (.inr (.inr (.inr (va_up (va_up (va_up (va_up (fun _ => none) 0 (some ge5)) 1 (some ge5)) 2 (some ge5)) 3 (some ge5)))))))] s.heap := hP
  have hl := lv_entry ([.ref h0, .int i0]) (n := 2) (Nat.le_of_ble_eq_true rfl)
  rw [lg_entry_eq]
  generalize (lg_sl ([.ref h0, .int i0]) ++ List.replicate (2 - (lg_sl ([.ref h0, .int i0])).length) Slot.unset).toArray = ls at hl ⊢
  have hl : lv_has ls 2 [(0, .ref h0), (1, .int i0)] := hl
  refine lv_aload_n hx hb dX5_spots_0 rfl (lv_at hl 0 rfl) ?_
  refine lv_iload_n hx hb dX5_spots_1 rfl (lv_at hl 1 rfl) ?_
  have hPc := hP.sub (ws' := []) [] rfl
  have hDc := hD.sub (ws' := []) [] (by decide) rfl
  have hKc := hK.sub (tys' := []) [] rfl
  have hFc := va_free (wc := []) hD hS hA [] rfl
  refine va_calli (va_runS (As := [.int i0]) (rest := [.ref h0]) ⟨hx, hb, hml, hown, hts⟩ (kx_X5_isNo_1 l dC dI s.heap.size i0 i0_l i0_u) (cwS 1 hts gX5_spots_X5_isNo rfl rfl rfl (by decide +kernel) ⟨Nat.le_of_ble_eq_true rfl, Nat.le_of_ble_eq_true rfl⟩) ⟨fun a U g mk q => by obtain ⟨q0, q1, qP, qK, qD⟩ := q; exact ⟨q0, q1, qP, va_K.moved (u := U) (U := U.calling g mk a) (Vm.Alike.refl U.vm) qK, qD⟩, fun U hU hW => ⟨rfl, by rw [hU], by rw [hU]; exact hPc, va_K.moved hW.alike hKc, hDc.weaken (fun _ _ _ _ => trivial)⟩⟩ rfl rfl hl.1 rfl (lv_room (Nat.le_of_ble_eq_true rfl)) dX5_spots_2 ⟨Nat.le_of_ble_eq_true rfl, Nat.le_of_ble_eq_true rfl⟩) hS (fun q _ h => hFc q h) hFc (fun r9 u t H1 locs ht hvm hw hB hz1 hk1 hS => ?_)
  obtain rfl := hw
  obtain ⟨hP1, hK1, hD1⟩ := hB
  rw [ht] at hP1
  have hK1 := va_K.moved hvm.symm hK1
  obtain ⟨hP, hD⟩ := va_join (wr := [(h0, .inr (9, [.int 0, .ref h1, .ref z0, .ref z1, .int 0, .int 0, .int 0])), (h1, .inl (k0, 4, .inr (.inr (.inr (.inr (va_up (va_up (va_up (va_up (fun _ => none) 0 (some ge5)) 1 (some ge5)) 2 (some ge5)) 3 (some ge5)))))))]) (w1 := []) hP hD [] [0, 1] rfl rfl (by decide) (by decide) hk1 hFc hP1 hD1
  generalize H1 = H at hP hS ⊢
  have hP : va_P (dC, dI) vwCl [(h0, .inr (9, [.int 0, .ref h1, .ref z0, .ref z1, .int 0, .int 0, .int 0])), (h1, .inl (k0, 4, .inr (.inr (.inr (.inr (va_up (va_up (va_up (va_up (fun _ => none) 0 (some ge5)) 1 (some ge5)) 2 (some ge5)) 3 (some ge5)))))))] H := hP
  have hD : va_D A [(h0, .inr (9, [.int 0, .ref h1, .ref z0, .ref z1, .int 0, .int 0, .int 0])), (h1, .inl (k0, 4, .inr (.inr (.inr (.inr (va_up (va_up (va_up (va_up (fun _ => none) 0 (some ge5)) 1 (some ge5)) 2 (some ge5)) 3 (some ge5)))))))] := hD
  refine lv_iconst (v := 0) hx hb dX5_spots_5 (by decide) ?_
  refine lv_iconst (v := 0) hx hb dX5_spots_6 (by decide) ?_
  have hPc := hP.sub (ws' := [(h0, .inr (9, [.int 0, .ref h1, .ref z0, .ref z1, .int 0, .int 0, .int 0]))]) [0] rfl
  have hDc := hD.sub (ws' := [(h0, .inr (9, [.int 0, .ref h1, .ref z0, .ref z1, .int 0, .int 0, .int 0]))]) [0] (by decide) rfl
  have hKc := hK.sub (tys' := []) [] rfl
  have hFc := va_free (wc := [(h0, .inr (9, [.int 0, .ref h1, .ref z0, .ref z1, .int 0, .int 0, .int 0]))]) hD hS hA [0] rfl
  refine va_calli (va_runV (As := [.int 0, .int 0, .int 0]) (rest := []) ⟨hx, hb, hml, hown, hts⟩ (kx_X5_fails_1 l dC dI h0 h1 z0 z1 H.size) (cwV 3 hts gX5_spots_X5_fails rfl rfl rfl (by decide +kernel) ⟨Nat.le_of_ble_eq_true rfl, Nat.le_of_ble_eq_true rfl⟩) ⟨fun a U g mk q => by obtain ⟨q0, q1, qP, qK, qD⟩ := q; exact ⟨q0, q1, qP, va_K.moved (u := U) (U := U.calling g mk a) (Vm.Alike.refl U.vm) qK, qD⟩, va_recv hKc hPc (ci := 9) (q0 := 0) rfl rfl, fun U hU hW => ⟨rfl, by rw [hU], by rw [hU]; exact hPc, va_K.moved hW.alike hKc, hDc.weaken (fun _ _ _ _ => trivial)⟩⟩ rfl rfl hl.1 rfl (lv_room (Nat.le_of_ble_eq_true rfl)) dX5_spots_7 ⟨Nat.le_of_ble_eq_true rfl, Nat.le_of_ble_eq_true rfl⟩) hS (fun q _ h => hFc q h) hFc (fun r9 u t H1 locs ht hvm hw hB hz1 hk1 hS => ?_)
  obtain rfl := hw
  obtain ⟨hP1, hK1, hD1⟩ := hB
  rw [ht] at hP1
  have hK1 := va_K.moved hvm.symm hK1
  obtain ⟨hP, hD⟩ := va_join (wr := [(h1, .inl (k0, 4, .inr (.inr (.inr (.inr (va_up (va_up (va_up (va_up (fun _ => none) 0 (some ge5)) 1 (some ge5)) 2 (some ge5)) 3 (some ge5)))))))]) (w1 := [(h0, .inr (9, [.int 0, .ref h1, .ref z0, .ref z1, .int 0, .int 0, .int 0]))]) hP hD [0] [1] rfl rfl (by decide) (by decide) hk1 hFc hP1 hD1
  generalize H1 = H at hP hS ⊢
  have hP : va_P (dC, dI) vwCl [(h1, .inl (k0, 4, .inr (.inr (.inr (.inr (va_up (va_up (va_up (va_up (fun _ => none) 0 (some ge5)) 1 (some ge5)) 2 (some ge5)) 3 (some ge5))))))), (h0, .inr (9, [.int 0, .ref h1, .ref z0, .ref z1, .int 0, .int 0, .int 0]))] H := hP
  have hD : va_D A [(h1, .inl (k0, 4, .inr (.inr (.inr (.inr (va_up (va_up (va_up (va_up (fun _ => none) 0 (some ge5)) 1 (some ge5)) 2 (some ge5)) 3 (some ge5))))))), (h0, .inr (9, [.int 0, .ref h1, .ref z0, .ref z1, .int 0, .int 0, .int 0]))] := hD
  refine lv_if_eq (tgt := 17) hx hb dX5_spots_10 (by decide) (fun _ => ?_) (fun c9 => absurd (by decide) c9)
  refine lv_aload_n hx hb dX5_spots_17 rfl (lv_at hl 0 rfl) ?_
  refine lv_aload_n hx hb dX5_spots_18 rfl (lv_at hl 0 rfl) ?_
  refine va_get (D := (dC, dI)) (ci := 9) (v := .ref h1) (C := RX5) (T := TX5) (N := 7) hx hb hts (by decide +kernel) hown hK hP 1 rfl rfl 1 (by decide) (hts (.fieldLink RX5 11 "RewriteropeModel" "ropes" "[Ljava/lang/String;") (by decide +kernel)) (fun _ h9 => h9) rfl dX5_spots_19 ?_
  refine lv_iload_n hx hb dX5_spots_22 rfl (lv_at hl 1 rfl) ?_
  refine va_aldq (D := (dC, dI)) hx hb hK hP 0 0 rfl rfl (kz_in4 i0_l i0_u) dX5_spots_23 ?_
  rw [show (va_up (va_up (va_up (va_up (fun _ => none) 0 (some ge5)) 1 (some ge5)) 2 (some ge5)) 3 (some ge5)) i0.toNatClampNeg = some ge5 from (kz_ix4 (P := fun z => (va_up (va_up (va_up (va_up (fun _ => none) 0 (some ge5)) 1 (some ge5)) 2 (some ge5)) 3 (some ge5)) z.toNatClampNeg = some ge5) rfl rfl rfl rfl i0_l i0_u)]
  refine W.eq (g2 := F0 m 24 ls [.ref ge5, .ref h0]) rfl ?_
  have hPc := hP.sub (ws' := [(h0, .inr (9, [.int 0, .ref h1, .ref z0, .ref z1, .int 0, .int 0, .int 0]))]) [1] rfl
  have hDc := hD.sub (ws' := [(h0, .inr (9, [.int 0, .ref h1, .ref z0, .ref z1, .int 0, .int 0, .int 0]))]) [1] (by decide) rfl
  have hKc := hK.sub (tys' := []) [] rfl
  have hFc := va_free (wc := [(h0, .inr (9, [.int 0, .ref h1, .ref z0, .ref z1, .int 0, .int 0, .int 0]))]) hD hS hA [1] rfl
  refine va_callr (va_runV (As := [.ref ge5]) (rest := []) ⟨hx, hb, hml, hown, hts⟩ (kx_X5_spotsOf_0 l dC dI ge5 gea gv5 gva gde gic gi0 h0 h1 z0 z1 H.size) (cwV 1 hts gX5_spots_X5_spotsOf rfl rfl rfl (by decide +kernel) ⟨Nat.le_of_ble_eq_true rfl, Nat.le_of_ble_eq_true rfl⟩) ⟨fun a U g mk q => by obtain ⟨q0, q1, qP, qK, qD, qG⟩ := q; exact ⟨q0, q1, qP, va_K.moved (u := U) (U := U.calling g mk a) (Vm.Alike.refl U.vm) qK, qD, gv.fb qG⟩, va_recv hKc hPc (ci := 9) (q0 := 0) rfl rfl, fun U hU hW => ⟨rfl, by rw [hU], by rw [hU]; exact hPc, va_K.moved hW.alike hKc, hDc.weaken (fun _ _ _ _ => trivial), gv.pass hW hU hS hFc hG⟩⟩ rfl rfl hl.1 rfl (lv_room (Nat.le_of_ble_eq_true rfl)) dX5_spots_24 ⟨Nat.le_of_ble_eq_true rfl, Nat.le_of_ble_eq_true rfl⟩) hS (fun q _ h => hFc q h) hFc (fun u ra t H1 locs ht hvm hw hB hz1 hk1 hS => ?_)
  obtain ⟨q1, hra, hP1, hK1, hD1⟩ := hB
  rw [hra]
  rw [ht] at hP1
  have hK1 := va_K.moved hvm.symm hK1
  obtain ⟨hP, hD⟩ := va_join (wr := [(h1, .inl (k0, 4, .inr (.inr (.inr (.inr (va_up (va_up (va_up (va_up (fun _ => none) 0 (some ge5)) 1 (some ge5)) 2 (some ge5)) 3 (some ge5)))))))]) (w1 := [(h0, .inr (9, [.int 0, .ref h1, .ref z0, .ref z1, .int 0, .int 0, .int 0])), (q1, .inr (3, [.int 0, .ref gde, .int 0]))]) hP hD [1] [0] rfl rfl (by decide) (by decide) hk1 hFc hP1 hD1
  generalize H1 = H at hP hS ⊢
  have hP : va_P (dC, dI) vwCl [(h1, .inl (k0, 4, .inr (.inr (.inr (.inr (va_up (va_up (va_up (va_up (fun _ => none) 0 (some ge5)) 1 (some ge5)) 2 (some ge5)) 3 (some ge5))))))), (h0, .inr (9, [.int 0, .ref h1, .ref z0, .ref z1, .int 0, .int 0, .int 0])), (q1, .inr (3, [.int 0, .ref gde, .int 0]))] H := hP
  have hD : va_D A [(h1, .inl (k0, 4, .inr (.inr (.inr (.inr (va_up (va_up (va_up (va_up (fun _ => none) 0 (some ge5)) 1 (some ge5)) 2 (some ge5)) 3 (some ge5))))))), (h0, .inr (9, [.int 0, .ref h1, .ref z0, .ref z1, .int 0, .int 0, .int 0])), (q1, .inr (3, [.int 0, .ref gde, .int 0]))] := hD
  refine W.widen (k := 1) (n := 3) (by omega) (by omega) ?_
  have hPc := hP.sub (ws' := [(q1, .inr (3, [.int 0, .ref gde, .int 0]))]) [2] rfl
  have hDc := hD.sub (ws' := [(q1, .inr (3, [.int 0, .ref gde, .int 0]))]) [2] (by decide) rfl
  have hKc := hK.sub (tys' := []) [] rfl
  have hFc := va_free (wc := [(q1, .inr (3, [.int 0, .ref gde, .int 0]))]) hD hS hA [2] rfl
  refine va_calli (va_runV (As := []) (rest := []) ⟨hx, hb, hml, hown, hts⟩ (kx_Jx4a65c_size_8abf5_1 l dC dI ge5 gea gv5 gva gde gic gi0 q1 H.size) (cwV 0 hts gX5_spots_Jx4a65c_size_8abf5 rfl rfl rfl (by decide +kernel) ⟨Nat.le_of_ble_eq_true rfl, Nat.le_of_ble_eq_true rfl⟩) ⟨fun a U g mk q => by obtain ⟨q0, q1, qP, qK, qD, qG⟩ := q; exact ⟨q0, q1, qP, va_K.moved (u := U) (U := U.calling g mk a) (Vm.Alike.refl U.vm) qK, qD, gv.fb qG⟩, va_recv hKc hPc (ci := 3) (q0 := 0) rfl rfl, fun U hU hW => ⟨rfl, by rw [hU], by rw [hU]; exact hPc, va_K.moved hW.alike hKc, hDc.weaken (fun _ _ _ _ => trivial), gv.pass hW hU hS hFc hG⟩⟩ rfl rfl hl.1 rfl (lv_room (Nat.le_of_ble_eq_true rfl)) dX5_spots_27 ⟨Nat.le_of_ble_eq_true rfl, Nat.le_of_ble_eq_true rfl⟩) hS (fun q _ h => hFc q h) hFc (fun r9 u t H1 locs ht hvm hw hB hz1 hk1 hS => ?_)
  obtain rfl := hw
  obtain ⟨hP1, hK1, hD1⟩ := hB
  rw [ht] at hP1
  have hK1 := va_K.moved hvm.symm hK1
  obtain ⟨hP, hD⟩ := va_join (wr := [(h1, .inl (k0, 4, .inr (.inr (.inr (.inr (va_up (va_up (va_up (va_up (fun _ => none) 0 (some ge5)) 1 (some ge5)) 2 (some ge5)) 3 (some ge5))))))), (h0, .inr (9, [.int 0, .ref h1, .ref z0, .ref z1, .int 0, .int 0, .int 0]))]) (w1 := [(q1, .inr (3, [.int 0, .ref gde, .int 0]))]) hP hD [2] [0, 1] rfl rfl (by decide) (by decide) hk1 hFc hP1 hD1
  generalize H1 = H at hP hS ⊢
  have hP : va_P (dC, dI) vwCl [(h1, .inl (k0, 4, .inr (.inr (.inr (.inr (va_up (va_up (va_up (va_up (fun _ => none) 0 (some ge5)) 1 (some ge5)) 2 (some ge5)) 3 (some ge5))))))), (h0, .inr (9, [.int 0, .ref h1, .ref z0, .ref z1, .int 0, .int 0, .int 0])), (q1, .inr (3, [.int 0, .ref gde, .int 0]))] H := hP
  have hD : va_D A [(h1, .inl (k0, 4, .inr (.inr (.inr (.inr (va_up (va_up (va_up (va_up (fun _ => none) 0 (some ge5)) 1 (some ge5)) 2 (some ge5)) 3 (some ge5))))))), (h0, .inr (9, [.int 0, .ref h1, .ref z0, .ref z1, .int 0, .int 0, .int 0])), (q1, .inr (3, [.int 0, .ref gde, .int 0]))] := hD
  have hP := hP.sub (ws' := [(h0, .inr (9, [.int 0, .ref h1, .ref z0, .ref z1, .int 0, .int 0, .int 0])), (h1, .inl (k0, 4, .inr (.inr (.inr (.inr (va_up (va_up (va_up (va_up (fun _ => none) 0 (some ge5)) 1 (some ge5)) 2 (some ge5)) 3 (some ge5))))))), (q1, .inr (3, [.int 0, .ref gde, .int 0]))]) [1, 0, 2] rfl
  have hD := hD.sub (ws' := [(h0, .inr (9, [.int 0, .ref h1, .ref z0, .ref z1, .int 0, .int 0, .int 0])), (h1, .inl (k0, 4, .inr (.inr (.inr (.inr (va_up (va_up (va_up (va_up (fun _ => none) 0 (some ge5)) 1 (some ge5)) 2 (some ge5)) 3 (some ge5))))))), (q1, .inr (3, [.int 0, .ref gde, .int 0]))]) [1, 0, 2] (by decide) rfl
  have hP := hP.sub (ws' := [(h0, .inr (9, [.int 0, .ref h1, .ref z0, .ref z1, .int 0, .int 0, .int 0]))]) [0] rfl
  have hD := hD.sub (ws' := [(h0, .inr (9, [.int 0, .ref h1, .ref z0, .ref z1, .int 0, .int 0, .int 0]))]) [0] (by decide) rfl
  exact W.iret (v := 0) hx hb hr (fun t ht hW => ⟨⟨0, (), rfl, rfl, q1, by rw [ht]; exact hP, va_K.moved hW.alike hK, hD⟩, hS.F ht⟩) hS.2.2 dX5_spots_30
set_option maxHeartbeats 4000000 in
set_option maxRecDepth 100000 in
theorem kx_X3_spots_4 (l : Launch) (hst : l.stackTraces = false) (dC : Nat → ClassId) (dI : Nat → Nat → Nat) (ge5 gea gv5 gva gde gic gi0 : Nat) (h0 : Nat) (z0 : Nat) (z1 : Nat) (z2 : Nat) (z3 : Nat) (z4 : Nat) (z5 : Nat) (sz : Nat) (i0 : Int32) (i0_l : ((-2147483648) : Int) ≤ i0.toInt) (i0_u : i0.toInt ≤ ((-1) : Int)) : vx_Met l yX3_spots wsX3_spots ({ frames := 7, cells := 1, slots := 6, locals := 140 }) (va_Pc [.ref h0, .int i0] (fun U => U.heap.size = sz ∧ va_P (dC, dI) vwCl [(h0, .inr (7, [.ref z0, .ref z1, .ref z2, .ref z3, .ref z4, .ref z5, .int 0, .int 0, .int 0]))] U.heap ∧ va_K (dC, dI) vwCl [] U ∧ va_D (fun _ => True) [(h0, .inr (7, [.ref z0, .ref z1, .ref z2, .ref z3, .ref z4, .ref z5, .int 0, .int 0, .int 0]))] ∧ gv ge5 gea gv5 gva gde gic gi0 (va_A [(h0, .inr (7, [.ref z0, .ref z1, .ref z2, .ref z3, .ref z4, .ref z5, .int 0, .int 0, .int 0]))] sz) U U.heap)) (va_Qi (fun (_ : Int32) (_ : Unit) => False) (fun _ _ => True) (va_A [(h0, .inr (7, [.ref z0, .ref z1, .ref z2, .ref z3, .ref z4, .ref z5, .int 0, .int 0, .int 0]))] sz)) (vx_X (fun _ : Unit => True) (fun (E : String) (_ : Unit) (t : State) => E = "java/lang/IndexOutOfBoundsException" ∧ va_P (dC, dI) vwCl [(h0, .inr (7, [.ref z0, .ref z1, .ref z2, .ref z3, .ref z4, .ref z5, .int 0, .int 0, .int 0]))] t.heap ∧ va_K (dC, dI) vwCl [] t ∧ va_D (va_A [(h0, .inr (7, [.ref z0, .ref z1, .ref z2, .ref z3, .ref z4, .ref z5, .int 0, .int 0, .int 0]))] sz) [(h0, .inr (7, [.ref z0, .ref z1, .ref z2, .ref z3, .ref z4, .ref z5, .int 0, .int 0, .int 0]))]) (va_A [(h0, .inr (7, [.ref z0, .ref z1, .ref z2, .ref z3, .ref z4, .ref z5, .int 0, .int 0, .int 0]))] sz)) 1 6 (va_A [(h0, .inr (7, [.ref z0, .ref z1, .ref z2, .ref z3, .ref z4, .ref z5, .int 0, .int 0, .int 0]))] sz) := by
  refine vx_ofW (cc := cX3_spots) (maxL := 2) (ret := (some .int)) (by decide) rfl ?_
  intro p e s m args below meth c s₁ B hml ht9 hv
  obtain ⟨rfl, hsz, hP, hK, hD0, hG⟩ := hv
  have hx := B.exec
  have hb := B.bytes
  have hr := B.returns
  have hts := atoms_spec (ws := wsX3_spots) B.pre
  have hown : s.vm.findClass RX3 = some m.cls := findClass_of_methodNamed B.named
  have hlocks := B.notSynchronized
  subst hsz
  have hD := hD0.self (sz := s.heap.size)
  generalize hAe : va_A [(h0, .inr (7, [.ref z0, .ref z1, .ref z2, .ref z3, .ref z4, .ref z5, .int 0, .int 0, .int 0]))] s.heap.size = A at hD hG ⊢
  obtain ⟨⟨g_AO_Text, g_AO_String, g_AO_Object, g_nm_RX1_20, g_nm_RX0_17, g_nm_RX3_31, g_nm_RX2_44, g_nm_RL_121, g_nf_RL_13, g_nf_RL_47, g_ca_IO, g_ca_IA, g_ca_IS, g_ca_IntObj, g_ca_StrObj, g_de_RT, g_de_EX, g_de_TH, g_nc_IA_IO, g_nc_IS_IO, g_nc_IS_IA⟩, ⟨g_s3, g_s5, g_sa, g_x278, g_x280, g_x282, g_x284, g_x286, g_x180, g_x238, g_x250⟩, ⟨g_o5, g_c5, g_v5, g_t5, g_oa, g_ca, g_va, g_ta, g_zc, g_zd, g_td, g_zf, g_zU, g_zN, g_zh, g_zk, g_tk, g_oi, g_vi⟩⟩ := id hG
  have hA : ∀ q : Nat, s.heap.size ≤ q → A q := fun q h => by rw [← hAe]; exact Or.inr h
  have hS : va_S A s.heap s.heap [] := va_S.rf
  have hP : va_P (dC, dI) vwCl [(h0, .inr (7, [.ref z0, .ref z1, .ref z2, .ref z3, .ref z4, .ref z5, .int 0, .int 0, .int 0]))] s.heap := hP
  have hl := lv_entry ([.ref h0, .int i0]) (n := 2) (Nat.le_of_ble_eq_true rfl)
  rw [lg_entry_eq]
  generalize (lg_sl ([.ref h0, .int i0]) ++ List.replicate (2 - (lg_sl ([.ref h0, .int i0])).length) Slot.unset).toArray = ls at hl ⊢
  have hl : lv_has ls 2 [(0, .ref h0), (1, .int i0)] := hl
  refine lv_iload_n hx hb dX3_spots_0 rfl (lv_at hl 1 rfl) ?_
  have hPc := hP.sub (ws' := []) [] rfl
  have hDc := hD.sub (ws' := []) [] (by decide) rfl
  have hKc := hK.sub (tys' := []) [] rfl
  have hFc := va_free (wc := []) hD hS hA [] rfl
  refine vx_callv (vx_runS (As := [.int i0]) (rest := []) ⟨hx, hb, hml, hown, hts⟩ (kx_X3_needRope_5 l hst dC dI ge5 gea gv5 gva gde gic gi0 s.heap.size i0 i0_l i0_u) (cwS 1 hts gX3_spots_X3_needRope rfl rfl rfl (by decide +kernel) ⟨Nat.le_of_ble_eq_true rfl, Nat.le_of_ble_eq_true rfl⟩) ⟨fun a U g mk q => by obtain ⟨q0, q1, qP, qK, qD, qG⟩ := q; exact ⟨q0, q1, qP, va_K.moved (u := U) (U := U.calling g mk a) (Vm.Alike.refl U.vm) qK, qD, gv.fb qG⟩, fun U hU hW => ⟨rfl, by rw [hU], by rw [hU]; exact hPc, va_K.moved hW.alike hKc, hDc.weaken (fun _ _ _ _ => trivial), gv.pass hW hU hS hFc hG⟩⟩ rfl rfl hl.1 rfl (lv_room (Nat.le_of_ble_eq_true rfl)) dX3_spots_1 ⟨Nat.le_of_ble_eq_true rfl, Nat.le_of_ble_eq_true rfl⟩) hS (fun q _ h => hFc q h) hFc (fun q _ h => hFc q h) (fun E ce q9 u t H1 locs ht hvm hpx hB hz1 hk1 hS hce hcv hcl => ?_) (fun u t H1 locs ht hvm hw hB hz1 hk1 hS => hw.elim)
  obtain ⟨rfl, hP1, hK1, hD1⟩ := hB
  rw [ht] at hP1
  have hK1 := va_K.moved hvm.symm hK1
  obtain ⟨hP, hD⟩ := va_join (wr := [(h0, .inr (7, [.ref z0, .ref z1, .ref z2, .ref z3, .ref z4, .ref z5, .int 0, .int 0, .int 0]))]) (w1 := []) hP hD [] [0] rfl rfl (by decide) (by decide) hk1 hFc hP1 hD1
  generalize H1 = H at hP hS hce ⊢
  have hP : va_P (dC, dI) vwCl [(h0, .inr (7, [.ref z0, .ref z1, .ref z2, .ref z3, .ref z4, .ref z5, .int 0, .int 0, .int 0]))] H := hP
  have hD : va_D A [(h0, .inr (7, [.ref z0, .ref z1, .ref z2, .ref z3, .ref z4, .ref z5, .int 0, .int 0, .int 0]))] := hD
  exact vx_out (fun x hx9 => (ht9 x hx9).elim) hlocks hce hcv hcl (fun t ht hW => ⟨(), trivial, ⟨rfl, by rw [ht]; exact hP, va_K.moved hW hK, hD⟩, hS.F ht⟩) hS.2.2 (by omega) (by omega)
set_option maxHeartbeats 4000000 in
set_option maxRecDepth 100000 in
theorem kx_L_spots_1 (l : Launch) (hst : l.stackTraces = false) (dC : Nat → ClassId) (dI : Nat → Nat → Nat) (ge5 gea gv5 gva gde gic gi0 : Nat) (h0 : Nat) (z0 : Nat) (z1 : Nat) (z2 : Nat) (z3 : Nat) (z4 : Nat) (z5 : Nat) (z6 : Nat) (sz : Nat) (i0 : Int32) (i0_l : ((-2147483648) : Int) ≤ i0.toInt) (i0_u : i0.toInt ≤ ((-1) : Int)) : Met l yL_spots wsL_spots ({ frames := 8, cells := 1, slots := 6, locals := 161 }) (va_Pc [.ref h0, .int i0, .ref z0] (fun U => U.heap.size = sz ∧ va_P (dC, dI) vwCl [(h0, .inr (7, [.ref z1, .ref z2, .ref z3, .ref z4, .ref z5, .ref z6, .int 0, .int 0, .int 0]))] U.heap ∧ va_K (dC, dI) vwCl [] U ∧ va_D (fun _ => True) [(h0, .inr (7, [.ref z1, .ref z2, .ref z3, .ref z4, .ref z5, .ref z6, .int 0, .int 0, .int 0]))] ∧ gv ge5 gea gv5 gva gde gic gi0 (va_A [(h0, .inr (7, [.ref z1, .ref z2, .ref z3, .ref z4, .ref z5, .ref z6, .int 0, .int 0, .int 0]))] sz) U U.heap)) (va_Qi (fun (r : Int32) (_ : Unit) => r = 1) (fun (_ : Unit) (t : State) => va_P (dC, dI) vwCl [(h0, .inr (7, [.ref z1, .ref z2, .ref z3, .ref z4, .ref z5, .ref z6, .int 0, .int 0, .int 0]))] t.heap ∧ va_K (dC, dI) vwCl [] t ∧ va_D (va_A [(h0, .inr (7, [.ref z1, .ref z2, .ref z3, .ref z4, .ref z5, .ref z6, .int 0, .int 0, .int 0]))] sz) [(h0, .inr (7, [.ref z1, .ref z2, .ref z3, .ref z4, .ref z5, .ref z6, .int 0, .int 0, .int 0]))]) (va_A [(h0, .inr (7, [.ref z1, .ref z2, .ref z3, .ref z4, .ref z5, .ref z6, .int 0, .int 0, .int 0]))] sz)) 1 6 (va_A [(h0, .inr (7, [.ref z1, .ref z2, .ref z3, .ref z4, .ref z5, .ref z6, .int 0, .int 0, .int 0]))] sz) := by
  refine kz_ofWH (cc := cL_spots) (maxL := 4) (ret := (some .int)) (hh := [(0, 10, 13, 19)]) (by decide) rfl ?_
  intro p e s m args below meth c s₁ B hml hv
  obtain ⟨rfl, hsz, hP, hK, hD0, hG⟩ := hv
  have hx := B.exec
  have hb := B.bytes
  have hr := B.returns
  have hts := atoms_spec (ws := wsL_spots) B.pre
  have hown : s.vm.findClass RL = some m.cls := findClass_of_methodNamed B.named
  have htab := vx_table (x := yL_spots) B (hts (.codeWith yL_spots cL_spots 4 (some .int) [(0, 10, 13, 19)]) (by decide +kernel))
  have hlocks := B.notSynchronized
  subst hsz
  have hD := hD0.self (sz := s.heap.size)
  generalize hAe : va_A [(h0, .inr (7, [.ref z1, .ref z2, .ref z3, .ref z4, .ref z5, .ref z6, .int 0, .int 0, .int 0]))] s.heap.size = A at hD hG ⊢
  obtain ⟨⟨g_AO_Text, g_AO_String, g_AO_Object, g_nm_RX1_20, g_nm_RX0_17, g_nm_RX3_31, g_nm_RX2_44, g_nm_RL_121, g_nf_RL_13, g_nf_RL_47, g_ca_IO, g_ca_IA, g_ca_IS, g_ca_IntObj, g_ca_StrObj, g_de_RT, g_de_EX, g_de_TH, g_nc_IA_IO, g_nc_IS_IO, g_nc_IS_IA⟩, ⟨g_s3, g_s5, g_sa, g_x278, g_x280, g_x282, g_x284, g_x286, g_x180, g_x238, g_x250⟩, ⟨g_o5, g_c5, g_v5, g_t5, g_oa, g_ca, g_va, g_ta, g_zc, g_zd, g_td, g_zf, g_zU, g_zN, g_zh, g_zk, g_tk, g_oi, g_vi⟩⟩ := id hG
  have hA : ∀ q : Nat, s.heap.size ≤ q → A q := fun q h => by rw [← hAe]; exact Or.inr h
  have hS : va_S A s.heap s.heap [] := va_S.rf
  have hP : va_P (dC, dI) vwCl [(h0, .inr (7, [.ref z1, .ref z2, .ref z3, .ref z4, .ref z5, .ref z6, .int 0, .int 0, .int 0]))] s.heap := hP
  have hl := lv_entry ([.ref h0, .int i0, .ref z0]) (n := 4) (Nat.le_of_ble_eq_true rfl)
  rw [lg_entry_eq]
  generalize (lg_sl ([.ref h0, .int i0, .ref z0]) ++ List.replicate (4 - (lg_sl ([.ref h0, .int i0, .ref z0])).length) Slot.unset).toArray = ls at hl ⊢
  have hl : lv_has ls 4 [(0, .ref h0), (1, .int i0), (2, .ref z0)] := hl
  refine lv_aload_n hx hb dL_spots_0 rfl (lv_at hl 2 rfl) ?_
  refine lv_aload_n hx hb dL_spots_1 rfl (lv_at hl 0 rfl) ?_
  refine lv_iload_n hx hb dL_spots_2 rfl (lv_at hl 1 rfl) ?_
  have hPc := hP.sub (ws' := [(h0, .inr (7, [.ref z1, .ref z2, .ref z3, .ref z4, .ref z5, .ref z6, .int 0, .int 0, .int 0]))]) [0] rfl
  have hDc := hD.sub (ws' := [(h0, .inr (7, [.ref z1, .ref z2, .ref z3, .ref z4, .ref z5, .ref z6, .int 0, .int 0, .int 0]))]) [0] (by decide) rfl
  have hKc := hK.sub (tys' := []) [] rfl
  have hFc := va_free (wc := [(h0, .inr (7, [.ref z1, .ref z2, .ref z3, .ref z4, .ref z5, .ref z6, .int 0, .int 0, .int 0]))]) hD hS hA [0] rfl
  refine vx_calli (vx_runV (As := [.int i0]) (rest := [.ref z0]) ⟨hx, hb, hml, hown, hts⟩ (kx_X3_spots_4 l hst dC dI ge5 gea gv5 gva gde gic gi0 h0 z1 z2 z3 z4 z5 z6 s.heap.size i0 i0_l i0_u) (cwV 1 hts gL_spots_X3_spots rfl rfl rfl (by decide +kernel) ⟨Nat.le_of_ble_eq_true rfl, Nat.le_of_ble_eq_true rfl⟩) ⟨fun a U g mk q => by obtain ⟨q0, q1, qP, qK, qD, qG⟩ := q; exact ⟨q0, q1, qP, va_K.moved (u := U) (U := U.calling g mk a) (Vm.Alike.refl U.vm) qK, qD, gv.fb qG⟩, va_recv hKc hPc (ci := 7) (q0 := 0) rfl rfl, fun U hU hW => ⟨rfl, by rw [hU], by rw [hU]; exact hPc, va_K.moved hW.alike hKc, hDc.weaken (fun _ _ _ _ => trivial), gv.pass hW hU hS hFc hG⟩⟩ rfl rfl hl.1 rfl (lv_room (Nat.le_of_ble_eq_true rfl)) dL_spots_3 ⟨Nat.le_of_ble_eq_true rfl, Nat.le_of_ble_eq_true rfl⟩) hS (fun q _ h => hFc q h) hFc (fun q _ h => hFc q h) (fun E ce q9 u t H1 locs ht hvm hpx hB hz1 hk1 hS hce hcv hcl => ?_) (fun r9 u t H1 locs ht hvm hw hB hz1 hk1 hS => hw.elim)
  obtain ⟨rfl, hP1, hK1, hD1⟩ := hB
  rw [ht] at hP1
  have hK1 := va_K.moved hvm.symm hK1
  obtain ⟨hP, hD⟩ := va_join (wr := []) (w1 := [(h0, .inr (7, [.ref z1, .ref z2, .ref z3, .ref z4, .ref z5, .ref z6, .int 0, .int 0, .int 0]))]) hP hD [0] [] rfl rfl (by decide) (by decide) hk1 hFc hP1 hD1
  generalize H1 = H at hP hS hce ⊢
  have hP : va_P (dC, dI) vwCl [(h0, .inr (7, [.ref z1, .ref z2, .ref z3, .ref z4, .ref z5, .ref z6, .int 0, .int 0, .int 0]))] H := hP
  have hD : va_D A [(h0, .inr (7, [.ref z1, .ref z2, .ref z3, .ref z4, .ref z5, .ref z6, .int 0, .int 0, .int 0]))] := hD
  refine vx_catch (own := RL) (name := "java/lang/IndexOutOfBoundsException") hown (tableOf []) ⟨0, 10, 13, 19⟩ (tableOf []) (by rw [htab]; rfl) (fun z hz => nomatch hz) (by decide +kernel) (by decide) (hts (.classLink RL 19 "java/lang/IndexOutOfBoundsException") (by decide +kernel)) (va_Nw.use rfl g_ca_IO) hce hcv hcl ?_
  refine W.eq (g2 := F0 m 13 ls [.ref q9]) rfl ?_
  refine lv_astore_n (lv' := [(3, .ref q9), (0, .ref h0), (1, .int i0), (2, .ref z0)]) hx hb dL_spots_13 rfl hl (by decide) rfl (fun ls hl => ?_)
  refine lv_iconst (v := 1) hx hb dL_spots_14 (by decide) ?_
  exact W.iret (v := 1) hx hb hr (fun t ht hW => ⟨⟨1, (), rfl, rfl, by rw [ht]; exact hP, va_K.moved hW.alike hK, hD⟩, hS.F ht⟩) hS.2.2 dL_spots_15
set_option maxHeartbeats 4000000 in
set_option maxRecDepth 100000 in
theorem kx_X5_spots_1 (l : Launch) (dC : Nat → ClassId) (dI : Nat → Nat → Nat) (h0 : Nat) (z0 : Nat) (z1 : Nat) (z2 : Nat) (sz : Nat) (i0 : Int32) (i0_l : ((-2147483648) : Int) ≤ i0.toInt) (i0_u : i0.toInt ≤ ((-1) : Int)) : Met l yX5_spots wsX5_spots ({ frames := 2, cells := 0, slots := 0, locals := 42 }) (va_Pc [.ref h0, .int i0] (fun U => U.heap.size = sz ∧ va_P (dC, dI) vwCl [(h0, .inr (9, [.int 0, .ref z0, .ref z1, .ref z2, .int 0, .int 0, .int 0]))] U.heap ∧ va_K (dC, dI) vwCl [] U ∧ va_D (fun _ => True) [(h0, .inr (9, [.int 0, .ref z0, .ref z1, .ref z2, .int 0, .int 0, .int 0]))])) (va_Qi (fun (r : Int32) (_ : Unit) => r = 0) (fun (_ : Unit) (t : State) => va_P (dC, dI) vwCl [(h0, .inr (9, [.int 1, .ref z0, .ref z1, .ref z2, .int 0, .int 0, .int 0]))] t.heap ∧ va_K (dC, dI) vwCl [] t ∧ va_D (va_A [(h0, .inr (9, [.int 0, .ref z0, .ref z1, .ref z2, .int 0, .int 0, .int 0]))] sz) [(h0, .inr (9, [.int 1, .ref z0, .ref z1, .ref z2, .int 0, .int 0, .int 0]))]) (va_A [(h0, .inr (9, [.int 0, .ref z0, .ref z1, .ref z2, .int 0, .int 0, .int 0]))] sz)) 0 0 (va_A [(h0, .inr (9, [.int 0, .ref z0, .ref z1, .ref z2, .int 0, .int 0, .int 0]))] sz) := by
  refine Met.ofW (cc := cX5_spots) (maxL := 2) (ret := (some .int)) (by decide) rfl ?_
  intro p e s m args below meth c s₁ B hml hv
  obtain ⟨rfl, hsz, hP, hK, hD0⟩ := hv
  have hx := B.exec
  have hb := B.bytes
  have hr := B.returns
  have hts := atoms_spec (ws := wsX5_spots) B.pre
  have hown : s.vm.findClass RX5 = some m.cls := findClass_of_methodNamed B.named
  have hlocks := B.notSynchronized
  subst hsz
  have hD := hD0.self (sz := s.heap.size)
  generalize hAe : va_A [(h0, .inr (9, [.int 0, .ref z0, .ref z1, .ref z2, .int 0, .int 0, .int 0]))] s.heap.size = A at hD ⊢
  have hA : ∀ q : Nat, s.heap.size ≤ q → A q := fun q h => by rw [← hAe]; exact Or.inr h
  have hS : va_S A s.heap s.heap [] := va_S.rf
  have hP : va_P (dC, dI) vwCl [(h0, .inr (9, [.int 0, .ref z0, .ref z1, .ref z2, .int 0, .int 0, .int 0]))] s.heap := hP
  have hl := lv_entry ([.ref h0, .int i0]) (n := 2) (Nat.le_of_ble_eq_true rfl)
  rw [lg_entry_eq]
  generalize (lg_sl ([.ref h0, .int i0]) ++ List.replicate (2 - (lg_sl ([.ref h0, .int i0])).length) Slot.unset).toArray = ls at hl ⊢
  have hl : lv_has ls 2 [(0, .ref h0), (1, .int i0)] := hl
  refine lv_aload_n hx hb dX5_spots_0 rfl (lv_at hl 0 rfl) ?_
  refine lv_iload_n hx hb dX5_spots_1 rfl (lv_at hl 1 rfl) ?_
  have hPc := hP.sub (ws' := []) [] rfl
  have hDc := hD.sub (ws' := []) [] (by decide) rfl
  have hKc := hK.sub (tys' := []) [] rfl
  have hFc := va_free (wc := []) hD hS hA [] rfl
  refine va_calli (va_runS (As := [.int i0]) (rest := [.ref h0]) ⟨hx, hb, hml, hown, hts⟩ (kx_X5_isNo_0 l dC dI s.heap.size i0 i0_l i0_u) (cwS 1 hts gX5_spots_X5_isNo rfl rfl rfl (by decide +kernel) ⟨Nat.le_of_ble_eq_true rfl, Nat.le_of_ble_eq_true rfl⟩) ⟨fun a U g mk q => by obtain ⟨q0, q1, qP, qK, qD⟩ := q; exact ⟨q0, q1, qP, va_K.moved (u := U) (U := U.calling g mk a) (Vm.Alike.refl U.vm) qK, qD⟩, fun U hU hW => ⟨rfl, by rw [hU], by rw [hU]; exact hPc, va_K.moved hW.alike hKc, hDc.weaken (fun _ _ _ _ => trivial)⟩⟩ rfl rfl hl.1 rfl (lv_room (Nat.le_of_ble_eq_true rfl)) dX5_spots_2 ⟨Nat.le_of_ble_eq_true rfl, Nat.le_of_ble_eq_true rfl⟩) hS (fun q _ h => hFc q h) hFc (fun r9 u t H1 locs ht hvm hw hB hz1 hk1 hS => ?_)
  obtain rfl := hw
  obtain ⟨hP1, hK1, hD1⟩ := hB
  rw [ht] at hP1
  have hK1 := va_K.moved hvm.symm hK1
  obtain ⟨hP, hD⟩ := va_join (wr := [(h0, .inr (9, [.int 0, .ref z0, .ref z1, .ref z2, .int 0, .int 0, .int 0]))]) (w1 := []) hP hD [] [0] rfl rfl (by decide) (by decide) hk1 hFc hP1 hD1
  generalize H1 = H at hP hS ⊢
  have hP : va_P (dC, dI) vwCl [(h0, .inr (9, [.int 0, .ref z0, .ref z1, .ref z2, .int 0, .int 0, .int 0]))] H := hP
  have hD : va_D A [(h0, .inr (9, [.int 0, .ref z0, .ref z1, .ref z2, .int 0, .int 0, .int 0]))] := hD
  refine lv_iconst (v := 0) hx hb dX5_spots_5 (by decide) ?_
  refine lv_iconst (v := 0) hx hb dX5_spots_6 (by decide) ?_
  have hPc := hP.sub (ws' := [(h0, .inr (9, [.int 0, .ref z0, .ref z1, .ref z2, .int 0, .int 0, .int 0]))]) [0] rfl
  have hDc := hD.sub (ws' := [(h0, .inr (9, [.int 0, .ref z0, .ref z1, .ref z2, .int 0, .int 0, .int 0]))]) [0] (by decide) rfl
  have hKc := hK.sub (tys' := []) [] rfl
  have hFc := va_free (wc := [(h0, .inr (9, [.int 0, .ref z0, .ref z1, .ref z2, .int 0, .int 0, .int 0]))]) hD hS hA [0] rfl
  refine va_calli (va_runV (As := [.int 1, .int 0, .int 0]) (rest := []) ⟨hx, hb, hml, hown, hts⟩ (kx_X5_fails_0 l dC dI h0 z0 z1 z2 H.size) (cwV 3 hts gX5_spots_X5_fails rfl rfl rfl (by decide +kernel) ⟨Nat.le_of_ble_eq_true rfl, Nat.le_of_ble_eq_true rfl⟩) ⟨fun a U g mk q => by obtain ⟨q0, q1, qP, qK, qD⟩ := q; exact ⟨q0, q1, qP, va_K.moved (u := U) (U := U.calling g mk a) (Vm.Alike.refl U.vm) qK, qD⟩, va_recv hKc hPc (ci := 9) (q0 := 0) rfl rfl, fun U hU hW => ⟨rfl, by rw [hU], by rw [hU]; exact hPc, va_K.moved hW.alike hKc, hDc.weaken (fun _ _ _ _ => trivial)⟩⟩ rfl rfl hl.1 rfl (lv_room (Nat.le_of_ble_eq_true rfl)) dX5_spots_7 ⟨Nat.le_of_ble_eq_true rfl, Nat.le_of_ble_eq_true rfl⟩) hS (fun q _ h => hFc q h) hFc (fun r9 u t H1 locs ht hvm hw hB hz1 hk1 hS => ?_)
  obtain rfl := hw
  obtain ⟨hP1, hK1, hD1⟩ := hB
  rw [ht] at hP1
  have hK1 := va_K.moved hvm.symm hK1
  obtain ⟨hP, hD⟩ := va_join (wr := []) (w1 := [(h0, .inr (9, [.int 1, .ref z0, .ref z1, .ref z2, .int 0, .int 0, .int 0]))]) hP hD [0] [] rfl rfl (by decide) (by decide) hk1 hFc hP1 hD1
  generalize H1 = H at hP hS ⊢
  have hP : va_P (dC, dI) vwCl [(h0, .inr (9, [.int 1, .ref z0, .ref z1, .ref z2, .int 0, .int 0, .int 0]))] H := hP
  have hD : va_D A [(h0, .inr (9, [.int 1, .ref z0, .ref z1, .ref z2, .int 0, .int 0, .int 0]))] := hD
  refine lv_if_eq (tgt := 17) hx hb dX5_spots_10 (by decide) (fun c9 => absurd c9 (by decide)) (fun _ => ?_)
  refine lv_iconst (v := 0) hx hb dX5_spots_13 (by decide) ?_
  refine lv_goto (tgt := 30) hx hb dX5_spots_14 (by decide) ?_
  exact W.iret (v := 0) hx hb hr (fun t ht hW => ⟨⟨0, (), rfl, rfl, by rw [ht]; exact hP, va_K.moved hW.alike hK, hD⟩, hS.F ht⟩) hS.2.2 dX5_spots_30
set_option maxHeartbeats 4000000 in
set_option maxRecDepth 100000 in
theorem kx_X3_spots_5 (l : Launch) (hst : l.stackTraces = false) (dC : Nat → ClassId) (dI : Nat → Nat → Nat) (ge5 gea gv5 gva gde gic gi0 : Nat) (h0 : Nat) (z0 : Nat) (z1 : Nat) (z2 : Nat) (z3 : Nat) (z4 : Nat) (z5 : Nat) (sz : Nat) (i0 : Int32) (i0_l : (4 : Int) ≤ i0.toInt) (i0_u : i0.toInt ≤ (2147483647 : Int)) : vx_Met l yX3_spots wsX3_spots ({ frames := 7, cells := 1, slots := 6, locals := 140 }) (va_Pc [.ref h0, .int i0] (fun U => U.heap.size = sz ∧ va_P (dC, dI) vwCl [(h0, .inr (7, [.ref z0, .ref z1, .ref z2, .ref z3, .ref z4, .ref z5, .int 0, .int 0, .int 0]))] U.heap ∧ va_K (dC, dI) vwCl [] U ∧ va_D (fun _ => True) [(h0, .inr (7, [.ref z0, .ref z1, .ref z2, .ref z3, .ref z4, .ref z5, .int 0, .int 0, .int 0]))] ∧ gv ge5 gea gv5 gva gde gic gi0 (va_A [(h0, .inr (7, [.ref z0, .ref z1, .ref z2, .ref z3, .ref z4, .ref z5, .int 0, .int 0, .int 0]))] sz) U U.heap)) (va_Qi (fun (_ : Int32) (_ : Unit) => False) (fun _ _ => True) (va_A [(h0, .inr (7, [.ref z0, .ref z1, .ref z2, .ref z3, .ref z4, .ref z5, .int 0, .int 0, .int 0]))] sz)) (vx_X (fun _ : Unit => True) (fun (E : String) (_ : Unit) (t : State) => E = "java/lang/IndexOutOfBoundsException" ∧ va_P (dC, dI) vwCl [(h0, .inr (7, [.ref z0, .ref z1, .ref z2, .ref z3, .ref z4, .ref z5, .int 0, .int 0, .int 0]))] t.heap ∧ va_K (dC, dI) vwCl [] t ∧ va_D (va_A [(h0, .inr (7, [.ref z0, .ref z1, .ref z2, .ref z3, .ref z4, .ref z5, .int 0, .int 0, .int 0]))] sz) [(h0, .inr (7, [.ref z0, .ref z1, .ref z2, .ref z3, .ref z4, .ref z5, .int 0, .int 0, .int 0]))]) (va_A [(h0, .inr (7, [.ref z0, .ref z1, .ref z2, .ref z3, .ref z4, .ref z5, .int 0, .int 0, .int 0]))] sz)) 1 6 (va_A [(h0, .inr (7, [.ref z0, .ref z1, .ref z2, .ref z3, .ref z4, .ref z5, .int 0, .int 0, .int 0]))] sz) := by
  refine vx_ofW (cc := cX3_spots) (maxL := 2) (ret := (some .int)) (by decide) rfl ?_
  intro p e s m args below meth c s₁ B hml ht9 hv
  obtain ⟨rfl, hsz, hP, hK, hD0, hG⟩ := hv
  have hx := B.exec
  have hb := B.bytes
  have hr := B.returns
  have hts := atoms_spec (ws := wsX3_spots) B.pre
  have hown : s.vm.findClass RX3 = some m.cls := findClass_of_methodNamed B.named
  have hlocks := B.notSynchronized
  subst hsz
  have hD := hD0.self (sz := s.heap.size)
  generalize hAe : va_A [(h0, .inr (7, [.ref z0, .ref z1, .ref z2, .ref z3, .ref z4, .ref z5, .int 0, .int 0, .int 0]))] s.heap.size = A at hD hG ⊢
  obtain ⟨⟨g_AO_Text, g_AO_String, g_AO_Object, g_nm_RX1_20, g_nm_RX0_17, g_nm_RX3_31, g_nm_RX2_44, g_nm_RL_121, g_nf_RL_13, g_nf_RL_47, g_ca_IO, g_ca_IA, g_ca_IS, g_ca_IntObj, g_ca_StrObj, g_de_RT, g_de_EX, g_de_TH, g_nc_IA_IO, g_nc_IS_IO, g_nc_IS_IA⟩, ⟨g_s3, g_s5, g_sa, g_x278, g_x280, g_x282, g_x284, g_x286, g_x180, g_x238, g_x250⟩, ⟨g_o5, g_c5, g_v5, g_t5, g_oa, g_ca, g_va, g_ta, g_zc, g_zd, g_td, g_zf, g_zU, g_zN, g_zh, g_zk, g_tk, g_oi, g_vi⟩⟩ := id hG
  have hA : ∀ q : Nat, s.heap.size ≤ q → A q := fun q h => by rw [← hAe]; exact Or.inr h
  have hS : va_S A s.heap s.heap [] := va_S.rf
  have hP : va_P (dC, dI) vwCl [(h0, .inr (7, [.ref z0, .ref z1, .ref z2, .ref z3, .ref z4, .ref z5, .int 0, .int 0, .int 0]))] s.heap := hP
  have hl := lv_entry ([.ref h0, .int i0]) (n := 2) (Nat.le_of_ble_eq_true rfl)
  rw [lg_entry_eq]
  generalize (lg_sl ([.ref h0, .int i0]) ++ List.replicate (2 - (lg_sl ([.ref h0, .int i0])).length) Slot.unset).toArray = ls at hl ⊢
  have hl : lv_has ls 2 [(0, .ref h0), (1, .int i0)] := hl
  refine lv_iload_n hx hb dX3_spots_0 rfl (lv_at hl 1 rfl) ?_
  have hPc := hP.sub (ws' := []) [] rfl
  have hDc := hD.sub (ws' := []) [] (by decide) rfl
  have hKc := hK.sub (tys' := []) [] rfl
  have hFc := va_free (wc := []) hD hS hA [] rfl
  refine vx_callv (vx_runS (As := [.int i0]) (rest := []) ⟨hx, hb, hml, hown, hts⟩ (kx_X3_needRope_6 l hst dC dI ge5 gea gv5 gva gde gic gi0 s.heap.size i0 i0_l i0_u) (cwS 1 hts gX3_spots_X3_needRope rfl rfl rfl (by decide +kernel) ⟨Nat.le_of_ble_eq_true rfl, Nat.le_of_ble_eq_true rfl⟩) ⟨fun a U g mk q => by obtain ⟨q0, q1, qP, qK, qD, qG⟩ := q; exact ⟨q0, q1, qP, va_K.moved (u := U) (U := U.calling g mk a) (Vm.Alike.refl U.vm) qK, qD, gv.fb qG⟩, fun U hU hW => ⟨rfl, by rw [hU], by rw [hU]; exact hPc, va_K.moved hW.alike hKc, hDc.weaken (fun _ _ _ _ => trivial), gv.pass hW hU hS hFc hG⟩⟩ rfl rfl hl.1 rfl (lv_room (Nat.le_of_ble_eq_true rfl)) dX3_spots_1 ⟨Nat.le_of_ble_eq_true rfl, Nat.le_of_ble_eq_true rfl⟩) hS (fun q _ h => hFc q h) hFc (fun q _ h => hFc q h) (fun E ce q9 u t H1 locs ht hvm hpx hB hz1 hk1 hS hce hcv hcl => ?_) (fun u t H1 locs ht hvm hw hB hz1 hk1 hS => hw.elim)
  obtain ⟨rfl, hP1, hK1, hD1⟩ := hB
  rw [ht] at hP1
  have hK1 := va_K.moved hvm.symm hK1
  obtain ⟨hP, hD⟩ := va_join (wr := [(h0, .inr (7, [.ref z0, .ref z1, .ref z2, .ref z3, .ref z4, .ref z5, .int 0, .int 0, .int 0]))]) (w1 := []) hP hD [] [0] rfl rfl (by decide) (by decide) hk1 hFc hP1 hD1
  generalize H1 = H at hP hS hce ⊢
  have hP : va_P (dC, dI) vwCl [(h0, .inr (7, [.ref z0, .ref z1, .ref z2, .ref z3, .ref z4, .ref z5, .int 0, .int 0, .int 0]))] H := hP
  have hD : va_D A [(h0, .inr (7, [.ref z0, .ref z1, .ref z2, .ref z3, .ref z4, .ref z5, .int 0, .int 0, .int 0]))] := hD
  exact vx_out (fun x hx9 => (ht9 x hx9).elim) hlocks hce hcv hcl (fun t ht hW => ⟨(), trivial, ⟨rfl, by rw [ht]; exact hP, va_K.moved hW hK, hD⟩, hS.F ht⟩) hS.2.2 (by omega) (by omega)
set_option maxHeartbeats 4000000 in
set_option maxRecDepth 100000 in
theorem kx_L_spots_2 (l : Launch) (hst : l.stackTraces = false) (dC : Nat → ClassId) (dI : Nat → Nat → Nat) (ge5 gea gv5 gva gde gic gi0 : Nat) (h0 : Nat) (z0 : Nat) (z1 : Nat) (z2 : Nat) (z3 : Nat) (z4 : Nat) (z5 : Nat) (z6 : Nat) (sz : Nat) (i0 : Int32) (i0_l : (4 : Int) ≤ i0.toInt) (i0_u : i0.toInt ≤ (2147483647 : Int)) : Met l yL_spots wsL_spots ({ frames := 8, cells := 1, slots := 6, locals := 161 }) (va_Pc [.ref h0, .int i0, .ref z0] (fun U => U.heap.size = sz ∧ va_P (dC, dI) vwCl [(h0, .inr (7, [.ref z1, .ref z2, .ref z3, .ref z4, .ref z5, .ref z6, .int 0, .int 0, .int 0]))] U.heap ∧ va_K (dC, dI) vwCl [] U ∧ va_D (fun _ => True) [(h0, .inr (7, [.ref z1, .ref z2, .ref z3, .ref z4, .ref z5, .ref z6, .int 0, .int 0, .int 0]))] ∧ gv ge5 gea gv5 gva gde gic gi0 (va_A [(h0, .inr (7, [.ref z1, .ref z2, .ref z3, .ref z4, .ref z5, .ref z6, .int 0, .int 0, .int 0]))] sz) U U.heap)) (va_Qi (fun (r : Int32) (_ : Unit) => r = 1) (fun (_ : Unit) (t : State) => va_P (dC, dI) vwCl [(h0, .inr (7, [.ref z1, .ref z2, .ref z3, .ref z4, .ref z5, .ref z6, .int 0, .int 0, .int 0]))] t.heap ∧ va_K (dC, dI) vwCl [] t ∧ va_D (va_A [(h0, .inr (7, [.ref z1, .ref z2, .ref z3, .ref z4, .ref z5, .ref z6, .int 0, .int 0, .int 0]))] sz) [(h0, .inr (7, [.ref z1, .ref z2, .ref z3, .ref z4, .ref z5, .ref z6, .int 0, .int 0, .int 0]))]) (va_A [(h0, .inr (7, [.ref z1, .ref z2, .ref z3, .ref z4, .ref z5, .ref z6, .int 0, .int 0, .int 0]))] sz)) 1 6 (va_A [(h0, .inr (7, [.ref z1, .ref z2, .ref z3, .ref z4, .ref z5, .ref z6, .int 0, .int 0, .int 0]))] sz) := by
  refine kz_ofWH (cc := cL_spots) (maxL := 4) (ret := (some .int)) (hh := [(0, 10, 13, 19)]) (by decide) rfl ?_
  intro p e s m args below meth c s₁ B hml hv
  obtain ⟨rfl, hsz, hP, hK, hD0, hG⟩ := hv
  have hx := B.exec
  have hb := B.bytes
  have hr := B.returns
  have hts := atoms_spec (ws := wsL_spots) B.pre
  have hown : s.vm.findClass RL = some m.cls := findClass_of_methodNamed B.named
  have htab := vx_table (x := yL_spots) B (hts (.codeWith yL_spots cL_spots 4 (some .int) [(0, 10, 13, 19)]) (by decide +kernel))
  have hlocks := B.notSynchronized
  subst hsz
  have hD := hD0.self (sz := s.heap.size)
  generalize hAe : va_A [(h0, .inr (7, [.ref z1, .ref z2, .ref z3, .ref z4, .ref z5, .ref z6, .int 0, .int 0, .int 0]))] s.heap.size = A at hD hG ⊢
  obtain ⟨⟨g_AO_Text, g_AO_String, g_AO_Object, g_nm_RX1_20, g_nm_RX0_17, g_nm_RX3_31, g_nm_RX2_44, g_nm_RL_121, g_nf_RL_13, g_nf_RL_47, g_ca_IO, g_ca_IA, g_ca_IS, g_ca_IntObj, g_ca_StrObj, g_de_RT, g_de_EX, g_de_TH, g_nc_IA_IO, g_nc_IS_IO, g_nc_IS_IA⟩, ⟨g_s3, g_s5, g_sa, g_x278, g_x280, g_x282, g_x284, g_x286, g_x180, g_x238, g_x250⟩, ⟨g_o5, g_c5, g_v5, g_t5, g_oa, g_ca, g_va, g_ta, g_zc, g_zd, g_td, g_zf, g_zU, g_zN, g_zh, g_zk, g_tk, g_oi, g_vi⟩⟩ := id hG
  have hA : ∀ q : Nat, s.heap.size ≤ q → A q := fun q h => by rw [← hAe]; exact Or.inr h
  have hS : va_S A s.heap s.heap [] := va_S.rf
  have hP : va_P (dC, dI) vwCl [(h0, .inr (7, [.ref z1, .ref z2, .ref z3, .ref z4, .ref z5, .ref z6, .int 0, .int 0, .int 0]))] s.heap := hP
  have hl := lv_entry ([.ref h0, .int i0, .ref z0]) (n := 4) (Nat.le_of_ble_eq_true rfl)
  rw [lg_entry_eq]
  generalize (lg_sl ([.ref h0, .int i0, .ref z0]) ++ List.replicate (4 - (lg_sl ([.ref h0, .int i0, .ref z0])).length) Slot.unset).toArray = ls at hl ⊢
  have hl : lv_has ls 4 [(0, .ref h0), (1, .int i0), (2, .ref z0)] := hl
  refine lv_aload_n hx hb dL_spots_0 rfl (lv_at hl 2 rfl) ?_
  refine lv_aload_n hx hb dL_spots_1 rfl (lv_at hl 0 rfl) ?_
  refine lv_iload_n hx hb dL_spots_2 rfl (lv_at hl 1 rfl) ?_
  have hPc := hP.sub (ws' := [(h0, .inr (7, [.ref z1, .ref z2, .ref z3, .ref z4, .ref z5, .ref z6, .int 0, .int 0, .int 0]))]) [0] rfl
  have hDc := hD.sub (ws' := [(h0, .inr (7, [.ref z1, .ref z2, .ref z3, .ref z4, .ref z5, .ref z6, .int 0, .int 0, .int 0]))]) [0] (by decide) rfl
  have hKc := hK.sub (tys' := []) [] rfl
  have hFc := va_free (wc := [(h0, .inr (7, [.ref z1, .ref z2, .ref z3, .ref z4, .ref z5, .ref z6, .int 0, .int 0, .int 0]))]) hD hS hA [0] rfl
  refine vx_calli (vx_runV (As := [.int i0]) (rest := [.ref z0]) ⟨hx, hb, hml, hown, hts⟩ (kx_X3_spots_5 l hst dC dI ge5 gea gv5 gva gde gic gi0 h0 z1 z2 z3 z4 z5 z6 s.heap.size i0 i0_l i0_u) (cwV 1 hts gL_spots_X3_spots rfl rfl rfl (by decide +kernel) ⟨Nat.le_of_ble_eq_true rfl, Nat.le_of_ble_eq_true rfl⟩) ⟨fun a U g mk q => by obtain ⟨q0, q1, qP, qK, qD, qG⟩ := q; exact ⟨q0, q1, qP, va_K.moved (u := U) (U := U.calling g mk a) (Vm.Alike.refl U.vm) qK, qD, gv.fb qG⟩, va_recv hKc hPc (ci := 7) (q0 := 0) rfl rfl, fun U hU hW => ⟨rfl, by rw [hU], by rw [hU]; exact hPc, va_K.moved hW.alike hKc, hDc.weaken (fun _ _ _ _ => trivial), gv.pass hW hU hS hFc hG⟩⟩ rfl rfl hl.1 rfl (lv_room (Nat.le_of_ble_eq_true rfl)) dL_spots_3 ⟨Nat.le_of_ble_eq_true rfl, Nat.le_of_ble_eq_true rfl⟩) hS (fun q _ h => hFc q h) hFc (fun q _ h => hFc q h) (fun E ce q9 u t H1 locs ht hvm hpx hB hz1 hk1 hS hce hcv hcl => ?_) (fun r9 u t H1 locs ht hvm hw hB hz1 hk1 hS => hw.elim)
  obtain ⟨rfl, hP1, hK1, hD1⟩ := hB
  rw [ht] at hP1
  have hK1 := va_K.moved hvm.symm hK1
  obtain ⟨hP, hD⟩ := va_join (wr := []) (w1 := [(h0, .inr (7, [.ref z1, .ref z2, .ref z3, .ref z4, .ref z5, .ref z6, .int 0, .int 0, .int 0]))]) hP hD [0] [] rfl rfl (by decide) (by decide) hk1 hFc hP1 hD1
  generalize H1 = H at hP hS hce ⊢
  have hP : va_P (dC, dI) vwCl [(h0, .inr (7, [.ref z1, .ref z2, .ref z3, .ref z4, .ref z5, .ref z6, .int 0, .int 0, .int 0]))] H := hP
  have hD : va_D A [(h0, .inr (7, [.ref z1, .ref z2, .ref z3, .ref z4, .ref z5, .ref z6, .int 0, .int 0, .int 0]))] := hD
  refine vx_catch (own := RL) (name := "java/lang/IndexOutOfBoundsException") hown (tableOf []) ⟨0, 10, 13, 19⟩ (tableOf []) (by rw [htab]; rfl) (fun z hz => nomatch hz) (by decide +kernel) (by decide) (hts (.classLink RL 19 "java/lang/IndexOutOfBoundsException") (by decide +kernel)) (va_Nw.use rfl g_ca_IO) hce hcv hcl ?_
  refine W.eq (g2 := F0 m 13 ls [.ref q9]) rfl ?_
  refine lv_astore_n (lv' := [(3, .ref q9), (0, .ref h0), (1, .int i0), (2, .ref z0)]) hx hb dL_spots_13 rfl hl (by decide) rfl (fun ls hl => ?_)
  refine lv_iconst (v := 1) hx hb dL_spots_14 (by decide) ?_
  exact W.iret (v := 1) hx hb hr (fun t ht hW => ⟨⟨1, (), rfl, rfl, by rw [ht]; exact hP, va_K.moved hW.alike hK, hD⟩, hS.F ht⟩) hS.2.2 dL_spots_15
set_option maxHeartbeats 4000000 in
set_option maxRecDepth 100000 in
theorem kx_X5_spots_2 (l : Launch) (dC : Nat → ClassId) (dI : Nat → Nat → Nat) (h0 : Nat) (z0 : Nat) (z1 : Nat) (z2 : Nat) (sz : Nat) (i0 : Int32) (i0_l : (4 : Int) ≤ i0.toInt) (i0_u : i0.toInt ≤ (2147483647 : Int)) : Met l yX5_spots wsX5_spots ({ frames := 2, cells := 0, slots := 0, locals := 42 }) (va_Pc [.ref h0, .int i0] (fun U => U.heap.size = sz ∧ va_P (dC, dI) vwCl [(h0, .inr (9, [.int 0, .ref z0, .ref z1, .ref z2, .int 0, .int 0, .int 0]))] U.heap ∧ va_K (dC, dI) vwCl [] U ∧ va_D (fun _ => True) [(h0, .inr (9, [.int 0, .ref z0, .ref z1, .ref z2, .int 0, .int 0, .int 0]))])) (va_Qi (fun (r : Int32) (_ : Unit) => r = 0) (fun (_ : Unit) (t : State) => va_P (dC, dI) vwCl [(h0, .inr (9, [.int 1, .ref z0, .ref z1, .ref z2, .int 0, .int 0, .int 0]))] t.heap ∧ va_K (dC, dI) vwCl [] t ∧ va_D (va_A [(h0, .inr (9, [.int 0, .ref z0, .ref z1, .ref z2, .int 0, .int 0, .int 0]))] sz) [(h0, .inr (9, [.int 1, .ref z0, .ref z1, .ref z2, .int 0, .int 0, .int 0]))]) (va_A [(h0, .inr (9, [.int 0, .ref z0, .ref z1, .ref z2, .int 0, .int 0, .int 0]))] sz)) 0 0 (va_A [(h0, .inr (9, [.int 0, .ref z0, .ref z1, .ref z2, .int 0, .int 0, .int 0]))] sz) := by
  refine Met.ofW (cc := cX5_spots) (maxL := 2) (ret := (some .int)) (by decide) rfl ?_
  intro p e s m args below meth c s₁ B hml hv
  obtain ⟨rfl, hsz, hP, hK, hD0⟩ := hv
  have hx := B.exec
  have hb := B.bytes
  have hr := B.returns
  have hts := atoms_spec (ws := wsX5_spots) B.pre
  have hown : s.vm.findClass RX5 = some m.cls := findClass_of_methodNamed B.named
  have hlocks := B.notSynchronized
  subst hsz
  have hD := hD0.self (sz := s.heap.size)
  generalize hAe : va_A [(h0, .inr (9, [.int 0, .ref z0, .ref z1, .ref z2, .int 0, .int 0, .int 0]))] s.heap.size = A at hD ⊢
  have hA : ∀ q : Nat, s.heap.size ≤ q → A q := fun q h => by rw [← hAe]; exact Or.inr h
  have hS : va_S A s.heap s.heap [] := va_S.rf
  have hP : va_P (dC, dI) vwCl [(h0, .inr (9, [.int 0, .ref z0, .ref z1, .ref z2, .int 0, .int 0, .int 0]))] s.heap := hP
  have hl := lv_entry ([.ref h0, .int i0]) (n := 2) (Nat.le_of_ble_eq_true rfl)
  rw [lg_entry_eq]
  generalize (lg_sl ([.ref h0, .int i0]) ++ List.replicate (2 - (lg_sl ([.ref h0, .int i0])).length) Slot.unset).toArray = ls at hl ⊢
  have hl : lv_has ls 2 [(0, .ref h0), (1, .int i0)] := hl
  refine lv_aload_n hx hb dX5_spots_0 rfl (lv_at hl 0 rfl) ?_
  refine lv_iload_n hx hb dX5_spots_1 rfl (lv_at hl 1 rfl) ?_
  have hPc := hP.sub (ws' := []) [] rfl
  have hDc := hD.sub (ws' := []) [] (by decide) rfl
  have hKc := hK.sub (tys' := []) [] rfl
  have hFc := va_free (wc := []) hD hS hA [] rfl
  refine va_calli (va_runS (As := [.int i0]) (rest := [.ref h0]) ⟨hx, hb, hml, hown, hts⟩ (kx_X5_isNo_2 l dC dI s.heap.size i0 i0_l i0_u) (cwS 1 hts gX5_spots_X5_isNo rfl rfl rfl (by decide +kernel) ⟨Nat.le_of_ble_eq_true rfl, Nat.le_of_ble_eq_true rfl⟩) ⟨fun a U g mk q => by obtain ⟨q0, q1, qP, qK, qD⟩ := q; exact ⟨q0, q1, qP, va_K.moved (u := U) (U := U.calling g mk a) (Vm.Alike.refl U.vm) qK, qD⟩, fun U hU hW => ⟨rfl, by rw [hU], by rw [hU]; exact hPc, va_K.moved hW.alike hKc, hDc.weaken (fun _ _ _ _ => trivial)⟩⟩ rfl rfl hl.1 rfl (lv_room (Nat.le_of_ble_eq_true rfl)) dX5_spots_2 ⟨Nat.le_of_ble_eq_true rfl, Nat.le_of_ble_eq_true rfl⟩) hS (fun q _ h => hFc q h) hFc (fun r9 u t H1 locs ht hvm hw hB hz1 hk1 hS => ?_)
  obtain rfl := hw
  obtain ⟨hP1, hK1, hD1⟩ := hB
  rw [ht] at hP1
  have hK1 := va_K.moved hvm.symm hK1
  obtain ⟨hP, hD⟩ := va_join (wr := [(h0, .inr (9, [.int 0, .ref z0, .ref z1, .ref z2, .int 0, .int 0, .int 0]))]) (w1 := []) hP hD [] [0] rfl rfl (by decide) (by decide) hk1 hFc hP1 hD1
  generalize H1 = H at hP hS ⊢
  have hP : va_P (dC, dI) vwCl [(h0, .inr (9, [.int 0, .ref z0, .ref z1, .ref z2, .int 0, .int 0, .int 0]))] H := hP
  have hD : va_D A [(h0, .inr (9, [.int 0, .ref z0, .ref z1, .ref z2, .int 0, .int 0, .int 0]))] := hD
  refine lv_iconst (v := 0) hx hb dX5_spots_5 (by decide) ?_
  refine lv_iconst (v := 0) hx hb dX5_spots_6 (by decide) ?_
  have hPc := hP.sub (ws' := [(h0, .inr (9, [.int 0, .ref z0, .ref z1, .ref z2, .int 0, .int 0, .int 0]))]) [0] rfl
  have hDc := hD.sub (ws' := [(h0, .inr (9, [.int 0, .ref z0, .ref z1, .ref z2, .int 0, .int 0, .int 0]))]) [0] (by decide) rfl
  have hKc := hK.sub (tys' := []) [] rfl
  have hFc := va_free (wc := [(h0, .inr (9, [.int 0, .ref z0, .ref z1, .ref z2, .int 0, .int 0, .int 0]))]) hD hS hA [0] rfl
  refine va_calli (va_runV (As := [.int 1, .int 0, .int 0]) (rest := []) ⟨hx, hb, hml, hown, hts⟩ (kx_X5_fails_0 l dC dI h0 z0 z1 z2 H.size) (cwV 3 hts gX5_spots_X5_fails rfl rfl rfl (by decide +kernel) ⟨Nat.le_of_ble_eq_true rfl, Nat.le_of_ble_eq_true rfl⟩) ⟨fun a U g mk q => by obtain ⟨q0, q1, qP, qK, qD⟩ := q; exact ⟨q0, q1, qP, va_K.moved (u := U) (U := U.calling g mk a) (Vm.Alike.refl U.vm) qK, qD⟩, va_recv hKc hPc (ci := 9) (q0 := 0) rfl rfl, fun U hU hW => ⟨rfl, by rw [hU], by rw [hU]; exact hPc, va_K.moved hW.alike hKc, hDc.weaken (fun _ _ _ _ => trivial)⟩⟩ rfl rfl hl.1 rfl (lv_room (Nat.le_of_ble_eq_true rfl)) dX5_spots_7 ⟨Nat.le_of_ble_eq_true rfl, Nat.le_of_ble_eq_true rfl⟩) hS (fun q _ h => hFc q h) hFc (fun r9 u t H1 locs ht hvm hw hB hz1 hk1 hS => ?_)
  obtain rfl := hw
  obtain ⟨hP1, hK1, hD1⟩ := hB
  rw [ht] at hP1
  have hK1 := va_K.moved hvm.symm hK1
  obtain ⟨hP, hD⟩ := va_join (wr := []) (w1 := [(h0, .inr (9, [.int 1, .ref z0, .ref z1, .ref z2, .int 0, .int 0, .int 0]))]) hP hD [0] [] rfl rfl (by decide) (by decide) hk1 hFc hP1 hD1
  generalize H1 = H at hP hS ⊢
  have hP : va_P (dC, dI) vwCl [(h0, .inr (9, [.int 1, .ref z0, .ref z1, .ref z2, .int 0, .int 0, .int 0]))] H := hP
  have hD : va_D A [(h0, .inr (9, [.int 1, .ref z0, .ref z1, .ref z2, .int 0, .int 0, .int 0]))] := hD
  refine lv_if_eq (tgt := 17) hx hb dX5_spots_10 (by decide) (fun c9 => absurd c9 (by decide)) (fun _ => ?_)
  refine lv_iconst (v := 0) hx hb dX5_spots_13 (by decide) ?_
  refine lv_goto (tgt := 30) hx hb dX5_spots_14 (by decide) ?_
  exact W.iret (v := 0) hx hb hr (fun t ht hW => ⟨⟨0, (), rfl, rfl, by rw [ht]; exact hP, va_K.moved hW.alike hK, hD⟩, hS.F ht⟩) hS.2.2 dX5_spots_30
set_option maxHeartbeats 4000000 in
set_option maxRecDepth 100000 in
theorem kx_X3_spot_0 (l : Launch) (hst : l.stackTraces = false) (dC : Nat → ClassId) (dI : Nat → Nat → Nat) (ge5 gea gv5 gva gde gic gi0 : Nat) (h0 : Nat) (z0 : Nat) (z1 : Nat) (z2 : Nat) (z3 : Nat) (z4 : Nat) (z5 : Nat) (sz : Nat) (i0 : Int32) (i0_l : ((-2147483648) : Int) ≤ i0.toInt) (i0_u : i0.toInt ≤ ((-1) : Int)) (i1 : Int32) (i1_l : ((-2147483648) : Int) ≤ i1.toInt) (i1_u : i1.toInt ≤ (2147483647 : Int)) : vx_Met l yX3_spot wsX3_spot ({ frames := 7, cells := 1, slots := 6, locals := 140 }) (va_Pc [.ref h0, .int i0, .int i1] (fun U => U.heap.size = sz ∧ va_P (dC, dI) vwCl [(h0, .inr (7, [.ref z0, .ref z1, .ref z2, .ref z3, .ref z4, .ref z5, .int 0, .int 0, .int 0]))] U.heap ∧ va_K (dC, dI) vwCl [] U ∧ va_D (fun _ => True) [(h0, .inr (7, [.ref z0, .ref z1, .ref z2, .ref z3, .ref z4, .ref z5, .int 0, .int 0, .int 0]))] ∧ gv ge5 gea gv5 gva gde gic gi0 (va_A [(h0, .inr (7, [.ref z0, .ref z1, .ref z2, .ref z3, .ref z4, .ref z5, .int 0, .int 0, .int 0]))] sz) U U.heap)) (va_Qr (fun _ : Unit => False) (fun _ _ _ => True) (va_A [(h0, .inr (7, [.ref z0, .ref z1, .ref z2, .ref z3, .ref z4, .ref z5, .int 0, .int 0, .int 0]))] sz)) (vx_X (fun _ : Unit => True) (fun (E : String) (_ : Unit) (t : State) => E = "java/lang/IndexOutOfBoundsException" ∧ va_P (dC, dI) vwCl [(h0, .inr (7, [.ref z0, .ref z1, .ref z2, .ref z3, .ref z4, .ref z5, .int 0, .int 0, .int 0]))] t.heap ∧ va_K (dC, dI) vwCl [] t ∧ va_D (va_A [(h0, .inr (7, [.ref z0, .ref z1, .ref z2, .ref z3, .ref z4, .ref z5, .int 0, .int 0, .int 0]))] sz) [(h0, .inr (7, [.ref z0, .ref z1, .ref z2, .ref z3, .ref z4, .ref z5, .int 0, .int 0, .int 0]))]) (va_A [(h0, .inr (7, [.ref z0, .ref z1, .ref z2, .ref z3, .ref z4, .ref z5, .int 0, .int 0, .int 0]))] sz)) 1 6 (va_A [(h0, .inr (7, [.ref z0, .ref z1, .ref z2, .ref z3, .ref z4, .ref z5, .int 0, .int 0, .int 0]))] sz) := by
  refine vx_ofW (cc := cX3_spot) (maxL := 5) (ret := (some (.object "java/lang/String"))) (by decide) rfl ?_
  intro p e s m args below meth c s₁ B hml ht9 hv
  obtain ⟨rfl, hsz, hP, hK, hD0, hG⟩ := hv
  have hx := B.exec
  have hb := B.bytes
  have hr := B.returns
  have hts := atoms_spec (ws := wsX3_spot) B.pre
  have hown : s.vm.findClass RX3 = some m.cls := findClass_of_methodNamed B.named
  have hlocks := B.notSynchronized
  subst hsz
  have hD := hD0.self (sz := s.heap.size)
  generalize hAe : va_A [(h0, .inr (7, [.ref z0, .ref z1, .ref z2, .ref z3, .ref z4, .ref z5, .int 0, .int 0, .int 0]))] s.heap.size = A at hD hG ⊢
  obtain ⟨⟨g_AO_Text, g_AO_String, g_AO_Object, g_nm_RX1_20, g_nm_RX0_17, g_nm_RX3_31, g_nm_RX2_44, g_nm_RL_121, g_nf_RL_13, g_nf_RL_47, g_ca_IO, g_ca_IA, g_ca_IS, g_ca_IntObj, g_ca_StrObj, g_de_RT, g_de_EX, g_de_TH, g_nc_IA_IO, g_nc_IS_IO, g_nc_IS_IA⟩, ⟨g_s3, g_s5, g_sa, g_x278, g_x280, g_x282, g_x284, g_x286, g_x180, g_x238, g_x250⟩, ⟨g_o5, g_c5, g_v5, g_t5, g_oa, g_ca, g_va, g_ta, g_zc, g_zd, g_td, g_zf, g_zU, g_zN, g_zh, g_zk, g_tk, g_oi, g_vi⟩⟩ := id hG
  have hA : ∀ q : Nat, s.heap.size ≤ q → A q := fun q h => by rw [← hAe]; exact Or.inr h
  have hS : va_S A s.heap s.heap [] := va_S.rf
  have hP : va_P (dC, dI) vwCl [(h0, .inr (7, [.ref z0, .ref z1, .ref z2, .ref z3, .ref z4, .ref z5, .int 0, .int 0, .int 0]))] s.heap := hP
  have hl := lv_entry ([.ref h0, .int i0, .int i1]) (n := 5) (Nat.le_of_ble_eq_true rfl)
  rw [lg_entry_eq]
  generalize (lg_sl ([.ref h0, .int i0, .int i1]) ++ List.replicate (5 - (lg_sl ([.ref h0, .int i0, .int i1])).length) Slot.unset).toArray = ls at hl ⊢
  have hl : lv_has ls 5 [(0, .ref h0), (1, .int i0), (2, .int i1)] := hl
  refine lv_iload_n hx hb dX3_spot_0 rfl (lv_at hl 1 rfl) ?_
  have hPc := hP.sub (ws' := []) [] rfl
  have hDc := hD.sub (ws' := []) [] (by decide) rfl
  have hKc := hK.sub (tys' := []) [] rfl
  have hFc := va_free (wc := []) hD hS hA [] rfl
  refine vx_callv (vx_runS (As := [.int i0]) (rest := []) ⟨hx, hb, hml, hown, hts⟩ (kx_X3_needRope_5 l hst dC dI ge5 gea gv5 gva gde gic gi0 s.heap.size i0 i0_l i0_u) (cwS 1 hts gX3_spot_X3_needRope rfl rfl rfl (by decide +kernel) ⟨Nat.le_of_ble_eq_true rfl, Nat.le_of_ble_eq_true rfl⟩) ⟨fun a U g mk q => by obtain ⟨q0, q1, qP, qK, qD, qG⟩ := q; exact ⟨q0, q1, qP, va_K.moved (u := U) (U := U.calling g mk a) (Vm.Alike.refl U.vm) qK, qD, gv.fb qG⟩, fun U hU hW => ⟨rfl, by rw [hU], by rw [hU]; exact hPc, va_K.moved hW.alike hKc, hDc.weaken (fun _ _ _ _ => trivial), gv.pass hW hU hS hFc hG⟩⟩ rfl rfl hl.1 rfl (lv_room (Nat.le_of_ble_eq_true rfl)) dX3_spot_1 ⟨Nat.le_of_ble_eq_true rfl, Nat.le_of_ble_eq_true rfl⟩) hS (fun q _ h => hFc q h) hFc (fun q _ h => hFc q h) (fun E ce q9 u t H1 locs ht hvm hpx hB hz1 hk1 hS hce hcv hcl => ?_) (fun u t H1 locs ht hvm hw hB hz1 hk1 hS => hw.elim)
  obtain ⟨rfl, hP1, hK1, hD1⟩ := hB
  rw [ht] at hP1
  have hK1 := va_K.moved hvm.symm hK1
  obtain ⟨hP, hD⟩ := va_join (wr := [(h0, .inr (7, [.ref z0, .ref z1, .ref z2, .ref z3, .ref z4, .ref z5, .int 0, .int 0, .int 0]))]) (w1 := []) hP hD [] [0] rfl rfl (by decide) (by decide) hk1 hFc hP1 hD1
  generalize H1 = H at hP hS hce ⊢
  have hP : va_P (dC, dI) vwCl [(h0, .inr (7, [.ref z0, .ref z1, .ref z2, .ref z3, .ref z4, .ref z5, .int 0, .int 0, .int 0]))] H := hP
  have hD : va_D A [(h0, .inr (7, [.ref z0, .ref z1, .ref z2, .ref z3, .ref z4, .ref z5, .int 0, .int 0, .int 0]))] := hD
  exact vx_out (fun x hx9 => (ht9 x hx9).elim) hlocks hce hcv hcl (fun t ht hW => ⟨(), trivial, ⟨rfl, by rw [ht]; exact hP, va_K.moved hW hK, hD⟩, hS.F ht⟩) hS.2.2 (by omega) (by omega)
set_option maxHeartbeats 4000000 in
set_option maxRecDepth 100000 in
theorem kx_L_spot_0 (l : Launch) (hst : l.stackTraces = false) (dC : Nat → ClassId) (dI : Nat → Nat → Nat) (ge5 gea gv5 gva gde gic gi0 : Nat) (h0 : Nat) (z0 : Nat) (z1 : Nat) (z2 : Nat) (z3 : Nat) (z4 : Nat) (z5 : Nat) (z6 : Nat) (sz : Nat) (i0 : Int32) (i0_l : ((-2147483648) : Int) ≤ i0.toInt) (i0_u : i0.toInt ≤ ((-1) : Int)) (i1 : Int32) (i1_l : ((-2147483648) : Int) ≤ i1.toInt) (i1_u : i1.toInt ≤ (2147483647 : Int)) : Met l yL_spot wsL_spot ({ frames := 8, cells := 1, slots := 6, locals := 164 }) (va_Pc [.ref h0, .int i0, .int i1, .ref z0] (fun U => U.heap.size = sz ∧ va_P (dC, dI) vwCl [(h0, .inr (7, [.ref z1, .ref z2, .ref z3, .ref z4, .ref z5, .ref z6, .int 0, .int 0, .int 0]))] U.heap ∧ va_K (dC, dI) vwCl [] U ∧ va_D (fun _ => True) [(h0, .inr (7, [.ref z1, .ref z2, .ref z3, .ref z4, .ref z5, .ref z6, .int 0, .int 0, .int 0]))] ∧ gv ge5 gea gv5 gva gde gic gi0 (va_A [(h0, .inr (7, [.ref z1, .ref z2, .ref z3, .ref z4, .ref z5, .ref z6, .int 0, .int 0, .int 0]))] sz) U U.heap)) (va_Qi (fun (r : Int32) (_ : Unit) => r = 1) (fun (_ : Unit) (t : State) => va_P (dC, dI) vwCl [(h0, .inr (7, [.ref z1, .ref z2, .ref z3, .ref z4, .ref z5, .ref z6, .int 0, .int 0, .int 0]))] t.heap ∧ va_K (dC, dI) vwCl [] t ∧ va_D (va_A [(h0, .inr (7, [.ref z1, .ref z2, .ref z3, .ref z4, .ref z5, .ref z6, .int 0, .int 0, .int 0]))] sz) [(h0, .inr (7, [.ref z1, .ref z2, .ref z3, .ref z4, .ref z5, .ref z6, .int 0, .int 0, .int 0]))]) (va_A [(h0, .inr (7, [.ref z1, .ref z2, .ref z3, .ref z4, .ref z5, .ref z6, .int 0, .int 0, .int 0]))] sz)) 1 6 (va_A [(h0, .inr (7, [.ref z1, .ref z2, .ref z3, .ref z4, .ref z5, .ref z6, .int 0, .int 0, .int 0]))] sz) := by
  refine kz_ofWH (cc := cL_spot) (maxL := 5) (ret := (some .int)) (hh := [(0, 10, 13, 19)]) (by decide) rfl ?_
  intro p e s m args below meth c s₁ B hml hv
  obtain ⟨rfl, hsz, hP, hK, hD0, hG⟩ := hv
  have hx := B.exec
  have hb := B.bytes
  have hr := B.returns
  have hts := atoms_spec (ws := wsL_spot) B.pre
  have hown : s.vm.findClass RL = some m.cls := findClass_of_methodNamed B.named
  have htab := vx_table (x := yL_spot) B (hts (.codeWith yL_spot cL_spot 5 (some .int) [(0, 10, 13, 19)]) (by decide +kernel))
  have hlocks := B.notSynchronized
  subst hsz
  have hD := hD0.self (sz := s.heap.size)
  generalize hAe : va_A [(h0, .inr (7, [.ref z1, .ref z2, .ref z3, .ref z4, .ref z5, .ref z6, .int 0, .int 0, .int 0]))] s.heap.size = A at hD hG ⊢
  obtain ⟨⟨g_AO_Text, g_AO_String, g_AO_Object, g_nm_RX1_20, g_nm_RX0_17, g_nm_RX3_31, g_nm_RX2_44, g_nm_RL_121, g_nf_RL_13, g_nf_RL_47, g_ca_IO, g_ca_IA, g_ca_IS, g_ca_IntObj, g_ca_StrObj, g_de_RT, g_de_EX, g_de_TH, g_nc_IA_IO, g_nc_IS_IO, g_nc_IS_IA⟩, ⟨g_s3, g_s5, g_sa, g_x278, g_x280, g_x282, g_x284, g_x286, g_x180, g_x238, g_x250⟩, ⟨g_o5, g_c5, g_v5, g_t5, g_oa, g_ca, g_va, g_ta, g_zc, g_zd, g_td, g_zf, g_zU, g_zN, g_zh, g_zk, g_tk, g_oi, g_vi⟩⟩ := id hG
  have hA : ∀ q : Nat, s.heap.size ≤ q → A q := fun q h => by rw [← hAe]; exact Or.inr h
  have hS : va_S A s.heap s.heap [] := va_S.rf
  have hP : va_P (dC, dI) vwCl [(h0, .inr (7, [.ref z1, .ref z2, .ref z3, .ref z4, .ref z5, .ref z6, .int 0, .int 0, .int 0]))] s.heap := hP
  have hl := lv_entry ([.ref h0, .int i0, .int i1, .ref z0]) (n := 5) (Nat.le_of_ble_eq_true rfl)
  rw [lg_entry_eq]
  generalize (lg_sl ([.ref h0, .int i0, .int i1, .ref z0]) ++ List.replicate (5 - (lg_sl ([.ref h0, .int i0, .int i1, .ref z0])).length) Slot.unset).toArray = ls at hl ⊢
  have hl : lv_has ls 5 [(0, .ref h0), (1, .int i0), (2, .int i1), (3, .ref z0)] := hl
  refine lv_aload_n hx hb dL_spot_0 rfl (lv_at hl 3 rfl) ?_
  refine lv_aload_n hx hb dL_spot_1 rfl (lv_at hl 0 rfl) ?_
  refine lv_iload_n hx hb dL_spot_2 rfl (lv_at hl 1 rfl) ?_
  refine lv_iload_n hx hb dL_spot_3 rfl (lv_at hl 2 rfl) ?_
  have hPc := hP.sub (ws' := [(h0, .inr (7, [.ref z1, .ref z2, .ref z3, .ref z4, .ref z5, .ref z6, .int 0, .int 0, .int 0]))]) [0] rfl
  have hDc := hD.sub (ws' := [(h0, .inr (7, [.ref z1, .ref z2, .ref z3, .ref z4, .ref z5, .ref z6, .int 0, .int 0, .int 0]))]) [0] (by decide) rfl
  have hKc := hK.sub (tys' := []) [] rfl
  have hFc := va_free (wc := [(h0, .inr (7, [.ref z1, .ref z2, .ref z3, .ref z4, .ref z5, .ref z6, .int 0, .int 0, .int 0]))]) hD hS hA [0] rfl
  refine vx_callr (vx_runV (As := [.int i0, .int i1]) (rest := [.ref z0]) ⟨hx, hb, hml, hown, hts⟩ (kx_X3_spot_0 l hst dC dI ge5 gea gv5 gva gde gic gi0 h0 z1 z2 z3 z4 z5 z6 s.heap.size i0 i0_l i0_u i1 i1_l i1_u) (cwV 2 hts gL_spot_X3_spot rfl rfl rfl (by decide +kernel) ⟨Nat.le_of_ble_eq_true rfl, Nat.le_of_ble_eq_true rfl⟩) ⟨fun a U g mk q => by obtain ⟨q0, q1, qP, qK, qD, qG⟩ := q; exact ⟨q0, q1, qP, va_K.moved (u := U) (U := U.calling g mk a) (Vm.Alike.refl U.vm) qK, qD, gv.fb qG⟩, va_recv hKc hPc (ci := 7) (q0 := 0) rfl rfl, fun U hU hW => ⟨rfl, by rw [hU], by rw [hU]; exact hPc, va_K.moved hW.alike hKc, hDc.weaken (fun _ _ _ _ => trivial), gv.pass hW hU hS hFc hG⟩⟩ rfl rfl hl.1 rfl (lv_room (Nat.le_of_ble_eq_true rfl)) dL_spot_4 ⟨Nat.le_of_ble_eq_true rfl, Nat.le_of_ble_eq_true rfl⟩) hS (fun q _ h => hFc q h) hFc (fun q _ h => hFc q h) (fun E ce q9 u t H1 locs ht hvm hpx hB hz1 hk1 hS hce hcv hcl => ?_) (fun u ra t H1 locs ht hvm hw hB hz1 hk1 hS => hw.elim)
  obtain ⟨rfl, hP1, hK1, hD1⟩ := hB
  rw [ht] at hP1
  have hK1 := va_K.moved hvm.symm hK1
  obtain ⟨hP, hD⟩ := va_join (wr := []) (w1 := [(h0, .inr (7, [.ref z1, .ref z2, .ref z3, .ref z4, .ref z5, .ref z6, .int 0, .int 0, .int 0]))]) hP hD [0] [] rfl rfl (by decide) (by decide) hk1 hFc hP1 hD1
  generalize H1 = H at hP hS hce ⊢
  have hP : va_P (dC, dI) vwCl [(h0, .inr (7, [.ref z1, .ref z2, .ref z3, .ref z4, .ref z5, .ref z6, .int 0, .int 0, .int 0]))] H := hP
  have hD : va_D A [(h0, .inr (7, [.ref z1, .ref z2, .ref z3, .ref z4, .ref z5, .ref z6, .int 0, .int 0, .int 0]))] := hD
  refine vx_catch (own := RL) (name := "java/lang/IndexOutOfBoundsException") hown (tableOf []) ⟨0, 10, 13, 19⟩ (tableOf []) (by rw [htab]; rfl) (fun z hz => nomatch hz) (by decide +kernel) (by decide) (hts (.classLink RL 19 "java/lang/IndexOutOfBoundsException") (by decide +kernel)) (va_Nw.use rfl g_ca_IO) hce hcv hcl ?_
  refine W.eq (g2 := F0 m 13 ls [.ref q9]) rfl ?_
  refine lv_astore (lv' := [(4, .ref q9), (0, .ref h0), (1, .int i0), (2, .int i1), (3, .ref z0)]) hx hb dL_spot_13 hl (by decide) rfl (fun ls hl => ?_)
  refine lv_iconst (v := 1) hx hb dL_spot_15 (by decide) ?_
  exact W.iret (v := 1) hx hb hr (fun t ht hW => ⟨⟨1, (), rfl, rfl, by rw [ht]; exact hP, va_K.moved hW.alike hK, hD⟩, hS.F ht⟩) hS.2.2 dL_spot_16
set_option maxHeartbeats 4000000 in
set_option maxRecDepth 100000 in
theorem kx_X5_spot_0 (l : Launch) (dC : Nat → ClassId) (dI : Nat → Nat → Nat) (ge5 gea gv5 gva gde gic gi0 : Nat) (h0 : Nat) (z0 : Nat) (z1 : Nat) (z2 : Nat) (sz : Nat) (i0 : Int32) (i0_l : ((-2147483648) : Int) ≤ i0.toInt) (i0_u : i0.toInt ≤ ((-1) : Int)) (i1 : Int32) (i1_l : ((-2147483648) : Int) ≤ i1.toInt) (i1_u : i1.toInt ≤ (2147483647 : Int)) : Met l yX5_spot wsX5_spot ({ frames := 2, cells := 0, slots := 0, locals := 42 }) (va_Pc [.ref h0, .int i0, .int i1] (fun U => U.heap.size = sz ∧ va_P (dC, dI) vwCl [(h0, .inr (9, [.int 0, .ref z0, .ref z1, .ref z2, .int 0, .int 0, .int 0]))] U.heap ∧ va_K (dC, dI) vwCl [] U ∧ va_D (fun _ => True) [(h0, .inr (9, [.int 0, .ref z0, .ref z1, .ref z2, .int 0, .int 0, .int 0]))] ∧ gv ge5 gea gv5 gva gde gic gi0 (va_A [(h0, .inr (9, [.int 0, .ref z0, .ref z1, .ref z2, .int 0, .int 0, .int 0]))] sz) U U.heap)) (va_Qr (fun _ : Unit => True) (fun (_ : Unit) (ra : Nat) (t : State) => ra = ge5 ∧ va_P (dC, dI) vwCl [(h0, .inr (9, [.int 1, .ref z0, .ref z1, .ref z2, .int 0, .int 0, .int 0]))] t.heap ∧ va_K (dC, dI) vwCl [] t ∧ va_D (va_A [(h0, .inr (9, [.int 0, .ref z0, .ref z1, .ref z2, .int 0, .int 0, .int 0]))] sz) [(h0, .inr (9, [.int 1, .ref z0, .ref z1, .ref z2, .int 0, .int 0, .int 0]))]) (va_A [(h0, .inr (9, [.int 0, .ref z0, .ref z1, .ref z2, .int 0, .int 0, .int 0]))] sz)) 0 0 (va_A [(h0, .inr (9, [.int 0, .ref z0, .ref z1, .ref z2, .int 0, .int 0, .int 0]))] sz) := by
  refine Met.ofW (cc := cX5_spot) (maxL := 5) (ret := (some (.object "java/lang/String"))) (by decide) rfl ?_
  intro p e s m args below meth c s₁ B hml hv
  obtain ⟨rfl, hsz, hP, hK, hD0, hG⟩ := hv
  have hx := B.exec
  have hb := B.bytes
  have hr := B.returns
  have hts := atoms_spec (ws := wsX5_spot) B.pre
  have hown : s.vm.findClass RX5 = some m.cls := findClass_of_methodNamed B.named
  have hlocks := B.notSynchronized
  subst hsz
  have hD := hD0.self (sz := s.heap.size)
  generalize hAe : va_A [(h0, .inr (9, [.int 0, .ref z0, .ref z1, .ref z2, .int 0, .int 0, .int 0]))] s.heap.size = A at hD hG ⊢
  obtain ⟨⟨g_AO_Text, g_AO_String, g_AO_Object, g_nm_RX1_20, g_nm_RX0_17, g_nm_RX3_31, g_nm_RX2_44, g_nm_RL_121, g_nf_RL_13, g_nf_RL_47, g_ca_IO, g_ca_IA, g_ca_IS, g_ca_IntObj, g_ca_StrObj, g_de_RT, g_de_EX, g_de_TH, g_nc_IA_IO, g_nc_IS_IO, g_nc_IS_IA⟩, ⟨g_s3, g_s5, g_sa, g_x278, g_x280, g_x282, g_x284, g_x286, g_x180, g_x238, g_x250⟩, ⟨g_o5, g_c5, g_v5, g_t5, g_oa, g_ca, g_va, g_ta, g_zc, g_zd, g_td, g_zf, g_zU, g_zN, g_zh, g_zk, g_tk, g_oi, g_vi⟩⟩ := id hG
  have hA : ∀ q : Nat, s.heap.size ≤ q → A q := fun q h => by rw [← hAe]; exact Or.inr h
  have hS : va_S A s.heap s.heap [] := va_S.rf
  have hP : va_P (dC, dI) vwCl [(h0, .inr (9, [.int 0, .ref z0, .ref z1, .ref z2, .int 0, .int 0, .int 0]))] s.heap := hP
  have hl := lv_entry ([.ref h0, .int i0, .int i1]) (n := 5) (Nat.le_of_ble_eq_true rfl)
  rw [lg_entry_eq]
  generalize (lg_sl ([.ref h0, .int i0, .int i1]) ++ List.replicate (5 - (lg_sl ([.ref h0, .int i0, .int i1])).length) Slot.unset).toArray = ls at hl ⊢
  have hl : lv_has ls 5 [(0, .ref h0), (1, .int i0), (2, .int i1)] := hl
  refine lv_aload_n hx hb dX5_spot_0 rfl (lv_at hl 0 rfl) ?_
  refine lv_iload_n hx hb dX5_spot_1 rfl (lv_at hl 1 rfl) ?_
  have hPc := hP.sub (ws' := []) [] rfl
  have hDc := hD.sub (ws' := []) [] (by decide) rfl
  have hKc := hK.sub (tys' := []) [] rfl
  have hFc := va_free (wc := []) hD hS hA [] rfl
  refine va_calli (va_runS (As := [.int i0]) (rest := [.ref h0]) ⟨hx, hb, hml, hown, hts⟩ (kx_X5_isNo_0 l dC dI s.heap.size i0 i0_l i0_u) (cwS 1 hts gX5_spot_X5_isNo rfl rfl rfl (by decide +kernel) ⟨Nat.le_of_ble_eq_true rfl, Nat.le_of_ble_eq_true rfl⟩) ⟨fun a U g mk q => by obtain ⟨q0, q1, qP, qK, qD⟩ := q; exact ⟨q0, q1, qP, va_K.moved (u := U) (U := U.calling g mk a) (Vm.Alike.refl U.vm) qK, qD⟩, fun U hU hW => ⟨rfl, by rw [hU], by rw [hU]; exact hPc, va_K.moved hW.alike hKc, hDc.weaken (fun _ _ _ _ => trivial)⟩⟩ rfl rfl hl.1 rfl (lv_room (Nat.le_of_ble_eq_true rfl)) dX5_spot_2 ⟨Nat.le_of_ble_eq_true rfl, Nat.le_of_ble_eq_true rfl⟩) hS (fun q _ h => hFc q h) hFc (fun r9 u t H1 locs ht hvm hw hB hz1 hk1 hS => ?_)
  obtain rfl := hw
  obtain ⟨hP1, hK1, hD1⟩ := hB
  rw [ht] at hP1
  have hK1 := va_K.moved hvm.symm hK1
  obtain ⟨hP, hD⟩ := va_join (wr := [(h0, .inr (9, [.int 0, .ref z0, .ref z1, .ref z2, .int 0, .int 0, .int 0]))]) (w1 := []) hP hD [] [0] rfl rfl (by decide) (by decide) hk1 hFc hP1 hD1
  generalize H1 = H at hP hS ⊢
  have hP : va_P (dC, dI) vwCl [(h0, .inr (9, [.int 0, .ref z0, .ref z1, .ref z2, .int 0, .int 0, .int 0]))] H := hP
  have hD : va_D A [(h0, .inr (9, [.int 0, .ref z0, .ref z1, .ref z2, .int 0, .int 0, .int 0]))] := hD
  refine lv_iconst (v := 0) hx hb dX5_spot_5 (by decide) ?_
  refine lv_iconst (v := 0) hx hb dX5_spot_6 (by decide) ?_
  have hPc := hP.sub (ws' := [(h0, .inr (9, [.int 0, .ref z0, .ref z1, .ref z2, .int 0, .int 0, .int 0]))]) [0] rfl
  have hDc := hD.sub (ws' := [(h0, .inr (9, [.int 0, .ref z0, .ref z1, .ref z2, .int 0, .int 0, .int 0]))]) [0] (by decide) rfl
  have hKc := hK.sub (tys' := []) [] rfl
  have hFc := va_free (wc := [(h0, .inr (9, [.int 0, .ref z0, .ref z1, .ref z2, .int 0, .int 0, .int 0]))]) hD hS hA [0] rfl
  refine va_calli (va_runV (As := [.int 1, .int 0, .int 0]) (rest := []) ⟨hx, hb, hml, hown, hts⟩ (kx_X5_fails_0 l dC dI h0 z0 z1 z2 H.size) (cwV 3 hts gX5_spot_X5_fails rfl rfl rfl (by decide +kernel) ⟨Nat.le_of_ble_eq_true rfl, Nat.le_of_ble_eq_true rfl⟩) ⟨fun a U g mk q => by obtain ⟨q0, q1, qP, qK, qD⟩ := q; exact ⟨q0, q1, qP, va_K.moved (u := U) (U := U.calling g mk a) (Vm.Alike.refl U.vm) qK, qD⟩, va_recv hKc hPc (ci := 9) (q0 := 0) rfl rfl, fun U hU hW => ⟨rfl, by rw [hU], by rw [hU]; exact hPc, va_K.moved hW.alike hKc, hDc.weaken (fun _ _ _ _ => trivial)⟩⟩ rfl rfl hl.1 rfl (lv_room (Nat.le_of_ble_eq_true rfl)) dX5_spot_7 ⟨Nat.le_of_ble_eq_true rfl, Nat.le_of_ble_eq_true rfl⟩) hS (fun q _ h => hFc q h) hFc (fun r9 u t H1 locs ht hvm hw hB hz1 hk1 hS => ?_)
  obtain rfl := hw
  obtain ⟨hP1, hK1, hD1⟩ := hB
  rw [ht] at hP1
  have hK1 := va_K.moved hvm.symm hK1
  obtain ⟨hP, hD⟩ := va_join (wr := []) (w1 := [(h0, .inr (9, [.int 1, .ref z0, .ref z1, .ref z2, .int 0, .int 0, .int 0]))]) hP hD [0] [] rfl rfl (by decide) (by decide) hk1 hFc hP1 hD1
  generalize H1 = H at hP hS ⊢
  have hP : va_P (dC, dI) vwCl [(h0, .inr (9, [.int 1, .ref z0, .ref z1, .ref z2, .int 0, .int 0, .int 0]))] H := hP
  have hD : va_D A [(h0, .inr (9, [.int 1, .ref z0, .ref z1, .ref z2, .int 0, .int 0, .int 0]))] := hD
  refine lv_if_eq (tgt := 16) hx hb dX5_spot_10 (by decide) (fun c9 => absurd c9 (by decide)) (fun _ => ?_)
  refine va_ldcS hx hb hown g_s5 dX5_spot_13 ?_
  exact W.aret (v := .ref ge5) hx hb hr (Or.inl ⟨_, rfl⟩) (Or.inr ⟨_, rfl⟩) (fun t ht hW => ⟨⟨(), ge5, rfl, trivial, rfl, by rw [ht]; exact hP, va_K.moved hW.alike hK, hD⟩, hS.F ht⟩) hS.2.2 dX5_spot_15
set_option maxHeartbeats 4000000 in
set_option maxRecDepth 100000 in
theorem kx_X3_spot_1 (l : Launch) (hst : l.stackTraces = false) (dC : Nat → ClassId) (dI : Nat → Nat → Nat) (ge5 gea gv5 gva gde gic gi0 : Nat) (h0 : Nat) (z0 : Nat) (z1 : Nat) (z2 : Nat) (z3 : Nat) (z4 : Nat) (z5 : Nat) (sz : Nat) (i0 : Int32) (i0_l : (4 : Int) ≤ i0.toInt) (i0_u : i0.toInt ≤ (2147483647 : Int)) (i1 : Int32) (i1_l : ((-2147483648) : Int) ≤ i1.toInt) (i1_u : i1.toInt ≤ (2147483647 : Int)) : vx_Met l yX3_spot wsX3_spot ({ frames := 7, cells := 1, slots := 6, locals := 140 }) (va_Pc [.ref h0, .int i0, .int i1] (fun U => U.heap.size = sz ∧ va_P (dC, dI) vwCl [(h0, .inr (7, [.ref z0, .ref z1, .ref z2, .ref z3, .ref z4, .ref z5, .int 0, .int 0, .int 0]))] U.heap ∧ va_K (dC, dI) vwCl [] U ∧ va_D (fun _ => True) [(h0, .inr (7, [.ref z0, .ref z1, .ref z2, .ref z3, .ref z4, .ref z5, .int 0, .int 0, .int 0]))] ∧ gv ge5 gea gv5 gva gde gic gi0 (va_A [(h0, .inr (7, [.ref z0, .ref z1, .ref z2, .ref z3, .ref z4, .ref z5, .int 0, .int 0, .int 0]))] sz) U U.heap)) (va_Qr (fun _ : Unit => False) (fun _ _ _ => True) (va_A [(h0, .inr (7, [.ref z0, .ref z1, .ref z2, .ref z3, .ref z4, .ref z5, .int 0, .int 0, .int 0]))] sz)) (vx_X (fun _ : Unit => True) (fun (E : String) (_ : Unit) (t : State) => E = "java/lang/IndexOutOfBoundsException" ∧ va_P (dC, dI) vwCl [(h0, .inr (7, [.ref z0, .ref z1, .ref z2, .ref z3, .ref z4, .ref z5, .int 0, .int 0, .int 0]))] t.heap ∧ va_K (dC, dI) vwCl [] t ∧ va_D (va_A [(h0, .inr (7, [.ref z0, .ref z1, .ref z2, .ref z3, .ref z4, .ref z5, .int 0, .int 0, .int 0]))] sz) [(h0, .inr (7, [.ref z0, .ref z1, .ref z2, .ref z3, .ref z4, .ref z5, .int 0, .int 0, .int 0]))]) (va_A [(h0, .inr (7, [.ref z0, .ref z1, .ref z2, .ref z3, .ref z4, .ref z5, .int 0, .int 0, .int 0]))] sz)) 1 6 (va_A [(h0, .inr (7, [.ref z0, .ref z1, .ref z2, .ref z3, .ref z4, .ref z5, .int 0, .int 0, .int 0]))] sz) := by
  refine vx_ofW (cc := cX3_spot) (maxL := 5) (ret := (some (.object "java/lang/String"))) (by decide) rfl ?_
  intro p e s m args below meth c s₁ B hml ht9 hv
  obtain ⟨rfl, hsz, hP, hK, hD0, hG⟩ := hv
  have hx := B.exec
  have hb := B.bytes
  have hr := B.returns
  have hts := atoms_spec (ws := wsX3_spot) B.pre
  have hown : s.vm.findClass RX3 = some m.cls := findClass_of_methodNamed B.named
  have hlocks := B.notSynchronized
  subst hsz
  have hD := hD0.self (sz := s.heap.size)
  generalize hAe : va_A [(h0, .inr (7, [.ref z0, .ref z1, .ref z2, .ref z3, .ref z4, .ref z5, .int 0, .int 0, .int 0]))] s.heap.size = A at hD hG ⊢
  obtain ⟨⟨g_AO_Text, g_AO_String, g_AO_Object, g_nm_RX1_20, g_nm_RX0_17, g_nm_RX3_31, g_nm_RX2_44, g_nm_RL_121, g_nf_RL_13, g_nf_RL_47, g_ca_IO, g_ca_IA, g_ca_IS, g_ca_IntObj, g_ca_StrObj, g_de_RT, g_de_EX, g_de_TH, g_nc_IA_IO, g_nc_IS_IO, g_nc_IS_IA⟩, ⟨g_s3, g_s5, g_sa, g_x278, g_x280, g_x282, g_x284, g_x286, g_x180, g_x238, g_x250⟩, ⟨g_o5, g_c5, g_v5, g_t5, g_oa, g_ca, g_va, g_ta, g_zc, g_zd, g_td, g_zf, g_zU, g_zN, g_zh, g_zk, g_tk, g_oi, g_vi⟩⟩ := id hG
  have hA : ∀ q : Nat, s.heap.size ≤ q → A q := fun q h => by rw [← hAe]; exact Or.inr h
  have hS : va_S A s.heap s.heap [] := va_S.rf
  have hP : va_P (dC, dI) vwCl [(h0, .inr (7, [.ref z0, .ref z1, .ref z2, .ref z3, .ref z4, .ref z5, .int 0, .int 0, .int 0]))] s.heap := hP
  have hl := lv_entry ([.ref h0, .int i0, .int i1]) (n := 5) (Nat.le_of_ble_eq_true rfl)
  rw [lg_entry_eq]
  generalize (lg_sl ([.ref h0, .int i0, .int i1]) ++ List.replicate (5 - (lg_sl ([.ref h0, .int i0, .int i1])).length) Slot.unset).toArray = ls at hl ⊢
  have hl : lv_has ls 5 [(0, .ref h0), (1, .int i0), (2, .int i1)] := hl
  refine lv_iload_n hx hb dX3_spot_0 rfl (lv_at hl 1 rfl) ?_
  have hPc := hP.sub (ws' := []) [] rfl
  have hDc := hD.sub (ws' := []) [] (by decide) rfl
  have hKc := hK.sub (tys' := []) [] rfl
  have hFc := va_free (wc := []) hD hS hA [] rfl
  refine vx_callv (vx_runS (As := [.int i0]) (rest := []) ⟨hx, hb, hml, hown, hts⟩ (kx_X3_needRope_6 l hst dC dI ge5 gea gv5 gva gde gic gi0 s.heap.size i0 i0_l i0_u) (cwS 1 hts gX3_spot_X3_needRope rfl rfl rfl (by decide +kernel) ⟨Nat.le_of_ble_eq_true rfl, Nat.le_of_ble_eq_true rfl⟩) ⟨fun a U g mk q => by obtain ⟨q0, q1, qP, qK, qD, qG⟩ := q; exact ⟨q0, q1, qP, va_K.moved (u := U) (U := U.calling g mk a) (Vm.Alike.refl U.vm) qK, qD, gv.fb qG⟩, fun U hU hW => ⟨rfl, by rw [hU], by rw [hU]; exact hPc, va_K.moved hW.alike hKc, hDc.weaken (fun _ _ _ _ => trivial), gv.pass hW hU hS hFc hG⟩⟩ rfl rfl hl.1 rfl (lv_room (Nat.le_of_ble_eq_true rfl)) dX3_spot_1 ⟨Nat.le_of_ble_eq_true rfl, Nat.le_of_ble_eq_true rfl⟩) hS (fun q _ h => hFc q h) hFc (fun q _ h => hFc q h) (fun E ce q9 u t H1 locs ht hvm hpx hB hz1 hk1 hS hce hcv hcl => ?_) (fun u t H1 locs ht hvm hw hB hz1 hk1 hS => hw.elim)
  obtain ⟨rfl, hP1, hK1, hD1⟩ := hB
  rw [ht] at hP1
  have hK1 := va_K.moved hvm.symm hK1
  obtain ⟨hP, hD⟩ := va_join (wr := [(h0, .inr (7, [.ref z0, .ref z1, .ref z2, .ref z3, .ref z4, .ref z5, .int 0, .int 0, .int 0]))]) (w1 := []) hP hD [] [0] rfl rfl (by decide) (by decide) hk1 hFc hP1 hD1
  generalize H1 = H at hP hS hce ⊢
  have hP : va_P (dC, dI) vwCl [(h0, .inr (7, [.ref z0, .ref z1, .ref z2, .ref z3, .ref z4, .ref z5, .int 0, .int 0, .int 0]))] H := hP
  have hD : va_D A [(h0, .inr (7, [.ref z0, .ref z1, .ref z2, .ref z3, .ref z4, .ref z5, .int 0, .int 0, .int 0]))] := hD
  exact vx_out (fun x hx9 => (ht9 x hx9).elim) hlocks hce hcv hcl (fun t ht hW => ⟨(), trivial, ⟨rfl, by rw [ht]; exact hP, va_K.moved hW hK, hD⟩, hS.F ht⟩) hS.2.2 (by omega) (by omega)
set_option maxHeartbeats 4000000 in
set_option maxRecDepth 100000 in
theorem kx_L_spot_1 (l : Launch) (hst : l.stackTraces = false) (dC : Nat → ClassId) (dI : Nat → Nat → Nat) (ge5 gea gv5 gva gde gic gi0 : Nat) (h0 : Nat) (z0 : Nat) (z1 : Nat) (z2 : Nat) (z3 : Nat) (z4 : Nat) (z5 : Nat) (z6 : Nat) (sz : Nat) (i0 : Int32) (i0_l : (4 : Int) ≤ i0.toInt) (i0_u : i0.toInt ≤ (2147483647 : Int)) (i1 : Int32) (i1_l : ((-2147483648) : Int) ≤ i1.toInt) (i1_u : i1.toInt ≤ (2147483647 : Int)) : Met l yL_spot wsL_spot ({ frames := 8, cells := 1, slots := 6, locals := 164 }) (va_Pc [.ref h0, .int i0, .int i1, .ref z0] (fun U => U.heap.size = sz ∧ va_P (dC, dI) vwCl [(h0, .inr (7, [.ref z1, .ref z2, .ref z3, .ref z4, .ref z5, .ref z6, .int 0, .int 0, .int 0]))] U.heap ∧ va_K (dC, dI) vwCl [] U ∧ va_D (fun _ => True) [(h0, .inr (7, [.ref z1, .ref z2, .ref z3, .ref z4, .ref z5, .ref z6, .int 0, .int 0, .int 0]))] ∧ gv ge5 gea gv5 gva gde gic gi0 (va_A [(h0, .inr (7, [.ref z1, .ref z2, .ref z3, .ref z4, .ref z5, .ref z6, .int 0, .int 0, .int 0]))] sz) U U.heap)) (va_Qi (fun (r : Int32) (_ : Unit) => r = 1) (fun (_ : Unit) (t : State) => va_P (dC, dI) vwCl [(h0, .inr (7, [.ref z1, .ref z2, .ref z3, .ref z4, .ref z5, .ref z6, .int 0, .int 0, .int 0]))] t.heap ∧ va_K (dC, dI) vwCl [] t ∧ va_D (va_A [(h0, .inr (7, [.ref z1, .ref z2, .ref z3, .ref z4, .ref z5, .ref z6, .int 0, .int 0, .int 0]))] sz) [(h0, .inr (7, [.ref z1, .ref z2, .ref z3, .ref z4, .ref z5, .ref z6, .int 0, .int 0, .int 0]))]) (va_A [(h0, .inr (7, [.ref z1, .ref z2, .ref z3, .ref z4, .ref z5, .ref z6, .int 0, .int 0, .int 0]))] sz)) 1 6 (va_A [(h0, .inr (7, [.ref z1, .ref z2, .ref z3, .ref z4, .ref z5, .ref z6, .int 0, .int 0, .int 0]))] sz) := by
  refine kz_ofWH (cc := cL_spot) (maxL := 5) (ret := (some .int)) (hh := [(0, 10, 13, 19)]) (by decide) rfl ?_
  intro p e s m args below meth c s₁ B hml hv
  obtain ⟨rfl, hsz, hP, hK, hD0, hG⟩ := hv
  have hx := B.exec
  have hb := B.bytes
  have hr := B.returns
  have hts := atoms_spec (ws := wsL_spot) B.pre
  have hown : s.vm.findClass RL = some m.cls := findClass_of_methodNamed B.named
  have htab := vx_table (x := yL_spot) B (hts (.codeWith yL_spot cL_spot 5 (some .int) [(0, 10, 13, 19)]) (by decide +kernel))
  have hlocks := B.notSynchronized
  subst hsz
  have hD := hD0.self (sz := s.heap.size)
  generalize hAe : va_A [(h0, .inr (7, [.ref z1, .ref z2, .ref z3, .ref z4, .ref z5, .ref z6, .int 0, .int 0, .int 0]))] s.heap.size = A at hD hG ⊢
  obtain ⟨⟨g_AO_Text, g_AO_String, g_AO_Object, g_nm_RX1_20, g_nm_RX0_17, g_nm_RX3_31, g_nm_RX2_44, g_nm_RL_121, g_nf_RL_13, g_nf_RL_47, g_ca_IO, g_ca_IA, g_ca_IS, g_ca_IntObj, g_ca_StrObj, g_de_RT, g_de_EX, g_de_TH, g_nc_IA_IO, g_nc_IS_IO, g_nc_IS_IA⟩, ⟨g_s3, g_s5, g_sa, g_x278, g_x280, g_x282, g_x284, g_x286, g_x180, g_x238, g_x250⟩, ⟨g_o5, g_c5, g_v5, g_t5, g_oa, g_ca, g_va, g_ta, g_zc, g_zd, g_td, g_zf, g_zU, g_zN, g_zh, g_zk, g_tk, g_oi, g_vi⟩⟩ := id hG
  have hA : ∀ q : Nat, s.heap.size ≤ q → A q := fun q h => by rw [← hAe]; exact Or.inr h
  have hS : va_S A s.heap s.heap [] := va_S.rf
  have hP : va_P (dC, dI) vwCl [(h0, .inr (7, [.ref z1, .ref z2, .ref z3, .ref z4, .ref z5, .ref z6, .int 0, .int 0, .int 0]))] s.heap := hP
  have hl := lv_entry ([.ref h0, .int i0, .int i1, .ref z0]) (n := 5) (Nat.le_of_ble_eq_true rfl)
  rw [lg_entry_eq]
  generalize (lg_sl ([.ref h0, .int i0, .int i1, .ref z0]) ++ List.replicate (5 - (lg_sl ([.ref h0, .int i0, .int i1, .ref z0])).length) Slot.unset).toArray = ls at hl ⊢
  have hl : lv_has ls 5 [(0, .ref h0), (1, .int i0), (2, .int i1), (3, .ref z0)] := hl
  refine lv_aload_n hx hb dL_spot_0 rfl (lv_at hl 3 rfl) ?_
  refine lv_aload_n hx hb dL_spot_1 rfl (lv_at hl 0 rfl) ?_
  refine lv_iload_n hx hb dL_spot_2 rfl (lv_at hl 1 rfl) ?_
  refine lv_iload_n hx hb dL_spot_3 rfl (lv_at hl 2 rfl) ?_
  have hPc := hP.sub (ws' := [(h0, .inr (7, [.ref z1, .ref z2, .ref z3, .ref z4, .ref z5, .ref z6, .int 0, .int 0, .int 0]))]) [0] rfl
  have hDc := hD.sub (ws' := [(h0, .inr (7, [.ref z1, .ref z2, .ref z3, .ref z4, .ref z5, .ref z6, .int 0, .int 0, .int 0]))]) [0] (by decide) rfl
  have hKc := hK.sub (tys' := []) [] rfl
  have hFc := va_free (wc := [(h0, .inr (7, [.ref z1, .ref z2, .ref z3, .ref z4, .ref z5, .ref z6, .int 0, .int 0, .int 0]))]) hD hS hA [0] rfl
  refine vx_callr (vx_runV (As := [.int i0, .int i1]) (rest := [.ref z0]) ⟨hx, hb, hml, hown, hts⟩ (kx_X3_spot_1 l hst dC dI ge5 gea gv5 gva gde gic gi0 h0 z1 z2 z3 z4 z5 z6 s.heap.size i0 i0_l i0_u i1 i1_l i1_u) (cwV 2 hts gL_spot_X3_spot rfl rfl rfl (by decide +kernel) ⟨Nat.le_of_ble_eq_true rfl, Nat.le_of_ble_eq_true rfl⟩) ⟨fun a U g mk q => by obtain ⟨q0, q1, qP, qK, qD, qG⟩ := q; exact ⟨q0, q1, qP, va_K.moved (u := U) (U := U.calling g mk a) (Vm.Alike.refl U.vm) qK, qD, gv.fb qG⟩, va_recv hKc hPc (ci := 7) (q0 := 0) rfl rfl, fun U hU hW => ⟨rfl, by rw [hU], by rw [hU]; exact hPc, va_K.moved hW.alike hKc, hDc.weaken (fun _ _ _ _ => trivial), gv.pass hW hU hS hFc hG⟩⟩ rfl rfl hl.1 rfl (lv_room (Nat.le_of_ble_eq_true rfl)) dL_spot_4 ⟨Nat.le_of_ble_eq_true rfl, Nat.le_of_ble_eq_true rfl⟩) hS (fun q _ h => hFc q h) hFc (fun q _ h => hFc q h) (fun E ce q9 u t H1 locs ht hvm hpx hB hz1 hk1 hS hce hcv hcl => ?_) (fun u ra t H1 locs ht hvm hw hB hz1 hk1 hS => hw.elim)
  obtain ⟨rfl, hP1, hK1, hD1⟩ := hB
  rw [ht] at hP1
  have hK1 := va_K.moved hvm.symm hK1
  obtain ⟨hP, hD⟩ := va_join (wr := []) (w1 := [(h0, .inr (7, [.ref z1, .ref z2, .ref z3, .ref z4, .ref z5, .ref z6, .int 0, .int 0, .int 0]))]) hP hD [0] [] rfl rfl (by decide) (by decide) hk1 hFc hP1 hD1
  generalize H1 = H at hP hS hce ⊢
  have hP : va_P (dC, dI) vwCl [(h0, .inr (7, [.ref z1, .ref z2, .ref z3, .ref z4, .ref z5, .ref z6, .int 0, .int 0, .int 0]))] H := hP
  have hD : va_D A [(h0, .inr (7, [.ref z1, .ref z2, .ref z3, .ref z4, .ref z5, .ref z6, .int 0, .int 0, .int 0]))] := hD
  refine vx_catch (own := RL) (name := "java/lang/IndexOutOfBoundsException") hown (tableOf []) ⟨0, 10, 13, 19⟩ (tableOf []) (by rw [htab]; rfl) (fun z hz => nomatch hz) (by decide +kernel) (by decide) (hts (.classLink RL 19 "java/lang/IndexOutOfBoundsException") (by decide +kernel)) (va_Nw.use rfl g_ca_IO) hce hcv hcl ?_
  refine W.eq (g2 := F0 m 13 ls [.ref q9]) rfl ?_
  refine lv_astore (lv' := [(4, .ref q9), (0, .ref h0), (1, .int i0), (2, .int i1), (3, .ref z0)]) hx hb dL_spot_13 hl (by decide) rfl (fun ls hl => ?_)
  refine lv_iconst (v := 1) hx hb dL_spot_15 (by decide) ?_
  exact W.iret (v := 1) hx hb hr (fun t ht hW => ⟨⟨1, (), rfl, rfl, by rw [ht]; exact hP, va_K.moved hW.alike hK, hD⟩, hS.F ht⟩) hS.2.2 dL_spot_16
set_option maxHeartbeats 4000000 in
set_option maxRecDepth 100000 in
theorem kx_X5_spot_1 (l : Launch) (dC : Nat → ClassId) (dI : Nat → Nat → Nat) (ge5 gea gv5 gva gde gic gi0 : Nat) (h0 : Nat) (z0 : Nat) (z1 : Nat) (z2 : Nat) (sz : Nat) (i0 : Int32) (i0_l : (4 : Int) ≤ i0.toInt) (i0_u : i0.toInt ≤ (2147483647 : Int)) (i1 : Int32) (i1_l : ((-2147483648) : Int) ≤ i1.toInt) (i1_u : i1.toInt ≤ (2147483647 : Int)) : Met l yX5_spot wsX5_spot ({ frames := 2, cells := 0, slots := 0, locals := 42 }) (va_Pc [.ref h0, .int i0, .int i1] (fun U => U.heap.size = sz ∧ va_P (dC, dI) vwCl [(h0, .inr (9, [.int 0, .ref z0, .ref z1, .ref z2, .int 0, .int 0, .int 0]))] U.heap ∧ va_K (dC, dI) vwCl [] U ∧ va_D (fun _ => True) [(h0, .inr (9, [.int 0, .ref z0, .ref z1, .ref z2, .int 0, .int 0, .int 0]))] ∧ gv ge5 gea gv5 gva gde gic gi0 (va_A [(h0, .inr (9, [.int 0, .ref z0, .ref z1, .ref z2, .int 0, .int 0, .int 0]))] sz) U U.heap)) (va_Qr (fun _ : Unit => True) (fun (_ : Unit) (ra : Nat) (t : State) => ra = ge5 ∧ va_P (dC, dI) vwCl [(h0, .inr (9, [.int 1, .ref z0, .ref z1, .ref z2, .int 0, .int 0, .int 0]))] t.heap ∧ va_K (dC, dI) vwCl [] t ∧ va_D (va_A [(h0, .inr (9, [.int 0, .ref z0, .ref z1, .ref z2, .int 0, .int 0, .int 0]))] sz) [(h0, .inr (9, [.int 1, .ref z0, .ref z1, .ref z2, .int 0, .int 0, .int 0]))]) (va_A [(h0, .inr (9, [.int 0, .ref z0, .ref z1, .ref z2, .int 0, .int 0, .int 0]))] sz)) 0 0 (va_A [(h0, .inr (9, [.int 0, .ref z0, .ref z1, .ref z2, .int 0, .int 0, .int 0]))] sz) := by
  refine Met.ofW (cc := cX5_spot) (maxL := 5) (ret := (some (.object "java/lang/String"))) (by decide) rfl ?_
  intro p e s m args below meth c s₁ B hml hv
  obtain ⟨rfl, hsz, hP, hK, hD0, hG⟩ := hv
  have hx := B.exec
  have hb := B.bytes
  have hr := B.returns
  have hts := atoms_spec (ws := wsX5_spot) B.pre
  have hown : s.vm.findClass RX5 = some m.cls := findClass_of_methodNamed B.named
  have hlocks := B.notSynchronized
  subst hsz
  have hD := hD0.self (sz := s.heap.size)
  generalize hAe : va_A [(h0, .inr (9, [.int 0, .ref z0, .ref z1, .ref z2, .int 0, .int 0, .int 0]))] s.heap.size = A at hD hG ⊢
  obtain ⟨⟨g_AO_Text, g_AO_String, g_AO_Object, g_nm_RX1_20, g_nm_RX0_17, g_nm_RX3_31, g_nm_RX2_44, g_nm_RL_121, g_nf_RL_13, g_nf_RL_47, g_ca_IO, g_ca_IA, g_ca_IS, g_ca_IntObj, g_ca_StrObj, g_de_RT, g_de_EX, g_de_TH, g_nc_IA_IO, g_nc_IS_IO, g_nc_IS_IA⟩, ⟨g_s3, g_s5, g_sa, g_x278, g_x280, g_x282, g_x284, g_x286, g_x180, g_x238, g_x250⟩, ⟨g_o5, g_c5, g_v5, g_t5, g_oa, g_ca, g_va, g_ta, g_zc, g_zd, g_td, g_zf, g_zU, g_zN, g_zh, g_zk, g_tk, g_oi, g_vi⟩⟩ := id hG
  have hA : ∀ q : Nat, s.heap.size ≤ q → A q := fun q h => by rw [← hAe]; exact Or.inr h
  have hS : va_S A s.heap s.heap [] := va_S.rf
  have hP : va_P (dC, dI) vwCl [(h0, .inr (9, [.int 0, .ref z0, .ref z1, .ref z2, .int 0, .int 0, .int 0]))] s.heap := hP
  have hl := lv_entry ([.ref h0, .int i0, .int i1]) (n := 5) (Nat.le_of_ble_eq_true rfl)
  rw [lg_entry_eq]
  generalize (lg_sl ([.ref h0, .int i0, .int i1]) ++ List.replicate (5 - (lg_sl ([.ref h0, .int i0, .int i1])).length) Slot.unset).toArray = ls at hl ⊢
  have hl : lv_has ls 5 [(0, .ref h0), (1, .int i0), (2, .int i1)] := hl
  refine lv_aload_n hx hb dX5_spot_0 rfl (lv_at hl 0 rfl) ?_
  refine lv_iload_n hx hb dX5_spot_1 rfl (lv_at hl 1 rfl) ?_
  have hPc := hP.sub (ws' := []) [] rfl
  have hDc := hD.sub (ws' := []) [] (by decide) rfl
  have hKc := hK.sub (tys' := []) [] rfl
  have hFc := va_free (wc := []) hD hS hA [] rfl
  refine va_calli (va_runS (As := [.int i0]) (rest := [.ref h0]) ⟨hx, hb, hml, hown, hts⟩ (kx_X5_isNo_2 l dC dI s.heap.size i0 i0_l i0_u) (cwS 1 hts gX5_spot_X5_isNo rfl rfl rfl (by decide +kernel) ⟨Nat.le_of_ble_eq_true rfl, Nat.le_of_ble_eq_true rfl⟩) ⟨fun a U g mk q => by obtain ⟨q0, q1, qP, qK, qD⟩ := q; exact ⟨q0, q1, qP, va_K.moved (u := U) (U := U.calling g mk a) (Vm.Alike.refl U.vm) qK, qD⟩, fun U hU hW => ⟨rfl, by rw [hU], by rw [hU]; exact hPc, va_K.moved hW.alike hKc, hDc.weaken (fun _ _ _ _ => trivial)⟩⟩ rfl rfl hl.1 rfl (lv_room (Nat.le_of_ble_eq_true rfl)) dX5_spot_2 ⟨Nat.le_of_ble_eq_true rfl, Nat.le_of_ble_eq_true rfl⟩) hS (fun q _ h => hFc q h) hFc (fun r9 u t H1 locs ht hvm hw hB hz1 hk1 hS => ?_)
  obtain rfl := hw
  obtain ⟨hP1, hK1, hD1⟩ := hB
  rw [ht] at hP1
  have hK1 := va_K.moved hvm.symm hK1
  obtain ⟨hP, hD⟩ := va_join (wr := [(h0, .inr (9, [.int 0, .ref z0, .ref z1, .ref z2, .int 0, .int 0, .int 0]))]) (w1 := []) hP hD [] [0] rfl rfl (by decide) (by decide) hk1 hFc hP1 hD1
  generalize H1 = H at hP hS ⊢
  have hP : va_P (dC, dI) vwCl [(h0, .inr (9, [.int 0, .ref z0, .ref z1, .ref z2, .int 0, .int 0, .int 0]))] H := hP
  have hD : va_D A [(h0, .inr (9, [.int 0, .ref z0, .ref z1, .ref z2, .int 0, .int 0, .int 0]))] := hD
  refine lv_iconst (v := 0) hx hb dX5_spot_5 (by decide) ?_
  refine lv_iconst (v := 0) hx hb dX5_spot_6 (by decide) ?_
  have hPc := hP.sub (ws' := [(h0, .inr (9, [.int 0, .ref z0, .ref z1, .ref z2, .int 0, .int 0, .int 0]))]) [0] rfl
  have hDc := hD.sub (ws' := [(h0, .inr (9, [.int 0, .ref z0, .ref z1, .ref z2, .int 0, .int 0, .int 0]))]) [0] (by decide) rfl
  have hKc := hK.sub (tys' := []) [] rfl
  have hFc := va_free (wc := [(h0, .inr (9, [.int 0, .ref z0, .ref z1, .ref z2, .int 0, .int 0, .int 0]))]) hD hS hA [0] rfl
  refine va_calli (va_runV (As := [.int 1, .int 0, .int 0]) (rest := []) ⟨hx, hb, hml, hown, hts⟩ (kx_X5_fails_0 l dC dI h0 z0 z1 z2 H.size) (cwV 3 hts gX5_spot_X5_fails rfl rfl rfl (by decide +kernel) ⟨Nat.le_of_ble_eq_true rfl, Nat.le_of_ble_eq_true rfl⟩) ⟨fun a U g mk q => by obtain ⟨q0, q1, qP, qK, qD⟩ := q; exact ⟨q0, q1, qP, va_K.moved (u := U) (U := U.calling g mk a) (Vm.Alike.refl U.vm) qK, qD⟩, va_recv hKc hPc (ci := 9) (q0 := 0) rfl rfl, fun U hU hW => ⟨rfl, by rw [hU], by rw [hU]; exact hPc, va_K.moved hW.alike hKc, hDc.weaken (fun _ _ _ _ => trivial)⟩⟩ rfl rfl hl.1 rfl (lv_room (Nat.le_of_ble_eq_true rfl)) dX5_spot_7 ⟨Nat.le_of_ble_eq_true rfl, Nat.le_of_ble_eq_true rfl⟩) hS (fun q _ h => hFc q h) hFc (fun r9 u t H1 locs ht hvm hw hB hz1 hk1 hS => ?_)
  obtain rfl := hw
  obtain ⟨hP1, hK1, hD1⟩ := hB
  rw [ht] at hP1
  have hK1 := va_K.moved hvm.symm hK1
  obtain ⟨hP, hD⟩ := va_join (wr := []) (w1 := [(h0, .inr (9, [.int 1, .ref z0, .ref z1, .ref z2, .int 0, .int 0, .int 0]))]) hP hD [0] [] rfl rfl (by decide) (by decide) hk1 hFc hP1 hD1
  generalize H1 = H at hP hS ⊢
  have hP : va_P (dC, dI) vwCl [(h0, .inr (9, [.int 1, .ref z0, .ref z1, .ref z2, .int 0, .int 0, .int 0]))] H := hP
  have hD : va_D A [(h0, .inr (9, [.int 1, .ref z0, .ref z1, .ref z2, .int 0, .int 0, .int 0]))] := hD
  refine lv_if_eq (tgt := 16) hx hb dX5_spot_10 (by decide) (fun c9 => absurd c9 (by decide)) (fun _ => ?_)
  refine va_ldcS hx hb hown g_s5 dX5_spot_13 ?_
  exact W.aret (v := .ref ge5) hx hb hr (Or.inl ⟨_, rfl⟩) (Or.inr ⟨_, rfl⟩) (fun t ht hW => ⟨⟨(), ge5, rfl, trivial, rfl, by rw [ht]; exact hP, va_K.moved hW.alike hK, hD⟩, hS.F ht⟩) hS.2.2 dX5_spot_15
set_option maxHeartbeats 4000000 in
set_option maxRecDepth 100000 in
theorem kx_X3_spot_2 (l : Launch) (dC : Nat → ClassId) (dI : Nat → Nat → Nat) (ge5 gea gv5 gva gde gic gi0 : Nat) (h0 : Nat) (h1 : Nat) (h2 : Nat) (z0 : Nat) (z1 : Nat) (z2 : Nat) (z3 : Nat) (z4 : Nat) (z5 : Nat) (z6 : Nat) (z7 : Nat) (z8 : Nat) (z9 : Nat) (z10 : Nat) (z11 : Nat) (z12 : Nat) (z13 : Nat) (k0 : ClassId) (sz : Nat) (i0 : Int32) (i0_l : ((-2147483648) : Int) ≤ i0.toInt) (i0_u : i0.toInt ≤ ((-1) : Int)) : Met l yX3_spot wsX3_spot ({ frames := 1, cells := 0, slots := 0, locals := 24 }) (va_Pc [.ref h0, .int 0, .int i0] (fun U => U.heap.size = sz ∧ va_P (dC, dI) vwCl [(h0, .inr (7, [.ref h1, .ref h2, .ref z0, .ref z1, .ref z2, .ref z3, .int 0, .int 0, .int 0])), (h1, .inl (k0, 4, .inr (.inr (.inr (.inr (va_up (va_up (va_up (va_up (fun _ => none) 0 (some z4)) 1 (some z5)) 2 (some z6)) 3 (some z7))))))), (h2, .inr (5, [.ref z8, .ref z9, .ref z10, .ref z11, .ref z12, .ref z13, .int 0, .int 0]))] U.heap ∧ va_K (dC, dI) vwCl [(k0, .object "Rewriterope$Text")] U ∧ va_D (fun _ => True) [(h0, .inr (7, [.ref h1, .ref h2, .ref z0, .ref z1, .ref z2, .ref z3, .int 0, .int 0, .int 0])), (h1, .inl (k0, 4, .inr (.inr (.inr (.inr (va_up (va_up (va_up (va_up (fun _ => none) 0 (some z4)) 1 (some z5)) 2 (some z6)) 3 (some z7))))))), (h2, .inr (5, [.ref z8, .ref z9, .ref z10, .ref z11, .ref z12, .ref z13, .int 0, .int 0]))] ∧ gv ge5 gea gv5 gva gde gic gi0 (va_A [(h0, .inr (7, [.ref h1, .ref h2, .ref z0, .ref z1, .ref z2, .ref z3, .int 0, .int 0, .int 0])), (h1, .inl (k0, 4, .inr (.inr (.inr (.inr (va_up (va_up (va_up (va_up (fun _ => none) 0 (some z4)) 1 (some z5)) 2 (some z6)) 3 (some z7))))))), (h2, .inr (5, [.ref z8, .ref z9, .ref z10, .ref z11, .ref z12, .ref z13, .int 0, .int 0]))] sz) U U.heap)) (va_Qr (fun _ : Unit => True) (fun (_ : Unit) (ra : Nat) (t : State) => ra = ge5 ∧ va_P (dC, dI) vwCl [(h0, .inr (7, [.ref h1, .ref h2, .ref z0, .ref z1, .ref z2, .ref z3, .int 0, .int 0, .int 0])), (h1, .inl (k0, 4, .inr (.inr (.inr (.inr (va_up (va_up (va_up (va_up (fun _ => none) 0 (some z4)) 1 (some z5)) 2 (some z6)) 3 (some z7))))))), (h2, .inr (5, [.ref z8, .ref z9, .ref z10, .ref z11, .ref z12, .ref z13, .int 0, .int 0]))] t.heap ∧ va_K (dC, dI) vwCl [(k0, .object "Rewriterope$Text")] t ∧ va_D (va_A [(h0, .inr (7, [.ref h1, .ref h2, .ref z0, .ref z1, .ref z2, .ref z3, .int 0, .int 0, .int 0])), (h1, .inl (k0, 4, .inr (.inr (.inr (.inr (va_up (va_up (va_up (va_up (fun _ => none) 0 (some z4)) 1 (some z5)) 2 (some z6)) 3 (some z7))))))), (h2, .inr (5, [.ref z8, .ref z9, .ref z10, .ref z11, .ref z12, .ref z13, .int 0, .int 0]))] sz) [(h0, .inr (7, [.ref h1, .ref h2, .ref z0, .ref z1, .ref z2, .ref z3, .int 0, .int 0, .int 0])), (h1, .inl (k0, 4, .inr (.inr (.inr (.inr (va_up (va_up (va_up (va_up (fun _ => none) 0 (some z4)) 1 (some z5)) 2 (some z6)) 3 (some z7))))))), (h2, .inr (5, [.ref z8, .ref z9, .ref z10, .ref z11, .ref z12, .ref z13, .int 0, .int 0]))]) (va_A [(h0, .inr (7, [.ref h1, .ref h2, .ref z0, .ref z1, .ref z2, .ref z3, .int 0, .int 0, .int 0])), (h1, .inl (k0, 4, .inr (.inr (.inr (.inr (va_up (va_up (va_up (va_up (fun _ => none) 0 (some z4)) 1 (some z5)) 2 (some z6)) 3 (some z7))))))), (h2, .inr (5, [.ref z8, .ref z9, .ref z10, .ref z11, .ref z12, .ref z13, .int 0, .int 0]))] sz)) 0 0 (va_A [(h0, .inr (7, [.ref h1, .ref h2, .ref z0, .ref z1, .ref z2, .ref z3, .int 0, .int 0, .int 0])), (h1, .inl (k0, 4, .inr (.inr (.inr (.inr (va_up (va_up (va_up (va_up (fun _ => none) 0 (some z4)) 1 (some z5)) 2 (some z6)) 3 (some z7))))))), (h2, .inr (5, [.ref z8, .ref z9, .ref z10, .ref z11, .ref z12, .ref z13, .int 0, .int 0]))] sz) := by
  refine Met.ofW (cc := cX3_spot) (maxL := 5) (ret := (some (.object "java/lang/String"))) (by decide) rfl ?_
  intro p e s m args below meth c s₁ B hml hv
  obtain ⟨rfl, hsz, hP, hK, hD0, hG⟩ := hv
  have hx := B.exec
  have hb := B.bytes
  have hr := B.returns
  have hts := atoms_spec (ws := wsX3_spot) B.pre
  have hown : s.vm.findClass RX3 = some m.cls := findClass_of_methodNamed B.named
  have hlocks := B.notSynchronized
  subst hsz
  have hD := hD0.self (sz := s.heap.size)
  generalize hAe : va_A [(h0, .inr (7, [.ref h1, .ref h2, .ref z0, .ref z1, .ref z2, .ref z3, .int 0, .int 0, .int 0])), (h1, .inl (k0, 4, .inr (.inr (.inr (.inr (va_up (va_up (va_up (va_up (fun _ => none) 0 (some z4)) 1 (some z5)) 2 (some z6)) 3 (some z7))))))), (h2, .inr (5, [.ref z8, .ref z9, .ref z10, .ref z11, .ref z12, .ref z13, .int 0, .int 0]))] s.heap.size = A at hD hG ⊢
  obtain ⟨⟨g_AO_Text, g_AO_String, g_AO_Object, g_nm_RX1_20, g_nm_RX0_17, g_nm_RX3_31, g_nm_RX2_44, g_nm_RL_121, g_nf_RL_13, g_nf_RL_47, g_ca_IO, g_ca_IA, g_ca_IS, g_ca_IntObj, g_ca_StrObj, g_de_RT, g_de_EX, g_de_TH, g_nc_IA_IO, g_nc_IS_IO, g_nc_IS_IA⟩, ⟨g_s3, g_s5, g_sa, g_x278, g_x280, g_x282, g_x284, g_x286, g_x180, g_x238, g_x250⟩, ⟨g_o5, g_c5, g_v5, g_t5, g_oa, g_ca, g_va, g_ta, g_zc, g_zd, g_td, g_zf, g_zU, g_zN, g_zh, g_zk, g_tk, g_oi, g_vi⟩⟩ := id hG
  have hA : ∀ q : Nat, s.heap.size ≤ q → A q := fun q h => by rw [← hAe]; exact Or.inr h
  have hS : va_S A s.heap s.heap [] := va_S.rf
  have hP : va_P (dC, dI) vwCl [(h0, .inr (7, [.ref h1, .ref h2, .ref z0, .ref z1, .ref z2, .ref z3, .int 0, .int 0, .int 0])), (h1, .inl (k0, 4, .inr (.inr (.inr (.inr (va_up (va_up (va_up (va_up (fun _ => none) 0 (some z4)) 1 (some z5)) 2 (some z6)) 3 (some z7))))))), (h2, .inr (5, [.ref z8, .ref z9, .ref z10, .ref z11, .ref z12, .ref z13, .int 0, .int 0]))] s.heap := hP
  have hl := lv_entry ([.ref h0, .int 0, .int i0]) (n := 5) (Nat.le_of_ble_eq_true rfl)
  rw [lg_entry_eq]
  generalize (lg_sl ([.ref h0, .int 0, .int i0]) ++ List.replicate (5 - (lg_sl ([.ref h0, .int 0, .int i0])).length) Slot.unset).toArray = ls at hl ⊢
  have hl : lv_has ls 5 [(0, .ref h0), (1, .int 0), (2, .int i0)] := hl
  refine lv_iload_n hx hb dX3_spot_0 rfl (lv_at hl 1 rfl) ?_
  have hPc := hP.sub (ws' := []) [] rfl
  have hDc := hD.sub (ws' := []) [] (by decide) rfl
  have hKc := hK.sub (tys' := []) [] rfl
  have hFc := va_free (wc := []) hD hS hA [] rfl
  refine va_callv (va_runS (As := [.int 0]) (rest := []) ⟨hx, hb, hml, hown, hts⟩ (kx_X3_needRope_0 l dC dI s.heap.size) (cwS 1 hts gX3_spot_X3_needRope rfl rfl rfl (by decide +kernel) ⟨Nat.le_of_ble_eq_true rfl, Nat.le_of_ble_eq_true rfl⟩) ⟨fun a U g mk q => by obtain ⟨q0, q1, qP, qK, qD⟩ := q; exact ⟨q0, q1, qP, va_K.moved (u := U) (U := U.calling g mk a) (Vm.Alike.refl U.vm) qK, qD⟩, fun U hU hW => ⟨rfl, by rw [hU], by rw [hU]; exact hPc, va_K.moved hW.alike hKc, hDc.weaken (fun _ _ _ _ => trivial)⟩⟩ rfl rfl hl.1 rfl (lv_room (Nat.le_of_ble_eq_true rfl)) dX3_spot_1 ⟨Nat.le_of_ble_eq_true rfl, Nat.le_of_ble_eq_true rfl⟩) hS (fun q _ h => hFc q h) hFc (fun u t H1 locs ht hvm hw hB hz1 hk1 hS => ?_)
  obtain ⟨hP1, hK1, hD1⟩ := hB
  rw [ht] at hP1
  have hK1 := va_K.moved hvm.symm hK1
  obtain ⟨hP, hD⟩ := va_join (wr := [(h0, .inr (7, [.ref h1, .ref h2, .ref z0, .ref z1, .ref z2, .ref z3, .int 0, .int 0, .int 0])), (h1, .inl (k0, 4, .inr (.inr (.inr (.inr (va_up (va_up (va_up (va_up (fun _ => none) 0 (some z4)) 1 (some z5)) 2 (some z6)) 3 (some z7))))))), (h2, .inr (5, [.ref z8, .ref z9, .ref z10, .ref z11, .ref z12, .ref z13, .int 0, .int 0]))]) (w1 := []) hP hD [] [0, 1, 2] rfl rfl (by decide) (by decide) hk1 hFc hP1 hD1
  generalize H1 = H at hP hS ⊢
  have hP : va_P (dC, dI) vwCl [(h0, .inr (7, [.ref h1, .ref h2, .ref z0, .ref z1, .ref z2, .ref z3, .int 0, .int 0, .int 0])), (h1, .inl (k0, 4, .inr (.inr (.inr (.inr (va_up (va_up (va_up (va_up (fun _ => none) 0 (some z4)) 1 (some z5)) 2 (some z6)) 3 (some z7))))))), (h2, .inr (5, [.ref z8, .ref z9, .ref z10, .ref z11, .ref z12, .ref z13, .int 0, .int 0]))] H := hP
  have hD : va_D A [(h0, .inr (7, [.ref h1, .ref h2, .ref z0, .ref z1, .ref z2, .ref z3, .int 0, .int 0, .int 0])), (h1, .inl (k0, 4, .inr (.inr (.inr (.inr (va_up (va_up (va_up (va_up (fun _ => none) 0 (some z4)) 1 (some z5)) 2 (some z6)) 3 (some z7))))))), (h2, .inr (5, [.ref z8, .ref z9, .ref z10, .ref z11, .ref z12, .ref z13, .int 0, .int 0]))] := hD
  refine lv_aload_n hx hb dX3_spot_4 rfl (lv_at hl 0 rfl) ?_
  refine va_get (D := (dC, dI)) (ci := 7) (v := .ref h2) (C := RX3) (T := TX3) (N := 9) hx hb hts (by decide +kernel) hown hK hP 0 rfl rfl 1 (by decide) (hts (.fieldLink RX3 18 "Rewriterope" "book" "LRewriterope$RuleBook;") (by decide +kernel)) (fun _ h9 => h9) rfl dX3_spot_5 ?_
  refine lv_aload_n hx hb dX3_spot_8 rfl (lv_at hl 0 rfl) ?_
  refine va_get (D := (dC, dI)) (ci := 7) (v := .ref h1) (C := RX3) (T := TX3) (N := 9) hx hb hts (by decide +kernel) hown hK hP 0 rfl rfl 0 (by decide) (hts (.fieldLink RX3 11 "Rewriterope" "ropes" "[LRewriterope$Text;") (by decide +kernel)) (fun _ h9 => h9) rfl dX3_spot_9 ?_
  refine lv_iload_n hx hb dX3_spot_12 rfl (lv_at hl 1 rfl) ?_
  refine va_aldq (D := (dC, dI)) hx hb hK hP 1 0 rfl rfl (by unfold vp_in; decide) dX3_spot_13 ?_
  refine W.eq (g2 := F0 m 14 ls [.ref z4, .ref h2]) rfl ?_
  refine lv_iload_n hx hb dX3_spot_14 rfl (lv_at hl 2 rfl) ?_
  have hPc := hP.sub (ws' := [(h2, .inr (5, [.ref z8, .ref z9, .ref z10, .ref z11, .ref z12, .ref z13, .int 0, .int 0]))]) [2] rfl
  have hDc := hD.sub (ws' := [(h2, .inr (5, [.ref z8, .ref z9, .ref z10, .ref z11, .ref z12, .ref z13, .int 0, .int 0]))]) [2] (by decide) rfl
  have hKc := hK.sub (tys' := []) [] rfl
  have hFc := va_free (wc := [(h2, .inr (5, [.ref z8, .ref z9, .ref z10, .ref z11, .ref z12, .ref z13, .int 0, .int 0]))]) hD hS hA [2] rfl
  refine va_calli (va_runV (As := [.ref z4, .int i0]) (rest := []) ⟨hx, hb, hml, hown, hts⟩ (kx_X1_spotOfNumber_0 l dC dI h2 z4 z8 z9 z10 z11 z12 z13 H.size i0 i0_l i0_u) (cwV 2 hts gX3_spot_X1_spotOfNumber rfl rfl rfl (by decide +kernel) ⟨Nat.le_of_ble_eq_true rfl, Nat.le_of_ble_eq_true rfl⟩) ⟨fun a U g mk q => by obtain ⟨q0, q1, qP, qK, qD⟩ := q; exact ⟨q0, q1, qP, va_K.moved (u := U) (U := U.calling g mk a) (Vm.Alike.refl U.vm) qK, qD⟩, va_recv hKc hPc (ci := 5) (q0 := 0) rfl rfl, fun U hU hW => ⟨rfl, by rw [hU], by rw [hU]; exact hPc, va_K.moved hW.alike hKc, hDc.weaken (fun _ _ _ _ => trivial)⟩⟩ rfl rfl hl.1 rfl (lv_room (Nat.le_of_ble_eq_true rfl)) dX3_spot_15 ⟨Nat.le_of_ble_eq_true rfl, Nat.le_of_ble_eq_true rfl⟩) hS (fun q _ h => hFc q h) hFc (fun r9 u t H1 locs ht hvm hw hB hz1 hk1 hS => ?_)
  obtain rfl := hw
  obtain ⟨hP1, hK1, hD1⟩ := hB
  rw [ht] at hP1
  have hK1 := va_K.moved hvm.symm hK1
  obtain ⟨hP, hD⟩ := va_join (wr := [(h0, .inr (7, [.ref h1, .ref h2, .ref z0, .ref z1, .ref z2, .ref z3, .int 0, .int 0, .int 0])), (h1, .inl (k0, 4, .inr (.inr (.inr (.inr (va_up (va_up (va_up (va_up (fun _ => none) 0 (some z4)) 1 (some z5)) 2 (some z6)) 3 (some z7)))))))]) (w1 := [(h2, .inr (5, [.ref z8, .ref z9, .ref z10, .ref z11, .ref z12, .ref z13, .int 0, .int 0]))]) hP hD [2] [0, 1] rfl rfl (by decide) (by decide) hk1 hFc hP1 hD1
  generalize H1 = H at hP hS ⊢
  have hP : va_P (dC, dI) vwCl [(h0, .inr (7, [.ref h1, .ref h2, .ref z0, .ref z1, .ref z2, .ref z3, .int 0, .int 0, .int 0])), (h1, .inl (k0, 4, .inr (.inr (.inr (.inr (va_up (va_up (va_up (va_up (fun _ => none) 0 (some z4)) 1 (some z5)) 2 (some z6)) 3 (some z7))))))), (h2, .inr (5, [.ref z8, .ref z9, .ref z10, .ref z11, .ref z12, .ref z13, .int 0, .int 0]))] H := hP
  have hD : va_D A [(h0, .inr (7, [.ref h1, .ref h2, .ref z0, .ref z1, .ref z2, .ref z3, .int 0, .int 0, .int 0])), (h1, .inl (k0, 4, .inr (.inr (.inr (.inr (va_up (va_up (va_up (va_up (fun _ => none) 0 (some z4)) 1 (some z5)) 2 (some z6)) 3 (some z7))))))), (h2, .inr (5, [.ref z8, .ref z9, .ref z10, .ref z11, .ref z12, .ref z13, .int 0, .int 0]))] := hD
  refine lv_istore_n (lv' := [(3, .int (-1)), (0, .ref h0), (1, .int 0), (2, .int i0)]) hx hb dX3_spot_18 rfl hl (by decide) rfl (fun ls hl => ?_)
  refine lv_iload_n hx hb dX3_spot_19 rfl (lv_at hl 0 rfl) ?_
  refine lv_iconst (v := (-1)) hx hb dX3_spot_20 (by decide) ?_
  refine lv_icmp_ne (tgt := 27) hx hb dX3_spot_21 (by decide) (fun c9 => absurd (by decide) c9) (fun _ => ?_)
  refine va_ldcS hx hb hown g_s3 dX3_spot_24 ?_
  exact W.aret (v := .ref ge5) hx hb hr (Or.inl ⟨_, rfl⟩) (Or.inr ⟨_, rfl⟩) (fun t ht hW => ⟨⟨(), ge5, rfl, trivial, rfl, by rw [ht]; exact hP, va_K.moved hW.alike hK, hD⟩, hS.F ht⟩) hS.2.2 dX3_spot_26
set_option maxHeartbeats 4000000 in
set_option maxRecDepth 100000 in
theorem kx_X3_spot_3 (l : Launch) (dC : Nat → ClassId) (dI : Nat → Nat → Nat) (ge5 gea gv5 gva gde gic gi0 : Nat) (h0 : Nat) (h1 : Nat) (h2 : Nat) (z0 : Nat) (z1 : Nat) (z2 : Nat) (z3 : Nat) (z4 : Nat) (z5 : Nat) (z6 : Nat) (z7 : Nat) (z8 : Nat) (z9 : Nat) (z10 : Nat) (z11 : Nat) (z12 : Nat) (z13 : Nat) (k0 : ClassId) (sz : Nat) (i0 : Int32) (i0_l : ((-2147483648) : Int) ≤ i0.toInt) (i0_u : i0.toInt ≤ ((-1) : Int)) : Met l yX3_spot wsX3_spot ({ frames := 1, cells := 0, slots := 0, locals := 24 }) (va_Pc [.ref h0, .int 1, .int i0] (fun U => U.heap.size = sz ∧ va_P (dC, dI) vwCl [(h0, .inr (7, [.ref h1, .ref h2, .ref z0, .ref z1, .ref z2, .ref z3, .int 0, .int 0, .int 0])), (h1, .inl (k0, 4, .inr (.inr (.inr (.inr (va_up (va_up (va_up (va_up (fun _ => none) 0 (some z4)) 1 (some z5)) 2 (some z6)) 3 (some z7))))))), (h2, .inr (5, [.ref z8, .ref z9, .ref z10, .ref z11, .ref z12, .ref z13, .int 0, .int 0]))] U.heap ∧ va_K (dC, dI) vwCl [(k0, .object "Rewriterope$Text")] U ∧ va_D (fun _ => True) [(h0, .inr (7, [.ref h1, .ref h2, .ref z0, .ref z1, .ref z2, .ref z3, .int 0, .int 0, .int 0])), (h1, .inl (k0, 4, .inr (.inr (.inr (.inr (va_up (va_up (va_up (va_up (fun _ => none) 0 (some z4)) 1 (some z5)) 2 (some z6)) 3 (some z7))))))), (h2, .inr (5, [.ref z8, .ref z9, .ref z10, .ref z11, .ref z12, .ref z13, .int 0, .int 0]))] ∧ gv ge5 gea gv5 gva gde gic gi0 (va_A [(h0, .inr (7, [.ref h1, .ref h2, .ref z0, .ref z1, .ref z2, .ref z3, .int 0, .int 0, .int 0])), (h1, .inl (k0, 4, .inr (.inr (.inr (.inr (va_up (va_up (va_up (va_up (fun _ => none) 0 (some z4)) 1 (some z5)) 2 (some z6)) 3 (some z7))))))), (h2, .inr (5, [.ref z8, .ref z9, .ref z10, .ref z11, .ref z12, .ref z13, .int 0, .int 0]))] sz) U U.heap)) (va_Qr (fun _ : Unit => True) (fun (_ : Unit) (ra : Nat) (t : State) => ra = ge5 ∧ va_P (dC, dI) vwCl [(h0, .inr (7, [.ref h1, .ref h2, .ref z0, .ref z1, .ref z2, .ref z3, .int 0, .int 0, .int 0])), (h1, .inl (k0, 4, .inr (.inr (.inr (.inr (va_up (va_up (va_up (va_up (fun _ => none) 0 (some z4)) 1 (some z5)) 2 (some z6)) 3 (some z7))))))), (h2, .inr (5, [.ref z8, .ref z9, .ref z10, .ref z11, .ref z12, .ref z13, .int 0, .int 0]))] t.heap ∧ va_K (dC, dI) vwCl [(k0, .object "Rewriterope$Text")] t ∧ va_D (va_A [(h0, .inr (7, [.ref h1, .ref h2, .ref z0, .ref z1, .ref z2, .ref z3, .int 0, .int 0, .int 0])), (h1, .inl (k0, 4, .inr (.inr (.inr (.inr (va_up (va_up (va_up (va_up (fun _ => none) 0 (some z4)) 1 (some z5)) 2 (some z6)) 3 (some z7))))))), (h2, .inr (5, [.ref z8, .ref z9, .ref z10, .ref z11, .ref z12, .ref z13, .int 0, .int 0]))] sz) [(h0, .inr (7, [.ref h1, .ref h2, .ref z0, .ref z1, .ref z2, .ref z3, .int 0, .int 0, .int 0])), (h1, .inl (k0, 4, .inr (.inr (.inr (.inr (va_up (va_up (va_up (va_up (fun _ => none) 0 (some z4)) 1 (some z5)) 2 (some z6)) 3 (some z7))))))), (h2, .inr (5, [.ref z8, .ref z9, .ref z10, .ref z11, .ref z12, .ref z13, .int 0, .int 0]))]) (va_A [(h0, .inr (7, [.ref h1, .ref h2, .ref z0, .ref z1, .ref z2, .ref z3, .int 0, .int 0, .int 0])), (h1, .inl (k0, 4, .inr (.inr (.inr (.inr (va_up (va_up (va_up (va_up (fun _ => none) 0 (some z4)) 1 (some z5)) 2 (some z6)) 3 (some z7))))))), (h2, .inr (5, [.ref z8, .ref z9, .ref z10, .ref z11, .ref z12, .ref z13, .int 0, .int 0]))] sz)) 0 0 (va_A [(h0, .inr (7, [.ref h1, .ref h2, .ref z0, .ref z1, .ref z2, .ref z3, .int 0, .int 0, .int 0])), (h1, .inl (k0, 4, .inr (.inr (.inr (.inr (va_up (va_up (va_up (va_up (fun _ => none) 0 (some z4)) 1 (some z5)) 2 (some z6)) 3 (some z7))))))), (h2, .inr (5, [.ref z8, .ref z9, .ref z10, .ref z11, .ref z12, .ref z13, .int 0, .int 0]))] sz) := by
  refine Met.ofW (cc := cX3_spot) (maxL := 5) (ret := (some (.object "java/lang/String"))) (by decide) rfl ?_
  intro p e s m args below meth c s₁ B hml hv
  obtain ⟨rfl, hsz, hP, hK, hD0, hG⟩ := hv
  have hx := B.exec
  have hb := B.bytes
  have hr := B.returns
  have hts := atoms_spec (ws := wsX3_spot) B.pre
  have hown : s.vm.findClass RX3 = some m.cls := findClass_of_methodNamed B.named
  have hlocks := B.notSynchronized
  subst hsz
  have hD := hD0.self (sz := s.heap.size)
  generalize hAe : va_A [(h0, .inr (7, [.ref h1, .ref h2, .ref z0, .ref z1, .ref z2, .ref z3, .int 0, .int 0, .int 0])), (h1, .inl (k0, 4, .inr (.inr (.inr (.inr (va_up (va_up (va_up (va_up (fun _ => none) 0 (some z4)) 1 (some z5)) 2 (some z6)) 3 (some z7))))))), (h2, .inr (5, [.ref z8, .ref z9, .ref z10, .ref z11, .ref z12, .ref z13, .int 0, .int 0]))] s.heap.size = A at hD hG ⊢
  obtain ⟨⟨g_AO_Text, g_AO_String, g_AO_Object, g_nm_RX1_20, g_nm_RX0_17, g_nm_RX3_31, g_nm_RX2_44, g_nm_RL_121, g_nf_RL_13, g_nf_RL_47, g_ca_IO, g_ca_IA, g_ca_IS, g_ca_IntObj, g_ca_StrObj, g_de_RT, g_de_EX, g_de_TH, g_nc_IA_IO, g_nc_IS_IO, g_nc_IS_IA⟩, ⟨g_s3, g_s5, g_sa, g_x278, g_x280, g_x282, g_x284, g_x286, g_x180, g_x238, g_x250⟩, ⟨g_o5, g_c5, g_v5, g_t5, g_oa, g_ca, g_va, g_ta, g_zc, g_zd, g_td, g_zf, g_zU, g_zN, g_zh, g_zk, g_tk, g_oi, g_vi⟩⟩ := id hG
  have hA : ∀ q : Nat, s.heap.size ≤ q → A q := fun q h => by rw [← hAe]; exact Or.inr h
  have hS : va_S A s.heap s.heap [] := va_S.rf
  have hP : va_P (dC, dI) vwCl [(h0, .inr (7, [.ref h1, .ref h2, .ref z0, .ref z1, .ref z2, .ref z3, .int 0, .int 0, .int 0])), (h1, .inl (k0, 4, .inr (.inr (.inr (.inr (va_up (va_up (va_up (va_up (fun _ => none) 0 (some z4)) 1 (some z5)) 2 (some z6)) 3 (some z7))))))), (h2, .inr (5, [.ref z8, .ref z9, .ref z10, .ref z11, .ref z12, .ref z13, .int 0, .int 0]))] s.heap := hP
  have hl := lv_entry ([.ref h0, .int 1, .int i0]) (n := 5) (Nat.le_of_ble_eq_true rfl)
  rw [lg_entry_eq]
  generalize (lg_sl ([.ref h0, .int 1, .int i0]) ++ List.replicate (5 - (lg_sl ([.ref h0, .int 1, .int i0])).length) Slot.unset).toArray = ls at hl ⊢
  have hl : lv_has ls 5 [(0, .ref h0), (1, .int 1), (2, .int i0)] := hl
  refine lv_iload_n hx hb dX3_spot_0 rfl (lv_at hl 1 rfl) ?_
  have hPc := hP.sub (ws' := []) [] rfl
  have hDc := hD.sub (ws' := []) [] (by decide) rfl
  have hKc := hK.sub (tys' := []) [] rfl
  have hFc := va_free (wc := []) hD hS hA [] rfl
  refine va_callv (va_runS (As := [.int 1]) (rest := []) ⟨hx, hb, hml, hown, hts⟩ (kx_X3_needRope_1 l dC dI s.heap.size) (cwS 1 hts gX3_spot_X3_needRope rfl rfl rfl (by decide +kernel) ⟨Nat.le_of_ble_eq_true rfl, Nat.le_of_ble_eq_true rfl⟩) ⟨fun a U g mk q => by obtain ⟨q0, q1, qP, qK, qD⟩ := q; exact ⟨q0, q1, qP, va_K.moved (u := U) (U := U.calling g mk a) (Vm.Alike.refl U.vm) qK, qD⟩, fun U hU hW => ⟨rfl, by rw [hU], by rw [hU]; exact hPc, va_K.moved hW.alike hKc, hDc.weaken (fun _ _ _ _ => trivial)⟩⟩ rfl rfl hl.1 rfl (lv_room (Nat.le_of_ble_eq_true rfl)) dX3_spot_1 ⟨Nat.le_of_ble_eq_true rfl, Nat.le_of_ble_eq_true rfl⟩) hS (fun q _ h => hFc q h) hFc (fun u t H1 locs ht hvm hw hB hz1 hk1 hS => ?_)
  obtain ⟨hP1, hK1, hD1⟩ := hB
  rw [ht] at hP1
  have hK1 := va_K.moved hvm.symm hK1
  obtain ⟨hP, hD⟩ := va_join (wr := [(h0, .inr (7, [.ref h1, .ref h2, .ref z0, .ref z1, .ref z2, .ref z3, .int 0, .int 0, .int 0])), (h1, .inl (k0, 4, .inr (.inr (.inr (.inr (va_up (va_up (va_up (va_up (fun _ => none) 0 (some z4)) 1 (some z5)) 2 (some z6)) 3 (some z7))))))), (h2, .inr (5, [.ref z8, .ref z9, .ref z10, .ref z11, .ref z12, .ref z13, .int 0, .int 0]))]) (w1 := []) hP hD [] [0, 1, 2] rfl rfl (by decide) (by decide) hk1 hFc hP1 hD1
  generalize H1 = H at hP hS ⊢
  have hP : va_P (dC, dI) vwCl [(h0, .inr (7, [.ref h1, .ref h2, .ref z0, .ref z1, .ref z2, .ref z3, .int 0, .int 0, .int 0])), (h1, .inl (k0, 4, .inr (.inr (.inr (.inr (va_up (va_up (va_up (va_up (fun _ => none) 0 (some z4)) 1 (some z5)) 2 (some z6)) 3 (some z7))))))), (h2, .inr (5, [.ref z8, .ref z9, .ref z10, .ref z11, .ref z12, .ref z13, .int 0, .int 0]))] H := hP
  have hD : va_D A [(h0, .inr (7, [.ref h1, .ref h2, .ref z0, .ref z1, .ref z2, .ref z3, .int 0, .int 0, .int 0])), (h1, .inl (k0, 4, .inr (.inr (.inr (.inr (va_up (va_up (va_up (va_up (fun _ => none) 0 (some z4)) 1 (some z5)) 2 (some z6)) 3 (some z7))))))), (h2, .inr (5, [.ref z8, .ref z9, .ref z10, .ref z11, .ref z12, .ref z13, .int 0, .int 0]))] := hD
  refine lv_aload_n hx hb dX3_spot_4 rfl (lv_at hl 0 rfl) ?_
  refine va_get (D := (dC, dI)) (ci := 7) (v := .ref h2) (C := RX3) (T := TX3) (N := 9) hx hb hts (by decide +kernel) hown hK hP 0 rfl rfl 1 (by decide) (hts (.fieldLink RX3 18 "Rewriterope" "book" "LRewriterope$RuleBook;") (by decide +kernel)) (fun _ h9 => h9) rfl dX3_spot_5 ?_
  refine lv_aload_n hx hb dX3_spot_8 rfl (lv_at hl 0 rfl) ?_
  refine va_get (D := (dC, dI)) (ci := 7) (v := .ref h1) (C := RX3) (T := TX3) (N := 9) hx hb hts (by decide +kernel) hown hK hP 0 rfl rfl 0 (by decide) (hts (.fieldLink RX3 11 "Rewriterope" "ropes" "[LRewriterope$Text;") (by decide +kernel)) (fun _ h9 => h9) rfl dX3_spot_9 ?_
  refine lv_iload_n hx hb dX3_spot_12 rfl (lv_at hl 1 rfl) ?_
  refine va_aldq (D := (dC, dI)) hx hb hK hP 1 0 rfl rfl (by unfold vp_in; decide) dX3_spot_13 ?_
  refine W.eq (g2 := F0 m 14 ls [.ref z5, .ref h2]) rfl ?_
  refine lv_iload_n hx hb dX3_spot_14 rfl (lv_at hl 2 rfl) ?_
  have hPc := hP.sub (ws' := [(h2, .inr (5, [.ref z8, .ref z9, .ref z10, .ref z11, .ref z12, .ref z13, .int 0, .int 0]))]) [2] rfl
  have hDc := hD.sub (ws' := [(h2, .inr (5, [.ref z8, .ref z9, .ref z10, .ref z11, .ref z12, .ref z13, .int 0, .int 0]))]) [2] (by decide) rfl
  have hKc := hK.sub (tys' := []) [] rfl
  have hFc := va_free (wc := [(h2, .inr (5, [.ref z8, .ref z9, .ref z10, .ref z11, .ref z12, .ref z13, .int 0, .int 0]))]) hD hS hA [2] rfl
  refine va_calli (va_runV (As := [.ref z5, .int i0]) (rest := []) ⟨hx, hb, hml, hown, hts⟩ (kx_X1_spotOfNumber_0 l dC dI h2 z5 z8 z9 z10 z11 z12 z13 H.size i0 i0_l i0_u) (cwV 2 hts gX3_spot_X1_spotOfNumber rfl rfl rfl (by decide +kernel) ⟨Nat.le_of_ble_eq_true rfl, Nat.le_of_ble_eq_true rfl⟩) ⟨fun a U g mk q => by obtain ⟨q0, q1, qP, qK, qD⟩ := q; exact ⟨q0, q1, qP, va_K.moved (u := U) (U := U.calling g mk a) (Vm.Alike.refl U.vm) qK, qD⟩, va_recv hKc hPc (ci := 5) (q0 := 0) rfl rfl, fun U hU hW => ⟨rfl, by rw [hU], by rw [hU]; exact hPc, va_K.moved hW.alike hKc, hDc.weaken (fun _ _ _ _ => trivial)⟩⟩ rfl rfl hl.1 rfl (lv_room (Nat.le_of_ble_eq_true rfl)) dX3_spot_15 ⟨Nat.le_of_ble_eq_true rfl, Nat.le_of_ble_eq_true rfl⟩) hS (fun q _ h => hFc q h) hFc (fun r9 u t H1 locs ht hvm hw hB hz1 hk1 hS => ?_)
  obtain rfl := hw
  obtain ⟨hP1, hK1, hD1⟩ := hB
  rw [ht] at hP1
  have hK1 := va_K.moved hvm.symm hK1
  obtain ⟨hP, hD⟩ := va_join (wr := [(h0, .inr (7, [.ref h1, .ref h2, .ref z0, .ref z1, .ref z2, .ref z3, .int 0, .int 0, .int 0])), (h1, .inl (k0, 4, .inr (.inr (.inr (.inr (va_up (va_up (va_up (va_up (fun _ => none) 0 (some z4)) 1 (some z5)) 2 (some z6)) 3 (some z7)))))))]) (w1 := [(h2, .inr (5, [.ref z8, .ref z9, .ref z10, .ref z11, .ref z12, .ref z13, .int 0, .int 0]))]) hP hD [2] [0, 1] rfl rfl (by decide) (by decide) hk1 hFc hP1 hD1
  generalize H1 = H at hP hS ⊢
  have hP : va_P (dC, dI) vwCl [(h0, .inr (7, [.ref h1, .ref h2, .ref z0, .ref z1, .ref z2, .ref z3, .int 0, .int 0, .int 0])), (h1, .inl (k0, 4, .inr (.inr (.inr (.inr (va_up (va_up (va_up (va_up (fun _ => none) 0 (some z4)) 1 (some z5)) 2 (some z6)) 3 (some z7))))))), (h2, .inr (5, [.ref z8, .ref z9, .ref z10, .ref z11, .ref z12, .ref z13, .int 0, .int 0]))] H := hP
  have hD : va_D A [(h0, .inr (7, [.ref h1, .ref h2, .ref z0, .ref z1, .ref z2, .ref z3, .int 0, .int 0, .int 0])), (h1, .inl (k0, 4, .inr (.inr (.inr (.inr (va_up (va_up (va_up (va_up (fun _ => none) 0 (some z4)) 1 (some z5)) 2 (some z6)) 3 (some z7))))))), (h2, .inr (5, [.ref z8, .ref z9, .ref z10, .ref z11, .ref z12, .ref z13, .int 0, .int 0]))] := hD
  refine lv_istore_n (lv' := [(3, .int (-1)), (0, .ref h0), (1, .int 1), (2, .int i0)]) hx hb dX3_spot_18 rfl hl (by decide) rfl (fun ls hl => ?_)
  refine lv_iload_n hx hb dX3_spot_19 rfl (lv_at hl 0 rfl) ?_
  refine lv_iconst (v := (-1)) hx hb dX3_spot_20 (by decide) ?_
  refine lv_icmp_ne (tgt := 27) hx hb dX3_spot_21 (by decide) (fun c9 => absurd (by decide) c9) (fun _ => ?_)
  refine va_ldcS hx hb hown g_s3 dX3_spot_24 ?_
  exact W.aret (v := .ref ge5) hx hb hr (Or.inl ⟨_, rfl⟩) (Or.inr ⟨_, rfl⟩) (fun t ht hW => ⟨⟨(), ge5, rfl, trivial, rfl, by rw [ht]; exact hP, va_K.moved hW.alike hK, hD⟩, hS.F ht⟩) hS.2.2 dX3_spot_26
