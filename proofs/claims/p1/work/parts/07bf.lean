set_option maxHeartbeats 4000000 in
set_option maxRecDepth 100000 in
theorem kx_X5_houseNow_5 (l : Launch) (dC : Nat → ClassId) (dI : Nat → Nat → Nat) (ge5 gea gv5 gva gde gic gi0 : Nat) (h0 : Nat) (h1 : Nat) (z0 : Nat) (z1 : Nat) (k0 : ClassId) (sz : Nat) : Met l yX5_houseNow wsX5_houseNow ({ frames := 2, cells := 1, slots := 4, locals := 40 }) (va_Pc [.ref h0, .int 1] (fun U => U.heap.size = sz ∧ va_P (dC, dI) vwCl [(h0, .inr (9, [.int 0, .ref h1, .ref z0, .ref z1, .int 0, .int 0, .int 0])), (h1, .inl (k0, 4, .inr (.inr (.inr (.inr (va_up (va_up (va_up (va_up (fun _ => none) 0 (some ge5)) 1 (some ge5)) 2 (some ge5)) 3 (some ge5)))))))] U.heap ∧ va_K (dC, dI) vwCl [(k0, .object "java/lang/String")] U ∧ va_D (fun _ => True) [(h0, .inr (9, [.int 0, .ref h1, .ref z0, .ref z1, .int 0, .int 0, .int 0])), (h1, .inl (k0, 4, .inr (.inr (.inr (.inr (va_up (va_up (va_up (va_up (fun _ => none) 0 (some ge5)) 1 (some ge5)) 2 (some ge5)) 3 (some ge5)))))))] ∧ gv ge5 gea gv5 gva gde gic gi0 (va_A [(h0, .inr (9, [.int 0, .ref h1, .ref z0, .ref z1, .int 0, .int 0, .int 0])), (h1, .inl (k0, 4, .inr (.inr (.inr (.inr (va_up (va_up (va_up (va_up (fun _ => none) 0 (some ge5)) 1 (some ge5)) 2 (some ge5)) 3 (some ge5)))))))] sz) U U.heap)) (va_Qi (fun (r : Int32) (_ : Unit) => r = 0) (fun (_ : Unit) (t : State) => ∃ q5 : Nat, ∃ cq5 : ClassId, va_P (dC, dI) vwCl [(h0, .inr (9, [.int 0, .ref h1, .ref z0, .ref z1, .int 0, .int 0, .int 0])), (h1, .inl (k0, 4, .inr (.inr (.inr (.inr (va_up (va_up (va_up (va_up (fun _ => none) 0 (some ge5)) 1 (some ge5)) 2 (some ge5)) 3 (some ge5))))))), (q5, .inl (cq5, 4, .inl (upd (upd (upd (upd (fun _ => 0) 0 0) 1 0) 2 0) 3 0)))] t.heap ∧ va_K (dC, dI) vwCl [(k0, .object "java/lang/String"), (cq5, .int)] t ∧ va_D (va_A [(h0, .inr (9, [.int 0, .ref h1, .ref z0, .ref z1, .int 0, .int 0, .int 0])), (h1, .inl (k0, 4, .inr (.inr (.inr (.inr (va_up (va_up (va_up (va_up (fun _ => none) 0 (some ge5)) 1 (some ge5)) 2 (some ge5)) 3 (some ge5)))))))] sz) [(h0, .inr (9, [.int 0, .ref h1, .ref z0, .ref z1, .int 0, .int 0, .int 0])), (h1, .inl (k0, 4, .inr (.inr (.inr (.inr (va_up (va_up (va_up (va_up (fun _ => none) 0 (some ge5)) 1 (some ge5)) 2 (some ge5)) 3 (some ge5))))))), (q5, .inl (cq5, 4, .inl (upd (upd (upd (upd (fun _ => 0) 0 0) 1 0) 2 0) 3 0)))]) (va_A [(h0, .inr (9, [.int 0, .ref h1, .ref z0, .ref z1, .int 0, .int 0, .int 0])), (h1, .inl (k0, 4, .inr (.inr (.inr (.inr (va_up (va_up (va_up (va_up (fun _ => none) 0 (some ge5)) 1 (some ge5)) 2 (some ge5)) 3 (some ge5)))))))] sz)) 1 4 (va_A [(h0, .inr (9, [.int 0, .ref h1, .ref z0, .ref z1, .int 0, .int 0, .int 0])), (h1, .inl (k0, 4, .inr (.inr (.inr (.inr (va_up (va_up (va_up (va_up (fun _ => none) 0 (some ge5)) 1 (some ge5)) 2 (some ge5)) 3 (some ge5)))))))] sz) := by
  refine Met.ofW (cc := cX5_houseNow) (maxL := 7) (ret := (some .int)) (by decide) rfl ?_
  intro p e s m args below meth c s₁ B hml hv
  obtain ⟨rfl, hsz, hP, hK, hD0, hG⟩ := hv
  have hx := B.exec
  have hb := B.bytes
  have hr := B.returns
  have hts := atoms_spec (ws := wsX5_houseNow) B.pre
  have hown : s.vm.findClass RX5 = some m.cls := findClass_of_methodNamed B.named
  have hlocks := B.notSynchronized
  subst hsz
  have hD := hD0.self (sz := s.heap.size)
  generalize hAe : va_A [(h0, .inr (9, [.int 0, .ref h1, .ref z0, .ref z1, .int 0, .int 0, .int 0])), (h1, .inl (k0, 4, .inr (.inr (.inr (.inr (va_up (va_up (va_up (va_up (fun _ => none) 0 (some ge5)) 1 (some ge5)) 2 (some ge5)) 3 (some ge5)))))))] s.heap.size = A at hD hG ⊢
  obtain ⟨⟨g_AO_Text, g_AO_String, g_AO_Object, g_nm_RX1_20, g_nm_RX0_17, g_nm_RX3_31, g_nm_RX2_44, g_nm_RL_121, g_nf_RL_13, g_nf_RL_47, g_ca_IO, g_ca_IA, g_ca_IS, g_ca_IntObj, g_ca_StrObj, g_de_RT, g_de_EX, g_de_TH, g_nc_IA_IO, g_nc_IS_IO, g_nc_IS_IA⟩, ⟨g_s3, g_s5, g_sa, g_x278, g_x280, g_x282, g_x284, g_x286, g_x180, g_x238, g_x250⟩, ⟨g_o5, g_c5, g_v5, g_t5, g_oa, g_ca, g_va, g_ta, g_zc, g_zd, g_td, g_zf, g_zU, g_zN, g_zh, g_zk, g_tk, g_oi, g_vi⟩⟩ := id hG
  have hA : ∀ q : Nat, s.heap.size ≤ q → A q := fun q h => by rw [← hAe]; exact Or.inr h
  have hS : va_S A s.heap s.heap [] := va_S.rf
  have hP : va_P (dC, dI) vwCl [(h0, .inr (9, [.int 0, .ref h1, .ref z0, .ref z1, .int 0, .int 0, .int 0])), (h1, .inl (k0, 4, .inr (.inr (.inr (.inr (va_up (va_up (va_up (va_up (fun _ => none) 0 (some ge5)) 1 (some ge5)) 2 (some ge5)) 3 (some ge5)))))))] s.heap := hP
  have hl := lv_entry ([.ref h0, .int 1]) (n := 7) (Nat.le_of_ble_eq_true rfl)
  rw [lg_entry_eq]
  generalize (lg_sl ([.ref h0, .int 1]) ++ List.replicate (7 - (lg_sl ([.ref h0, .int 1])).length) Slot.unset).toArray = ls at hl ⊢
  have hl : lv_has ls 7 [(0, .ref h0), (1, .int 1)] := hl
  refine lv_iconst (v := 0) hx hb dX5_houseNow_0 (by decide) ?_
  refine lv_istore_n (lv' := [(2, .int 0), (0, .ref h0), (1, .int 1)]) hx hb dX5_houseNow_1 rfl hl (by decide) rfl (fun ls hl => ?_)
  refine lv_aload_n hx hb dX5_houseNow_2 rfl (lv_at hl 1 rfl) ?_
  refine va_get (D := (dC, dI)) (ci := 9) (v := .ref h1) (C := RX5) (T := TX5) (N := 7) hx hb hts (by decide +kernel) hown hK hP 0 rfl rfl 1 (by decide) (hts (.fieldLink RX5 11 "RewriteropeModel" "ropes" "[Ljava/lang/String;") (by decide +kernel)) (fun _ h9 => h9) rfl dX5_houseNow_3 ?_
  refine lv_astore_n (lv' := [(3, .ref h1), (2, .int 0), (0, .ref h0), (1, .int 1)]) hx hb dX5_houseNow_6 rfl hl (by decide) rfl (fun ls hl => ?_)
  refine lv_aload_n hx hb dX5_houseNow_7 rfl (lv_at hl 0 rfl) ?_
  refine va_alen (D := (dC, dI)) (v := 4) hx hb hK hP 1 0 rfl rfl (show Int32.ofNat 4 = 4 from by decide) dX5_houseNow_8 ?_
  refine lv_istore (lv' := [(4, .int 4), (3, .ref h1), (2, .int 0), (0, .ref h0), (1, .int 1)]) hx hb dX5_houseNow_9 hl (by decide) rfl (fun ls hl => ?_)
  refine lv_iconst (v := 0) hx hb dX5_houseNow_11 (by decide) ?_
  refine lv_istore (lv' := [(5, .int 0), (4, .int 4), (3, .ref h1), (2, .int 0), (0, .ref h0), (1, .int 1)]) hx hb dX5_houseNow_12 hl (by decide) rfl (fun ls hl => ?_)
  refine lv_iload hx hb dX5_houseNow_14 (lv_at hl 0 rfl) ?_
  refine lv_iload hx hb dX5_houseNow_16 (lv_at hl 1 rfl) ?_
  refine lv_icmp_ge (tgt := 41) hx hb dX5_houseNow_18 (by decide) (fun c9 => absurd c9 (by decide)) (fun _ => ?_)
  refine lv_aload_n hx hb dX5_houseNow_21 rfl (lv_at hl 2 rfl) ?_
  refine lv_iload hx hb dX5_houseNow_22 (lv_at hl 0 rfl) ?_
  refine va_aldq (D := (dC, dI)) hx hb hK hP 1 0 rfl rfl (by unfold vp_in; decide) dX5_houseNow_24 ?_
  refine W.eq (g2 := F0 m 25 ls [.ref ge5]) rfl ?_
  refine lv_astore (lv' := [(6, .ref ge5), (5, .int 0), (4, .int 4), (3, .ref h1), (2, .int 0), (0, .ref h0), (1, .int 1)]) hx hb dX5_houseNow_25 hl (by decide) rfl (fun ls hl => ?_)
  refine lv_iload_n hx hb dX5_houseNow_27 rfl (lv_at hl 4 rfl) ?_
  refine lv_aload hx hb dX5_houseNow_28 (lv_at hl 0 rfl) ?_
  have hPc := hP.sub (ws' := []) [] rfl
  have hDc := hD.sub (ws' := []) [] (by decide) rfl
  have hKc := hK.sub (tys' := []) [] rfl
  have hFc := va_free (wc := []) hD hS hA [] rfl
  refine va_calli (va_runV (As := []) (rest := [.int 0]) ⟨hx, hb, hml, hown, hts⟩ (kx_J0_length_8abf5_0 l dC dI ge5 gea gv5 gva gde gic gi0 s.heap.size) (cwV 0 hts gX5_houseNow_J0_length_8abf5 rfl rfl rfl (by decide +kernel) ⟨Nat.le_of_ble_eq_true rfl, Nat.le_of_ble_eq_true rfl⟩) ⟨fun a U g mk q => by obtain ⟨q0, q1, qP, qK, qD, qG⟩ := q; exact ⟨q0, q1, qP, va_K.moved (u := U) (U := U.calling g mk a) (Vm.Alike.refl U.vm) qK, qD, gv.fb qG⟩, (by obtain ⟨cell, k1, k2, k3, -⟩ := g_o5.kept hS.2.1; exact ⟨cell, k1, k2, k3⟩), fun U hU hW => ⟨rfl, by rw [hU], by rw [hU]; exact hPc, va_K.moved hW.alike hKc, hDc.weaken (fun _ _ _ _ => trivial), gv.pass hW hU hS hFc hG⟩⟩ rfl rfl hl.1 rfl (lv_room (Nat.le_of_ble_eq_true rfl)) dX5_houseNow_30 ⟨Nat.le_of_ble_eq_true rfl, Nat.le_of_ble_eq_true rfl⟩) hS (fun q _ h => hFc q h) hFc (fun r9 u t H1 locs ht hvm hw hB hz1 hk1 hS => ?_)
  obtain rfl := hw
  obtain ⟨hP1, hK1, hD1⟩ := hB
  rw [ht] at hP1
  have hK1 := va_K.moved hvm.symm hK1
  obtain ⟨hP, hD⟩ := va_join (wr := [(h0, .inr (9, [.int 0, .ref h1, .ref z0, .ref z1, .int 0, .int 0, .int 0])), (h1, .inl (k0, 4, .inr (.inr (.inr (.inr (va_up (va_up (va_up (va_up (fun _ => none) 0 (some ge5)) 1 (some ge5)) 2 (some ge5)) 3 (some ge5)))))))]) (w1 := []) hP hD [] [0, 1] rfl rfl (by decide) (by decide) hk1 hFc hP1 hD1
  generalize H1 = H at hP hS ⊢
  have hP : va_P (dC, dI) vwCl [(h0, .inr (9, [.int 0, .ref h1, .ref z0, .ref z1, .int 0, .int 0, .int 0])), (h1, .inl (k0, 4, .inr (.inr (.inr (.inr (va_up (va_up (va_up (va_up (fun _ => none) 0 (some ge5)) 1 (some ge5)) 2 (some ge5)) 3 (some ge5)))))))] H := hP
  have hD : va_D A [(h0, .inr (9, [.int 0, .ref h1, .ref z0, .ref z1, .int 0, .int 0, .int 0])), (h1, .inl (k0, 4, .inr (.inr (.inr (.inr (va_up (va_up (va_up (va_up (fun _ => none) 0 (some ge5)) 1 (some ge5)) 2 (some ge5)) 3 (some ge5)))))))] := hD
  refine lv_iadd hx hb dX5_houseNow_33 ?_
  refine lv_topi (fun y1 ey1 => ?_)
  obtain rfl : y1 = 0 := ey1.trans (by decide)
  refine lv_istore_n (lv' := [(2, .int 0), (6, .ref ge5), (5, .int 0), (4, .int 4), (3, .ref h1), (0, .ref h0), (1, .int 1)]) hx hb dX5_houseNow_34 rfl hl (by decide) rfl (fun ls hl => ?_)
  refine lv_iinc (v := 1) (lv' := [(5, .int 1), (2, .int 0), (6, .ref ge5), (4, .int 4), (3, .ref h1), (0, .ref h0), (1, .int 1)]) hx hb dX5_houseNow_35 hl (k := 2) rfl (by decide) (by decide) rfl (fun ls hl => ?_)
  refine lv_goto (tgt := 14) hx hb dX5_houseNow_38 (by decide) ?_
  refine lv_iload hx hb dX5_houseNow_14 (lv_at hl 0 rfl) ?_
  refine lv_iload hx hb dX5_houseNow_16 (lv_at hl 3 rfl) ?_
  refine lv_icmp_ge (tgt := 41) hx hb dX5_houseNow_18 (by decide) (fun c9 => absurd c9 (by decide)) (fun _ => ?_)
  refine lv_aload_n hx hb dX5_houseNow_21 rfl (lv_at hl 4 rfl) ?_
  refine lv_iload hx hb dX5_houseNow_22 (lv_at hl 0 rfl) ?_
  refine va_aldq (D := (dC, dI)) hx hb hK hP 1 0 rfl rfl (by unfold vp_in; decide) dX5_houseNow_24 ?_
  refine W.eq (g2 := F0 m 25 ls [.ref ge5]) rfl ?_
  refine lv_astore (lv' := [(6, .ref ge5), (5, .int 1), (2, .int 0), (4, .int 4), (3, .ref h1), (0, .ref h0), (1, .int 1)]) hx hb dX5_houseNow_25 hl (by decide) rfl (fun ls hl => ?_)
  refine lv_iload_n hx hb dX5_houseNow_27 rfl (lv_at hl 2 rfl) ?_
  refine lv_aload hx hb dX5_houseNow_28 (lv_at hl 0 rfl) ?_
  have hPc := hP.sub (ws' := []) [] rfl
  have hDc := hD.sub (ws' := []) [] (by decide) rfl
  have hKc := hK.sub (tys' := []) [] rfl
  have hFc := va_free (wc := []) hD hS hA [] rfl
  refine va_calli (va_runV (As := []) (rest := [.int 0]) ⟨hx, hb, hml, hown, hts⟩ (kx_J0_length_8abf5_0 l dC dI ge5 gea gv5 gva gde gic gi0 H.size) (cwV 0 hts gX5_houseNow_J0_length_8abf5 rfl rfl rfl (by decide +kernel) ⟨Nat.le_of_ble_eq_true rfl, Nat.le_of_ble_eq_true rfl⟩) ⟨fun a U g mk q => by obtain ⟨q0, q1, qP, qK, qD, qG⟩ := q; exact ⟨q0, q1, qP, va_K.moved (u := U) (U := U.calling g mk a) (Vm.Alike.refl U.vm) qK, qD, gv.fb qG⟩, (by obtain ⟨cell, k1, k2, k3, -⟩ := g_o5.kept hS.2.1; exact ⟨cell, k1, k2, k3⟩), fun U hU hW => ⟨rfl, by rw [hU], by rw [hU]; exact hPc, va_K.moved hW.alike hKc, hDc.weaken (fun _ _ _ _ => trivial), gv.pass hW hU hS hFc hG⟩⟩ rfl rfl hl.1 rfl (lv_room (Nat.le_of_ble_eq_true rfl)) dX5_houseNow_30 ⟨Nat.le_of_ble_eq_true rfl, Nat.le_of_ble_eq_true rfl⟩) hS (fun q _ h => hFc q h) hFc (fun r9 u t H1 locs ht hvm hw hB hz1 hk1 hS => ?_)
  obtain rfl := hw
  obtain ⟨hP1, hK1, hD1⟩ := hB
  rw [ht] at hP1
  have hK1 := va_K.moved hvm.symm hK1
  obtain ⟨hP, hD⟩ := va_join (wr := [(h0, .inr (9, [.int 0, .ref h1, .ref z0, .ref z1, .int 0, .int 0, .int 0])), (h1, .inl (k0, 4, .inr (.inr (.inr (.inr (va_up (va_up (va_up (va_up (fun _ => none) 0 (some ge5)) 1 (some ge5)) 2 (some ge5)) 3 (some ge5)))))))]) (w1 := []) hP hD [] [0, 1] rfl rfl (by decide) (by decide) hk1 hFc hP1 hD1
  generalize H1 = H at hP hS ⊢
  have hP : va_P (dC, dI) vwCl [(h0, .inr (9, [.int 0, .ref h1, .ref z0, .ref z1, .int 0, .int 0, .int 0])), (h1, .inl (k0, 4, .inr (.inr (.inr (.inr (va_up (va_up (va_up (va_up (fun _ => none) 0 (some ge5)) 1 (some ge5)) 2 (some ge5)) 3 (some ge5)))))))] H := hP
  have hD : va_D A [(h0, .inr (9, [.int 0, .ref h1, .ref z0, .ref z1, .int 0, .int 0, .int 0])), (h1, .inl (k0, 4, .inr (.inr (.inr (.inr (va_up (va_up (va_up (va_up (fun _ => none) 0 (some ge5)) 1 (some ge5)) 2 (some ge5)) 3 (some ge5)))))))] := hD
  refine lv_iadd hx hb dX5_houseNow_33 ?_
  refine lv_topi (fun y2 ey2 => ?_)
  obtain rfl : y2 = 0 := ey2.trans (by decide)
  refine lv_istore_n (lv' := [(2, .int 0), (6, .ref ge5), (5, .int 1), (4, .int 4), (3, .ref h1), (0, .ref h0), (1, .int 1)]) hx hb dX5_houseNow_34 rfl hl (by decide) rfl (fun ls hl => ?_)
  refine lv_iinc (v := 2) (lv' := [(5, .int 2), (2, .int 0), (6, .ref ge5), (4, .int 4), (3, .ref h1), (0, .ref h0), (1, .int 1)]) hx hb dX5_houseNow_35 hl (k := 2) rfl (by decide) (by decide) rfl (fun ls hl => ?_)
  refine lv_goto (tgt := 14) hx hb dX5_houseNow_38 (by decide) ?_
  refine lv_iload hx hb dX5_houseNow_14 (lv_at hl 0 rfl) ?_
  refine lv_iload hx hb dX5_houseNow_16 (lv_at hl 3 rfl) ?_
  refine lv_icmp_ge (tgt := 41) hx hb dX5_houseNow_18 (by decide) (fun c9 => absurd c9 (by decide)) (fun _ => ?_)
  refine lv_aload_n hx hb dX5_houseNow_21 rfl (lv_at hl 4 rfl) ?_
  refine lv_iload hx hb dX5_houseNow_22 (lv_at hl 0 rfl) ?_
  refine va_aldq (D := (dC, dI)) hx hb hK hP 1 0 rfl rfl (by unfold vp_in; decide) dX5_houseNow_24 ?_
  refine W.eq (g2 := F0 m 25 ls [.ref ge5]) rfl ?_
  refine lv_astore (lv' := [(6, .ref ge5), (5, .int 2), (2, .int 0), (4, .int 4), (3, .ref h1), (0, .ref h0), (1, .int 1)]) hx hb dX5_houseNow_25 hl (by decide) rfl (fun ls hl => ?_)
  refine lv_iload_n hx hb dX5_houseNow_27 rfl (lv_at hl 2 rfl) ?_
  refine lv_aload hx hb dX5_houseNow_28 (lv_at hl 0 rfl) ?_
  have hPc := hP.sub (ws' := []) [] rfl
  have hDc := hD.sub (ws' := []) [] (by decide) rfl
  have hKc := hK.sub (tys' := []) [] rfl
  have hFc := va_free (wc := []) hD hS hA [] rfl
  refine va_calli (va_runV (As := []) (rest := [.int 0]) ⟨hx, hb, hml, hown, hts⟩ (kx_J0_length_8abf5_0 l dC dI ge5 gea gv5 gva gde gic gi0 H.size) (cwV 0 hts gX5_houseNow_J0_length_8abf5 rfl rfl rfl (by decide +kernel) ⟨Nat.le_of_ble_eq_true rfl, Nat.le_of_ble_eq_true rfl⟩) ⟨fun a U g mk q => by obtain ⟨q0, q1, qP, qK, qD, qG⟩ := q; exact ⟨q0, q1, qP, va_K.moved (u := U) (U := U.calling g mk a) (Vm.Alike.refl U.vm) qK, qD, gv.fb qG⟩, (by obtain ⟨cell, k1, k2, k3, -⟩ := g_o5.kept hS.2.1; exact ⟨cell, k1, k2, k3⟩), fun U hU hW => ⟨rfl, by rw [hU], by rw [hU]; exact hPc, va_K.moved hW.alike hKc, hDc.weaken (fun _ _ _ _ => trivial), gv.pass hW hU hS hFc hG⟩⟩ rfl rfl hl.1 rfl (lv_room (Nat.le_of_ble_eq_true rfl)) dX5_houseNow_30 ⟨Nat.le_of_ble_eq_true rfl, Nat.le_of_ble_eq_true rfl⟩) hS (fun q _ h => hFc q h) hFc (fun r9 u t H1 locs ht hvm hw hB hz1 hk1 hS => ?_)
  obtain rfl := hw
  obtain ⟨hP1, hK1, hD1⟩ := hB
  rw [ht] at hP1
  have hK1 := va_K.moved hvm.symm hK1
  obtain ⟨hP, hD⟩ := va_join (wr := [(h0, .inr (9, [.int 0, .ref h1, .ref z0, .ref z1, .int 0, .int 0, .int 0])), (h1, .inl (k0, 4, .inr (.inr (.inr (.inr (va_up (va_up (va_up (va_up (fun _ => none) 0 (some ge5)) 1 (some ge5)) 2 (some ge5)) 3 (some ge5)))))))]) (w1 := []) hP hD [] [0, 1] rfl rfl (by decide) (by decide) hk1 hFc hP1 hD1
  generalize H1 = H at hP hS ⊢
  have hP : va_P (dC, dI) vwCl [(h0, .inr (9, [.int 0, .ref h1, .ref z0, .ref z1, .int 0, .int 0, .int 0])), (h1, .inl (k0, 4, .inr (.inr (.inr (.inr (va_up (va_up (va_up (va_up (fun _ => none) 0 (some ge5)) 1 (some ge5)) 2 (some ge5)) 3 (some ge5)))))))] H := hP
  have hD : va_D A [(h0, .inr (9, [.int 0, .ref h1, .ref z0, .ref z1, .int 0, .int 0, .int 0])), (h1, .inl (k0, 4, .inr (.inr (.inr (.inr (va_up (va_up (va_up (va_up (fun _ => none) 0 (some ge5)) 1 (some ge5)) 2 (some ge5)) 3 (some ge5)))))))] := hD
  refine lv_iadd hx hb dX5_houseNow_33 ?_
  refine lv_topi (fun y3 ey3 => ?_)
  obtain rfl : y3 = 0 := ey3.trans (by decide)
  refine lv_istore_n (lv' := [(2, .int 0), (6, .ref ge5), (5, .int 2), (4, .int 4), (3, .ref h1), (0, .ref h0), (1, .int 1)]) hx hb dX5_houseNow_34 rfl hl (by decide) rfl (fun ls hl => ?_)
  refine lv_iinc (v := 3) (lv' := [(5, .int 3), (2, .int 0), (6, .ref ge5), (4, .int 4), (3, .ref h1), (0, .ref h0), (1, .int 1)]) hx hb dX5_houseNow_35 hl (k := 2) rfl (by decide) (by decide) rfl (fun ls hl => ?_)
  refine lv_goto (tgt := 14) hx hb dX5_houseNow_38 (by decide) ?_
  refine lv_iload hx hb dX5_houseNow_14 (lv_at hl 0 rfl) ?_
  refine lv_iload hx hb dX5_houseNow_16 (lv_at hl 3 rfl) ?_
  refine lv_icmp_ge (tgt := 41) hx hb dX5_houseNow_18 (by decide) (fun c9 => absurd c9 (by decide)) (fun _ => ?_)
  refine lv_aload_n hx hb dX5_houseNow_21 rfl (lv_at hl 4 rfl) ?_
  refine lv_iload hx hb dX5_houseNow_22 (lv_at hl 0 rfl) ?_
  refine va_aldq (D := (dC, dI)) hx hb hK hP 1 0 rfl rfl (by unfold vp_in; decide) dX5_houseNow_24 ?_
  refine W.eq (g2 := F0 m 25 ls [.ref ge5]) rfl ?_
  refine lv_astore (lv' := [(6, .ref ge5), (5, .int 3), (2, .int 0), (4, .int 4), (3, .ref h1), (0, .ref h0), (1, .int 1)]) hx hb dX5_houseNow_25 hl (by decide) rfl (fun ls hl => ?_)
  refine lv_iload_n hx hb dX5_houseNow_27 rfl (lv_at hl 2 rfl) ?_
  refine lv_aload hx hb dX5_houseNow_28 (lv_at hl 0 rfl) ?_
  have hPc := hP.sub (ws' := []) [] rfl
  have hDc := hD.sub (ws' := []) [] (by decide) rfl
  have hKc := hK.sub (tys' := []) [] rfl
  have hFc := va_free (wc := []) hD hS hA [] rfl
  refine va_calli (va_runV (As := []) (rest := [.int 0]) ⟨hx, hb, hml, hown, hts⟩ (kx_J0_length_8abf5_0 l dC dI ge5 gea gv5 gva gde gic gi0 H.size) (cwV 0 hts gX5_houseNow_J0_length_8abf5 rfl rfl rfl (by decide +kernel) ⟨Nat.le_of_ble_eq_true rfl, Nat.le_of_ble_eq_true rfl⟩) ⟨fun a U g mk q => by obtain ⟨q0, q1, qP, qK, qD, qG⟩ := q; exact ⟨q0, q1, qP, va_K.moved (u := U) (U := U.calling g mk a) (Vm.Alike.refl U.vm) qK, qD, gv.fb qG⟩, (by obtain ⟨cell, k1, k2, k3, -⟩ := g_o5.kept hS.2.1; exact ⟨cell, k1, k2, k3⟩), fun U hU hW => ⟨rfl, by rw [hU], by rw [hU]; exact hPc, va_K.moved hW.alike hKc, hDc.weaken (fun _ _ _ _ => trivial), gv.pass hW hU hS hFc hG⟩⟩ rfl rfl hl.1 rfl (lv_room (Nat.le_of_ble_eq_true rfl)) dX5_houseNow_30 ⟨Nat.le_of_ble_eq_true rfl, Nat.le_of_ble_eq_true rfl⟩) hS (fun q _ h => hFc q h) hFc (fun r9 u t H1 locs ht hvm hw hB hz1 hk1 hS => ?_)
  obtain rfl := hw
  obtain ⟨hP1, hK1, hD1⟩ := hB
  rw [ht] at hP1
  have hK1 := va_K.moved hvm.symm hK1
  obtain ⟨hP, hD⟩ := va_join (wr := [(h0, .inr (9, [.int 0, .ref h1, .ref z0, .ref z1, .int 0, .int 0, .int 0])), (h1, .inl (k0, 4, .inr (.inr (.inr (.inr (va_up (va_up (va_up (va_up (fun _ => none) 0 (some ge5)) 1 (some ge5)) 2 (some ge5)) 3 (some ge5)))))))]) (w1 := []) hP hD [] [0, 1] rfl rfl (by decide) (by decide) hk1 hFc hP1 hD1
  generalize H1 = H at hP hS ⊢
  have hP : va_P (dC, dI) vwCl [(h0, .inr (9, [.int 0, .ref h1, .ref z0, .ref z1, .int 0, .int 0, .int 0])), (h1, .inl (k0, 4, .inr (.inr (.inr (.inr (va_up (va_up (va_up (va_up (fun _ => none) 0 (some ge5)) 1 (some ge5)) 2 (some ge5)) 3 (some ge5)))))))] H := hP
  have hD : va_D A [(h0, .inr (9, [.int 0, .ref h1, .ref z0, .ref z1, .int 0, .int 0, .int 0])), (h1, .inl (k0, 4, .inr (.inr (.inr (.inr (va_up (va_up (va_up (va_up (fun _ => none) 0 (some ge5)) 1 (some ge5)) 2 (some ge5)) 3 (some ge5)))))))] := hD
  refine lv_iadd hx hb dX5_houseNow_33 ?_
  refine lv_topi (fun y4 ey4 => ?_)
  obtain rfl : y4 = 0 := ey4.trans (by decide)
  refine lv_istore_n (lv' := [(2, .int 0), (6, .ref ge5), (5, .int 3), (4, .int 4), (3, .ref h1), (0, .ref h0), (1, .int 1)]) hx hb dX5_houseNow_34 rfl hl (by decide) rfl (fun ls hl => ?_)
  refine lv_iinc (v := 4) (lv' := [(5, .int 4), (2, .int 0), (6, .ref ge5), (4, .int 4), (3, .ref h1), (0, .ref h0), (1, .int 1)]) hx hb dX5_houseNow_35 hl (k := 2) rfl (by decide) (by decide) rfl (fun ls hl => ?_)
  refine lv_goto (tgt := 14) hx hb dX5_houseNow_38 (by decide) ?_
  refine lv_iload hx hb dX5_houseNow_14 (lv_at hl 0 rfl) ?_
  refine lv_iload hx hb dX5_houseNow_16 (lv_at hl 3 rfl) ?_
  refine lv_icmp_ge (tgt := 41) hx hb dX5_houseNow_18 (by decide) (fun _ => ?_) (fun c9 => absurd (by decide) c9)
  refine lv_iconst (v := 4) hx hb dX5_houseNow_41 (by decide) ?_
  refine va_newa (D := (dC, dI)) (atype := .int) (ty := .int) (a0 := (4, .inl (fun _ => 0))) (n := 4) (N' := 4) hx hb (hts (.arrayClass .int) (by decide +kernel)) rfl hK hP hD hS hA (fun _ => rfl) (by decide) (by decide) (Nat.le_of_ble_eq_true rfl) (Nat.le_of_ble_eq_true rfl) (Nat.le_of_ble_eq_true rfl) dX5_houseNow_42 (fun q5 cq5 H hK hP hD hS => ?_)
  have hK : va_K (dC, dI) vwCl [(k0, .object "java/lang/String"), (cq5, .int)] s := hK
  have hP : va_P (dC, dI) vwCl [(h0, .inr (9, [.int 0, .ref h1, .ref z0, .ref z1, .int 0, .int 0, .int 0])), (h1, .inl (k0, 4, .inr (.inr (.inr (.inr (va_up (va_up (va_up (va_up (fun _ => none) 0 (some ge5)) 1 (some ge5)) 2 (some ge5)) 3 (some ge5))))))), (q5, .inl (cq5, 4, .inl (fun _ => 0)))] H := hP
  have hD : va_D A [(h0, .inr (9, [.int 0, .ref h1, .ref z0, .ref z1, .int 0, .int 0, .int 0])), (h1, .inl (k0, 4, .inr (.inr (.inr (.inr (va_up (va_up (va_up (va_up (fun _ => none) 0 (some ge5)) 1 (some ge5)) 2 (some ge5)) 3 (some ge5))))))), (q5, .inl (cq5, 4, .inl (fun _ => 0)))] := hD
  refine W.widen (k := 1) (n := 4) (by omega) (by omega) ?_
  refine lv_dup hx hb dX5_houseNow_44 rfl ?_
  refine lv_iconst (v := 0) hx hb dX5_houseNow_45 (by decide) ?_
  refine lv_aload_n hx hb dX5_houseNow_46 rfl (lv_at hl 5 rfl) ?_
  refine va_get (D := (dC, dI)) (ci := 9) (v := .int 0) (C := RX5) (T := TX5) (N := 7) hx hb hts (by decide +kernel) hown hK hP 0 rfl rfl 4 (by decide) (hts (.fieldLink RX5 39 "RewriteropeModel" "refused" "I") (by decide +kernel)) (fun _ h9 => h9) rfl dX5_houseNow_47 ?_
  refine va_iast (D := (dC, dI)) hx hb hK hP hD hS 2 1 rfl rfl (by unfold vp_in; decide) dX5_houseNow_50 (fun H locs hP hD hS => ?_)
  have hP : va_P (dC, dI) vwCl [(h0, .inr (9, [.int 0, .ref h1, .ref z0, .ref z1, .int 0, .int 0, .int 0])), (h1, .inl (k0, 4, .inr (.inr (.inr (.inr (va_up (va_up (va_up (va_up (fun _ => none) 0 (some ge5)) 1 (some ge5)) 2 (some ge5)) 3 (some ge5))))))), (q5, .inl (cq5, 4, .inl (upd (fun _ => 0) 0 0)))] H := hP
  have hD : va_D A [(h0, .inr (9, [.int 0, .ref h1, .ref z0, .ref z1, .int 0, .int 0, .int 0])), (h1, .inl (k0, 4, .inr (.inr (.inr (.inr (va_up (va_up (va_up (va_up (fun _ => none) 0 (some ge5)) 1 (some ge5)) 2 (some ge5)) 3 (some ge5))))))), (q5, .inl (cq5, 4, .inl (upd (fun _ => 0) 0 0)))] := hD
  refine lv_dup hx hb dX5_houseNow_51 rfl ?_
  refine lv_iconst (v := 1) hx hb dX5_houseNow_52 (by decide) ?_
  refine lv_aload_n hx hb dX5_houseNow_53 rfl (lv_at hl 5 rfl) ?_
  refine va_get (D := (dC, dI)) (ci := 9) (v := .int 0) (C := RX5) (T := TX5) (N := 7) hx hb hts (by decide +kernel) hown hK hP 0 rfl rfl 5 (by decide) (hts (.fieldLink RX5 205 "RewriteropeModel" "knocks" "I") (by decide +kernel)) (fun _ h9 => h9) rfl dX5_houseNow_54 ?_
  refine va_iast (D := (dC, dI)) hx hb hK hP hD hS 2 1 rfl rfl (by unfold vp_in; decide) dX5_houseNow_57 (fun H locs hP hD hS => ?_)
  have hP : va_P (dC, dI) vwCl [(h0, .inr (9, [.int 0, .ref h1, .ref z0, .ref z1, .int 0, .int 0, .int 0])), (h1, .inl (k0, 4, .inr (.inr (.inr (.inr (va_up (va_up (va_up (va_up (fun _ => none) 0 (some ge5)) 1 (some ge5)) 2 (some ge5)) 3 (some ge5))))))), (q5, .inl (cq5, 4, .inl (upd (upd (fun _ => 0) 0 0) 1 0)))] H := hP
  have hD : va_D A [(h0, .inr (9, [.int 0, .ref h1, .ref z0, .ref z1, .int 0, .int 0, .int 0])), (h1, .inl (k0, 4, .inr (.inr (.inr (.inr (va_up (va_up (va_up (va_up (fun _ => none) 0 (some ge5)) 1 (some ge5)) 2 (some ge5)) 3 (some ge5))))))), (q5, .inl (cq5, 4, .inl (upd (upd (fun _ => 0) 0 0) 1 0)))] := hD
  refine lv_dup hx hb dX5_houseNow_58 rfl ?_
  refine lv_iconst (v := 2) hx hb dX5_houseNow_59 (by decide) ?_
  refine lv_iload_n hx hb dX5_houseNow_60 rfl (lv_at hl 1 rfl) ?_
  refine va_iast (D := (dC, dI)) hx hb hK hP hD hS 2 1 rfl rfl (by unfold vp_in; decide) dX5_houseNow_61 (fun H locs hP hD hS => ?_)
  have hP : va_P (dC, dI) vwCl [(h0, .inr (9, [.int 0, .ref h1, .ref z0, .ref z1, .int 0, .int 0, .int 0])), (h1, .inl (k0, 4, .inr (.inr (.inr (.inr (va_up (va_up (va_up (va_up (fun _ => none) 0 (some ge5)) 1 (some ge5)) 2 (some ge5)) 3 (some ge5))))))), (q5, .inl (cq5, 4, .inl (upd (upd (upd (fun _ => 0) 0 0) 1 0) 2 0)))] H := hP
  have hD : va_D A [(h0, .inr (9, [.int 0, .ref h1, .ref z0, .ref z1, .int 0, .int 0, .int 0])), (h1, .inl (k0, 4, .inr (.inr (.inr (.inr (va_up (va_up (va_up (va_up (fun _ => none) 0 (some ge5)) 1 (some ge5)) 2 (some ge5)) 3 (some ge5))))))), (q5, .inl (cq5, 4, .inl (upd (upd (upd (fun _ => 0) 0 0) 1 0) 2 0)))] := hD
  refine lv_dup hx hb dX5_houseNow_62 rfl ?_
  refine lv_iconst (v := 3) hx hb dX5_houseNow_63 (by decide) ?_
  refine lv_aload_n hx hb dX5_houseNow_64 rfl (lv_at hl 5 rfl) ?_
  refine va_get (D := (dC, dI)) (ci := 9) (v := .int 0) (C := RX5) (T := TX5) (N := 7) hx hb hts (by decide +kernel) hown hK hP 0 rfl rfl 6 (by decide) (hts (.fieldLink RX5 177 "RewriteropeModel" "steps" "I") (by decide +kernel)) (fun _ h9 => h9) rfl dX5_houseNow_65 ?_
  refine va_iast (D := (dC, dI)) hx hb hK hP hD hS 2 1 rfl rfl (by unfold vp_in; decide) dX5_houseNow_68 (fun H locs hP hD hS => ?_)
  have hP : va_P (dC, dI) vwCl [(h0, .inr (9, [.int 0, .ref h1, .ref z0, .ref z1, .int 0, .int 0, .int 0])), (h1, .inl (k0, 4, .inr (.inr (.inr (.inr (va_up (va_up (va_up (va_up (fun _ => none) 0 (some ge5)) 1 (some ge5)) 2 (some ge5)) 3 (some ge5))))))), (q5, .inl (cq5, 4, .inl (upd (upd (upd (upd (fun _ => 0) 0 0) 1 0) 2 0) 3 0)))] H := hP
  have hD : va_D A [(h0, .inr (9, [.int 0, .ref h1, .ref z0, .ref z1, .int 0, .int 0, .int 0])), (h1, .inl (k0, 4, .inr (.inr (.inr (.inr (va_up (va_up (va_up (va_up (fun _ => none) 0 (some ge5)) 1 (some ge5)) 2 (some ge5)) 3 (some ge5))))))), (q5, .inl (cq5, 4, .inl (upd (upd (upd (upd (fun _ => 0) 0 0) 1 0) 2 0) 3 0)))] := hD
  refine lv_astore_n (lv' := [(3, .ref q5), (5, .int 4), (2, .int 0), (6, .ref ge5), (4, .int 4), (0, .ref h0), (1, .int 1)]) hx hb dX5_houseNow_69 rfl hl (by decide) rfl (fun ls hl => ?_)
  refine lv_aload_n hx hb dX5_houseNow_70 rfl (lv_at hl 0 rfl) ?_
  refine lv_iload_n hx hb dX5_houseNow_71 rfl (lv_at hl 6 rfl) ?_
  refine va_iald (D := (dC, dI)) hx hb hK hP 2 1 rfl rfl (by unfold vp_in; decide) dX5_houseNow_72 ?_
  refine lv_topi (fun y6 ey6 => ?_)
  obtain rfl : y6 = 0 := ey6.trans (by decide)
  exact W.iret (v := 0) hx hb hr (fun t ht hW => ⟨⟨0, (), rfl, rfl, q5, cq5, by rw [ht]; exact hP, va_K.moved hW.alike hK, hD⟩, hS.F ht⟩) hS.2.2 dX5_houseNow_73
set_option maxHeartbeats 4000000 in
set_option maxRecDepth 100000 in
theorem kx_X5_houseNow_6 (l : Launch) (dC : Nat → ClassId) (dI : Nat → Nat → Nat) (ge5 gea gv5 gva gde gic gi0 : Nat) (h0 : Nat) (h1 : Nat) (z0 : Nat) (z1 : Nat) (k0 : ClassId) (sz : Nat) : Met l yX5_houseNow wsX5_houseNow ({ frames := 2, cells := 1, slots := 4, locals := 40 }) (va_Pc [.ref h0, .int 2] (fun U => U.heap.size = sz ∧ va_P (dC, dI) vwCl [(h0, .inr (9, [.int 0, .ref h1, .ref z0, .ref z1, .int 0, .int 0, .int 0])), (h1, .inl (k0, 4, .inr (.inr (.inr (.inr (va_up (va_up (va_up (va_up (fun _ => none) 0 (some ge5)) 1 (some ge5)) 2 (some ge5)) 3 (some ge5)))))))] U.heap ∧ va_K (dC, dI) vwCl [(k0, .object "java/lang/String")] U ∧ va_D (fun _ => True) [(h0, .inr (9, [.int 0, .ref h1, .ref z0, .ref z1, .int 0, .int 0, .int 0])), (h1, .inl (k0, 4, .inr (.inr (.inr (.inr (va_up (va_up (va_up (va_up (fun _ => none) 0 (some ge5)) 1 (some ge5)) 2 (some ge5)) 3 (some ge5)))))))] ∧ gv ge5 gea gv5 gva gde gic gi0 (va_A [(h0, .inr (9, [.int 0, .ref h1, .ref z0, .ref z1, .int 0, .int 0, .int 0])), (h1, .inl (k0, 4, .inr (.inr (.inr (.inr (va_up (va_up (va_up (va_up (fun _ => none) 0 (some ge5)) 1 (some ge5)) 2 (some ge5)) 3 (some ge5)))))))] sz) U U.heap)) (va_Qi (fun (r : Int32) (_ : Unit) => r = 0) (fun (_ : Unit) (t : State) => ∃ q5 : Nat, ∃ cq5 : ClassId, va_P (dC, dI) vwCl [(h0, .inr (9, [.int 0, .ref h1, .ref z0, .ref z1, .int 0, .int 0, .int 0])), (h1, .inl (k0, 4, .inr (.inr (.inr (.inr (va_up (va_up (va_up (va_up (fun _ => none) 0 (some ge5)) 1 (some ge5)) 2 (some ge5)) 3 (some ge5))))))), (q5, .inl (cq5, 4, .inl (upd (upd (upd (upd (fun _ => 0) 0 0) 1 0) 2 0) 3 0)))] t.heap ∧ va_K (dC, dI) vwCl [(k0, .object "java/lang/String"), (cq5, .int)] t ∧ va_D (va_A [(h0, .inr (9, [.int 0, .ref h1, .ref z0, .ref z1, .int 0, .int 0, .int 0])), (h1, .inl (k0, 4, .inr (.inr (.inr (.inr (va_up (va_up (va_up (va_up (fun _ => none) 0 (some ge5)) 1 (some ge5)) 2 (some ge5)) 3 (some ge5)))))))] sz) [(h0, .inr (9, [.int 0, .ref h1, .ref z0, .ref z1, .int 0, .int 0, .int 0])), (h1, .inl (k0, 4, .inr (.inr (.inr (.inr (va_up (va_up (va_up (va_up (fun _ => none) 0 (some ge5)) 1 (some ge5)) 2 (some ge5)) 3 (some ge5))))))), (q5, .inl (cq5, 4, .inl (upd (upd (upd (upd (fun _ => 0) 0 0) 1 0) 2 0) 3 0)))]) (va_A [(h0, .inr (9, [.int 0, .ref h1, .ref z0, .ref z1, .int 0, .int 0, .int 0])), (h1, .inl (k0, 4, .inr (.inr (.inr (.inr (va_up (va_up (va_up (va_up (fun _ => none) 0 (some ge5)) 1 (some ge5)) 2 (some ge5)) 3 (some ge5)))))))] sz)) 1 4 (va_A [(h0, .inr (9, [.int 0, .ref h1, .ref z0, .ref z1, .int 0, .int 0, .int 0])), (h1, .inl (k0, 4, .inr (.inr (.inr (.inr (va_up (va_up (va_up (va_up (fun _ => none) 0 (some ge5)) 1 (some ge5)) 2 (some ge5)) 3 (some ge5)))))))] sz) := by
  refine Met.ofW (cc := cX5_houseNow) (maxL := 7) (ret := (some .int)) (by decide) rfl ?_
  intro p e s m args below meth c s₁ B hml hv
  obtain ⟨rfl, hsz, hP, hK, hD0, hG⟩ := hv
  have hx := B.exec
  have hb := B.bytes
  have hr := B.returns
  have hts := atoms_spec (ws := wsX5_houseNow) B.pre
  have hown : s.vm.findClass RX5 = some m.cls := findClass_of_methodNamed B.named
  have hlocks := B.notSynchronized
  subst hsz
  have hD := hD0.self (sz := s.heap.size)
  generalize hAe : va_A [(h0, .inr (9, [.int 0, .ref h1, .ref z0, .ref z1, .int 0, .int 0, .int 0])), (h1, .inl (k0, 4, .inr (.inr (.inr (.inr (va_up (va_up (va_up (va_up (fun _ => none) 0 (some ge5)) 1 (some ge5)) 2 (some ge5)) 3 (some ge5)))))))] s.heap.size = A at hD hG ⊢
  obtain ⟨⟨g_AO_Text, g_AO_String, g_AO_Object, g_nm_RX1_20, g_nm_RX0_17, g_nm_RX3_31, g_nm_RX2_44, g_nm_RL_121, g_nf_RL_13, g_nf_RL_47, g_ca_IO, g_ca_IA, g_ca_IS, g_ca_IntObj, g_ca_StrObj, g_de_RT, g_de_EX, g_de_TH, g_nc_IA_IO, g_nc_IS_IO, g_nc_IS_IA⟩, ⟨g_s3, g_s5, g_sa, g_x278, g_x280, g_x282, g_x284, g_x286, g_x180, g_x238, g_x250⟩, ⟨g_o5, g_c5, g_v5, g_t5, g_oa, g_ca, g_va, g_ta, g_zc, g_zd, g_td, g_zf, g_zU, g_zN, g_zh, g_zk, g_tk, g_oi, g_vi⟩⟩ := id hG
  have hA : ∀ q : Nat, s.heap.size ≤ q → A q := fun q h => by rw [← hAe]; exact Or.inr h
  have hS : va_S A s.heap s.heap [] := va_S.rf
  have hP : va_P (dC, dI) vwCl [(h0, .inr (9, [.int 0, .ref h1, .ref z0, .ref z1, .int 0, .int 0, .int 0])), (h1, .inl (k0, 4, .inr (.inr (.inr (.inr (va_up (va_up (va_up (va_up (fun _ => none) 0 (some ge5)) 1 (some ge5)) 2 (some ge5)) 3 (some ge5)))))))] s.heap := hP
  have hl := lv_entry ([.ref h0, .int 2]) (n := 7) (Nat.le_of_ble_eq_true rfl)
  rw [lg_entry_eq]
  generalize (lg_sl ([.ref h0, .int 2]) ++ List.replicate (7 - (lg_sl ([.ref h0, .int 2])).length) Slot.unset).toArray = ls at hl ⊢
  have hl : lv_has ls 7 [(0, .ref h0), (1, .int 2)] := hl
  refine lv_iconst (v := 0) hx hb dX5_houseNow_0 (by decide) ?_
  refine lv_istore_n (lv' := [(2, .int 0), (0, .ref h0), (1, .int 2)]) hx hb dX5_houseNow_1 rfl hl (by decide) rfl (fun ls hl => ?_)
  refine lv_aload_n hx hb dX5_houseNow_2 rfl (lv_at hl 1 rfl) ?_
  refine va_get (D := (dC, dI)) (ci := 9) (v := .ref h1) (C := RX5) (T := TX5) (N := 7) hx hb hts (by decide +kernel) hown hK hP 0 rfl rfl 1 (by decide) (hts (.fieldLink RX5 11 "RewriteropeModel" "ropes" "[Ljava/lang/String;") (by decide +kernel)) (fun _ h9 => h9) rfl dX5_houseNow_3 ?_
  refine lv_astore_n (lv' := [(3, .ref h1), (2, .int 0), (0, .ref h0), (1, .int 2)]) hx hb dX5_houseNow_6 rfl hl (by decide) rfl (fun ls hl => ?_)
  refine lv_aload_n hx hb dX5_houseNow_7 rfl (lv_at hl 0 rfl) ?_
  refine va_alen (D := (dC, dI)) (v := 4) hx hb hK hP 1 0 rfl rfl (show Int32.ofNat 4 = 4 from by decide) dX5_houseNow_8 ?_
  refine lv_istore (lv' := [(4, .int 4), (3, .ref h1), (2, .int 0), (0, .ref h0), (1, .int 2)]) hx hb dX5_houseNow_9 hl (by decide) rfl (fun ls hl => ?_)
  refine lv_iconst (v := 0) hx hb dX5_houseNow_11 (by decide) ?_
  refine lv_istore (lv' := [(5, .int 0), (4, .int 4), (3, .ref h1), (2, .int 0), (0, .ref h0), (1, .int 2)]) hx hb dX5_houseNow_12 hl (by decide) rfl (fun ls hl => ?_)
  refine lv_iload hx hb dX5_houseNow_14 (lv_at hl 0 rfl) ?_
  refine lv_iload hx hb dX5_houseNow_16 (lv_at hl 1 rfl) ?_
  refine lv_icmp_ge (tgt := 41) hx hb dX5_houseNow_18 (by decide) (fun c9 => absurd c9 (by decide)) (fun _ => ?_)
  refine lv_aload_n hx hb dX5_houseNow_21 rfl (lv_at hl 2 rfl) ?_
  refine lv_iload hx hb dX5_houseNow_22 (lv_at hl 0 rfl) ?_
  refine va_aldq (D := (dC, dI)) hx hb hK hP 1 0 rfl rfl (by unfold vp_in; decide) dX5_houseNow_24 ?_
  refine W.eq (g2 := F0 m 25 ls [.ref ge5]) rfl ?_
  refine lv_astore (lv' := [(6, .ref ge5), (5, .int 0), (4, .int 4), (3, .ref h1), (2, .int 0), (0, .ref h0), (1, .int 2)]) hx hb dX5_houseNow_25 hl (by decide) rfl (fun ls hl => ?_)
  refine lv_iload_n hx hb dX5_houseNow_27 rfl (lv_at hl 4 rfl) ?_
  refine lv_aload hx hb dX5_houseNow_28 (lv_at hl 0 rfl) ?_
  have hPc := hP.sub (ws' := []) [] rfl
  have hDc := hD.sub (ws' := []) [] (by decide) rfl
  have hKc := hK.sub (tys' := []) [] rfl
  have hFc := va_free (wc := []) hD hS hA [] rfl
  refine va_calli (va_runV (As := []) (rest := [.int 0]) ⟨hx, hb, hml, hown, hts⟩ (kx_J0_length_8abf5_0 l dC dI ge5 gea gv5 gva gde gic gi0 s.heap.size) (cwV 0 hts gX5_houseNow_J0_length_8abf5 rfl rfl rfl (by decide +kernel) ⟨Nat.le_of_ble_eq_true rfl, Nat.le_of_ble_eq_true rfl⟩) ⟨fun a U g mk q => by obtain ⟨q0, q1, qP, qK, qD, qG⟩ := q; exact ⟨q0, q1, qP, va_K.moved (u := U) (U := U.calling g mk a) (Vm.Alike.refl U.vm) qK, qD, gv.fb qG⟩, (by obtain ⟨cell, k1, k2, k3, -⟩ := g_o5.kept hS.2.1; exact ⟨cell, k1, k2, k3⟩), fun U hU hW => ⟨rfl, by rw [hU], by rw [hU]; exact hPc, va_K.moved hW.alike hKc, hDc.weaken (fun _ _ _ _ => trivial), gv.pass hW hU hS hFc hG⟩⟩ rfl rfl hl.1 rfl (lv_room (Nat.le_of_ble_eq_true rfl)) dX5_houseNow_30 ⟨Nat.le_of_ble_eq_true rfl, Nat.le_of_ble_eq_true rfl⟩) hS (fun q _ h => hFc q h) hFc (fun r9 u t H1 locs ht hvm hw hB hz1 hk1 hS => ?_)
  obtain rfl := hw
  obtain ⟨hP1, hK1, hD1⟩ := hB
  rw [ht] at hP1
  have hK1 := va_K.moved hvm.symm hK1
  obtain ⟨hP, hD⟩ := va_join (wr := [(h0, .inr (9, [.int 0, .ref h1, .ref z0, .ref z1, .int 0, .int 0, .int 0])), (h1, .inl (k0, 4, .inr (.inr (.inr (.inr (va_up (va_up (va_up (va_up (fun _ => none) 0 (some ge5)) 1 (some ge5)) 2 (some ge5)) 3 (some ge5)))))))]) (w1 := []) hP hD [] [0, 1] rfl rfl (by decide) (by decide) hk1 hFc hP1 hD1
  generalize H1 = H at hP hS ⊢
  have hP : va_P (dC, dI) vwCl [(h0, .inr (9, [.int 0, .ref h1, .ref z0, .ref z1, .int 0, .int 0, .int 0])), (h1, .inl (k0, 4, .inr (.inr (.inr (.inr (va_up (va_up (va_up (va_up (fun _ => none) 0 (some ge5)) 1 (some ge5)) 2 (some ge5)) 3 (some ge5)))))))] H := hP
  have hD : va_D A [(h0, .inr (9, [.int 0, .ref h1, .ref z0, .ref z1, .int 0, .int 0, .int 0])), (h1, .inl (k0, 4, .inr (.inr (.inr (.inr (va_up (va_up (va_up (va_up (fun _ => none) 0 (some ge5)) 1 (some ge5)) 2 (some ge5)) 3 (some ge5)))))))] := hD
  refine lv_iadd hx hb dX5_houseNow_33 ?_
  refine lv_topi (fun y1 ey1 => ?_)
  obtain rfl : y1 = 0 := ey1.trans (by decide)
  refine lv_istore_n (lv' := [(2, .int 0), (6, .ref ge5), (5, .int 0), (4, .int 4), (3, .ref h1), (0, .ref h0), (1, .int 2)]) hx hb dX5_houseNow_34 rfl hl (by decide) rfl (fun ls hl => ?_)
  refine lv_iinc (v := 1) (lv' := [(5, .int 1), (2, .int 0), (6, .ref ge5), (4, .int 4), (3, .ref h1), (0, .ref h0), (1, .int 2)]) hx hb dX5_houseNow_35 hl (k := 2) rfl (by decide) (by decide) rfl (fun ls hl => ?_)
  refine lv_goto (tgt := 14) hx hb dX5_houseNow_38 (by decide) ?_
  refine lv_iload hx hb dX5_houseNow_14 (lv_at hl 0 rfl) ?_
  refine lv_iload hx hb dX5_houseNow_16 (lv_at hl 3 rfl) ?_
  refine lv_icmp_ge (tgt := 41) hx hb dX5_houseNow_18 (by decide) (fun c9 => absurd c9 (by decide)) (fun _ => ?_)
  refine lv_aload_n hx hb dX5_houseNow_21 rfl (lv_at hl 4 rfl) ?_
  refine lv_iload hx hb dX5_houseNow_22 (lv_at hl 0 rfl) ?_
  refine va_aldq (D := (dC, dI)) hx hb hK hP 1 0 rfl rfl (by unfold vp_in; decide) dX5_houseNow_24 ?_
  refine W.eq (g2 := F0 m 25 ls [.ref ge5]) rfl ?_
  refine lv_astore (lv' := [(6, .ref ge5), (5, .int 1), (2, .int 0), (4, .int 4), (3, .ref h1), (0, .ref h0), (1, .int 2)]) hx hb dX5_houseNow_25 hl (by decide) rfl (fun ls hl => ?_)
  refine lv_iload_n hx hb dX5_houseNow_27 rfl (lv_at hl 2 rfl) ?_
  refine lv_aload hx hb dX5_houseNow_28 (lv_at hl 0 rfl) ?_
  have hPc := hP.sub (ws' := []) [] rfl
  have hDc := hD.sub (ws' := []) [] (by decide) rfl
  have hKc := hK.sub (tys' := []) [] rfl
  have hFc := va_free (wc := []) hD hS hA [] rfl
  refine va_calli (va_runV (As := []) (rest := [.int 0]) ⟨hx, hb, hml, hown, hts⟩ (kx_J0_length_8abf5_0 l dC dI ge5 gea gv5 gva gde gic gi0 H.size) (cwV 0 hts gX5_houseNow_J0_length_8abf5 rfl rfl rfl (by decide +kernel) ⟨Nat.le_of_ble_eq_true rfl, Nat.le_of_ble_eq_true rfl⟩) ⟨fun a U g mk q => by obtain ⟨q0, q1, qP, qK, qD, qG⟩ := q; exact ⟨q0, q1, qP, va_K.moved (u := U) (U := U.calling g mk a) (Vm.Alike.refl U.vm) qK, qD, gv.fb qG⟩, (by obtain ⟨cell, k1, k2, k3, -⟩ := g_o5.kept hS.2.1; exact ⟨cell, k1, k2, k3⟩), fun U hU hW => ⟨rfl, by rw [hU], by rw [hU]; exact hPc, va_K.moved hW.alike hKc, hDc.weaken (fun _ _ _ _ => trivial), gv.pass hW hU hS hFc hG⟩⟩ rfl rfl hl.1 rfl (lv_room (Nat.le_of_ble_eq_true rfl)) dX5_houseNow_30 ⟨Nat.le_of_ble_eq_true rfl, Nat.le_of_ble_eq_true rfl⟩) hS (fun q _ h => hFc q h) hFc (fun r9 u t H1 locs ht hvm hw hB hz1 hk1 hS => ?_)
  obtain rfl := hw
  obtain ⟨hP1, hK1, hD1⟩ := hB
  rw [ht] at hP1
  have hK1 := va_K.moved hvm.symm hK1
  obtain ⟨hP, hD⟩ := va_join (wr := [(h0, .inr (9, [.int 0, .ref h1, .ref z0, .ref z1, .int 0, .int 0, .int 0])), (h1, .inl (k0, 4, .inr (.inr (.inr (.inr (va_up (va_up (va_up (va_up (fun _ => none) 0 (some ge5)) 1 (some ge5)) 2 (some ge5)) 3 (some ge5)))))))]) (w1 := []) hP hD [] [0, 1] rfl rfl (by decide) (by decide) hk1 hFc hP1 hD1
  generalize H1 = H at hP hS ⊢
  have hP : va_P (dC, dI) vwCl [(h0, .inr (9, [.int 0, .ref h1, .ref z0, .ref z1, .int 0, .int 0, .int 0])), (h1, .inl (k0, 4, .inr (.inr (.inr (.inr (va_up (va_up (va_up (va_up (fun _ => none) 0 (some ge5)) 1 (some ge5)) 2 (some ge5)) 3 (some ge5)))))))] H := hP
  have hD : va_D A [(h0, .inr (9, [.int 0, .ref h1, .ref z0, .ref z1, .int 0, .int 0, .int 0])), (h1, .inl (k0, 4, .inr (.inr (.inr (.inr (va_up (va_up (va_up (va_up (fun _ => none) 0 (some ge5)) 1 (some ge5)) 2 (some ge5)) 3 (some ge5)))))))] := hD
  refine lv_iadd hx hb dX5_houseNow_33 ?_
  refine lv_topi (fun y2 ey2 => ?_)
  obtain rfl : y2 = 0 := ey2.trans (by decide)
  refine lv_istore_n (lv' := [(2, .int 0), (6, .ref ge5), (5, .int 1), (4, .int 4), (3, .ref h1), (0, .ref h0), (1, .int 2)]) hx hb dX5_houseNow_34 rfl hl (by decide) rfl (fun ls hl => ?_)
  refine lv_iinc (v := 2) (lv' := [(5, .int 2), (2, .int 0), (6, .ref ge5), (4, .int 4), (3, .ref h1), (0, .ref h0), (1, .int 2)]) hx hb dX5_houseNow_35 hl (k := 2) rfl (by decide) (by decide) rfl (fun ls hl => ?_)
  refine lv_goto (tgt := 14) hx hb dX5_houseNow_38 (by decide) ?_
  refine lv_iload hx hb dX5_houseNow_14 (lv_at hl 0 rfl) ?_
  refine lv_iload hx hb dX5_houseNow_16 (lv_at hl 3 rfl) ?_
  refine lv_icmp_ge (tgt := 41) hx hb dX5_houseNow_18 (by decide) (fun c9 => absurd c9 (by decide)) (fun _ => ?_)
  refine lv_aload_n hx hb dX5_houseNow_21 rfl (lv_at hl 4 rfl) ?_
  refine lv_iload hx hb dX5_houseNow_22 (lv_at hl 0 rfl) ?_
  refine va_aldq (D := (dC, dI)) hx hb hK hP 1 0 rfl rfl (by unfold vp_in; decide) dX5_houseNow_24 ?_
  refine W.eq (g2 := F0 m 25 ls [.ref ge5]) rfl ?_
  refine lv_astore (lv' := [(6, .ref ge5), (5, .int 2), (2, .int 0), (4, .int 4), (3, .ref h1), (0, .ref h0), (1, .int 2)]) hx hb dX5_houseNow_25 hl (by decide) rfl (fun ls hl => ?_)
  refine lv_iload_n hx hb dX5_houseNow_27 rfl (lv_at hl 2 rfl) ?_
  refine lv_aload hx hb dX5_houseNow_28 (lv_at hl 0 rfl) ?_
  have hPc := hP.sub (ws' := []) [] rfl
  have hDc := hD.sub (ws' := []) [] (by decide) rfl
  have hKc := hK.sub (tys' := []) [] rfl
  have hFc := va_free (wc := []) hD hS hA [] rfl
  refine va_calli (va_runV (As := []) (rest := [.int 0]) ⟨hx, hb, hml, hown, hts⟩ (kx_J0_length_8abf5_0 l dC dI ge5 gea gv5 gva gde gic gi0 H.size) (cwV 0 hts gX5_houseNow_J0_length_8abf5 rfl rfl rfl (by decide +kernel) ⟨Nat.le_of_ble_eq_true rfl, Nat.le_of_ble_eq_true rfl⟩) ⟨fun a U g mk q => by obtain ⟨q0, q1, qP, qK, qD, qG⟩ := q; exact ⟨q0, q1, qP, va_K.moved (u := U) (U := U.calling g mk a) (Vm.Alike.refl U.vm) qK, qD, gv.fb qG⟩, (by obtain ⟨cell, k1, k2, k3, -⟩ := g_o5.kept hS.2.1; exact ⟨cell, k1, k2, k3⟩), fun U hU hW => ⟨rfl, by rw [hU], by rw [hU]; exact hPc, va_K.moved hW.alike hKc, hDc.weaken (fun _ _ _ _ => trivial), gv.pass hW hU hS hFc hG⟩⟩ rfl rfl hl.1 rfl (lv_room (Nat.le_of_ble_eq_true rfl)) dX5_houseNow_30 ⟨Nat.le_of_ble_eq_true rfl, Nat.le_of_ble_eq_true rfl⟩) hS (fun q _ h => hFc q h) hFc (fun r9 u t H1 locs ht hvm hw hB hz1 hk1 hS => ?_)
  obtain rfl := hw
  obtain ⟨hP1, hK1, hD1⟩ := hB
  rw [ht] at hP1
  have hK1 := va_K.moved hvm.symm hK1
  obtain ⟨hP, hD⟩ := va_join (wr := [(h0, .inr (9, [.int 0, .ref h1, .ref z0, .ref z1, .int 0, .int 0, .int 0])), (h1, .inl (k0, 4, .inr (.inr (.inr (.inr (va_up (va_up (va_up (va_up (fun _ => none) 0 (some ge5)) 1 (some ge5)) 2 (some ge5)) 3 (some ge5)))))))]) (w1 := []) hP hD [] [0, 1] rfl rfl (by decide) (by decide) hk1 hFc hP1 hD1
  generalize H1 = H at hP hS ⊢
  have hP : va_P (dC, dI) vwCl [(h0, .inr (9, [.int 0, .ref h1, .ref z0, .ref z1, .int 0, .int 0, .int 0])), (h1, .inl (k0, 4, .inr (.inr (.inr (.inr (va_up (va_up (va_up (va_up (fun _ => none) 0 (some ge5)) 1 (some ge5)) 2 (some ge5)) 3 (some ge5)))))))] H := hP
  have hD : va_D A [(h0, .inr (9, [.int 0, .ref h1, .ref z0, .ref z1, .int 0, .int 0, .int 0])), (h1, .inl (k0, 4, .inr (.inr (.inr (.inr (va_up (va_up (va_up (va_up (fun _ => none) 0 (some ge5)) 1 (some ge5)) 2 (some ge5)) 3 (some ge5)))))))] := hD
  refine lv_iadd hx hb dX5_houseNow_33 ?_
  refine lv_topi (fun y3 ey3 => ?_)
  obtain rfl : y3 = 0 := ey3.trans (by decide)
  refine lv_istore_n (lv' := [(2, .int 0), (6, .ref ge5), (5, .int 2), (4, .int 4), (3, .ref h1), (0, .ref h0), (1, .int 2)]) hx hb dX5_houseNow_34 rfl hl (by decide) rfl (fun ls hl => ?_)
  refine lv_iinc (v := 3) (lv' := [(5, .int 3), (2, .int 0), (6, .ref ge5), (4, .int 4), (3, .ref h1), (0, .ref h0), (1, .int 2)]) hx hb dX5_houseNow_35 hl (k := 2) rfl (by decide) (by decide) rfl (fun ls hl => ?_)
  refine lv_goto (tgt := 14) hx hb dX5_houseNow_38 (by decide) ?_
  refine lv_iload hx hb dX5_houseNow_14 (lv_at hl 0 rfl) ?_
  refine lv_iload hx hb dX5_houseNow_16 (lv_at hl 3 rfl) ?_
  refine lv_icmp_ge (tgt := 41) hx hb dX5_houseNow_18 (by decide) (fun c9 => absurd c9 (by decide)) (fun _ => ?_)
  refine lv_aload_n hx hb dX5_houseNow_21 rfl (lv_at hl 4 rfl) ?_
  refine lv_iload hx hb dX5_houseNow_22 (lv_at hl 0 rfl) ?_
  refine va_aldq (D := (dC, dI)) hx hb hK hP 1 0 rfl rfl (by unfold vp_in; decide) dX5_houseNow_24 ?_
  refine W.eq (g2 := F0 m 25 ls [.ref ge5]) rfl ?_
  refine lv_astore (lv' := [(6, .ref ge5), (5, .int 3), (2, .int 0), (4, .int 4), (3, .ref h1), (0, .ref h0), (1, .int 2)]) hx hb dX5_houseNow_25 hl (by decide) rfl (fun ls hl => ?_)
  refine lv_iload_n hx hb dX5_houseNow_27 rfl (lv_at hl 2 rfl) ?_
  refine lv_aload hx hb dX5_houseNow_28 (lv_at hl 0 rfl) ?_
  have hPc := hP.sub (ws' := []) [] rfl
  have hDc := hD.sub (ws' := []) [] (by decide) rfl
  have hKc := hK.sub (tys' := []) [] rfl
  have hFc := va_free (wc := []) hD hS hA [] rfl
  refine va_calli (va_runV (As := []) (rest := [.int 0]) ⟨hx, hb, hml, hown, hts⟩ (kx_J0_length_8abf5_0 l dC dI ge5 gea gv5 gva gde gic gi0 H.size) (cwV 0 hts gX5_houseNow_J0_length_8abf5 rfl rfl rfl (by decide +kernel) ⟨Nat.le_of_ble_eq_true rfl, Nat.le_of_ble_eq_true rfl⟩) ⟨fun a U g mk q => by obtain ⟨q0, q1, qP, qK, qD, qG⟩ := q; exact ⟨q0, q1, qP, va_K.moved (u := U) (U := U.calling g mk a) (Vm.Alike.refl U.vm) qK, qD, gv.fb qG⟩, (by obtain ⟨cell, k1, k2, k3, -⟩ := g_o5.kept hS.2.1; exact ⟨cell, k1, k2, k3⟩), fun U hU hW => ⟨rfl, by rw [hU], by rw [hU]; exact hPc, va_K.moved hW.alike hKc, hDc.weaken (fun _ _ _ _ => trivial), gv.pass hW hU hS hFc hG⟩⟩ rfl rfl hl.1 rfl (lv_room (Nat.le_of_ble_eq_true rfl)) dX5_houseNow_30 ⟨Nat.le_of_ble_eq_true rfl, Nat.le_of_ble_eq_true rfl⟩) hS (fun q _ h => hFc q h) hFc (fun r9 u t H1 locs ht hvm hw hB hz1 hk1 hS => ?_)
  obtain rfl := hw
  obtain ⟨hP1, hK1, hD1⟩ := hB
  rw [ht] at hP1
  have hK1 := va_K.moved hvm.symm hK1
  obtain ⟨hP, hD⟩ := va_join (wr := [(h0, .inr (9, [.int 0, .ref h1, .ref z0, .ref z1, .int 0, .int 0, .int 0])), (h1, .inl (k0, 4, .inr (.inr (.inr (.inr (va_up (va_up (va_up (va_up (fun _ => none) 0 (some ge5)) 1 (some ge5)) 2 (some ge5)) 3 (some ge5)))))))]) (w1 := []) hP hD [] [0, 1] rfl rfl (by decide) (by decide) hk1 hFc hP1 hD1
  generalize H1 = H at hP hS ⊢
  have hP : va_P (dC, dI) vwCl [(h0, .inr (9, [.int 0, .ref h1, .ref z0, .ref z1, .int 0, .int 0, .int 0])), (h1, .inl (k0, 4, .inr (.inr (.inr (.inr (va_up (va_up (va_up (va_up (fun _ => none) 0 (some ge5)) 1 (some ge5)) 2 (some ge5)) 3 (some ge5)))))))] H := hP
  have hD : va_D A [(h0, .inr (9, [.int 0, .ref h1, .ref z0, .ref z1, .int 0, .int 0, .int 0])), (h1, .inl (k0, 4, .inr (.inr (.inr (.inr (va_up (va_up (va_up (va_up (fun _ => none) 0 (some ge5)) 1 (some ge5)) 2 (some ge5)) 3 (some ge5)))))))] := hD
  refine lv_iadd hx hb dX5_houseNow_33 ?_
  refine lv_topi (fun y4 ey4 => ?_)
  obtain rfl : y4 = 0 := ey4.trans (by decide)
  refine lv_istore_n (lv' := [(2, .int 0), (6, .ref ge5), (5, .int 3), (4, .int 4), (3, .ref h1), (0, .ref h0), (1, .int 2)]) hx hb dX5_houseNow_34 rfl hl (by decide) rfl (fun ls hl => ?_)
  refine lv_iinc (v := 4) (lv' := [(5, .int 4), (2, .int 0), (6, .ref ge5), (4, .int 4), (3, .ref h1), (0, .ref h0), (1, .int 2)]) hx hb dX5_houseNow_35 hl (k := 2) rfl (by decide) (by decide) rfl (fun ls hl => ?_)
  refine lv_goto (tgt := 14) hx hb dX5_houseNow_38 (by decide) ?_
  refine lv_iload hx hb dX5_houseNow_14 (lv_at hl 0 rfl) ?_
  refine lv_iload hx hb dX5_houseNow_16 (lv_at hl 3 rfl) ?_
  refine lv_icmp_ge (tgt := 41) hx hb dX5_houseNow_18 (by decide) (fun _ => ?_) (fun c9 => absurd (by decide) c9)
  refine lv_iconst (v := 4) hx hb dX5_houseNow_41 (by decide) ?_
  refine va_newa (D := (dC, dI)) (atype := .int) (ty := .int) (a0 := (4, .inl (fun _ => 0))) (n := 4) (N' := 4) hx hb (hts (.arrayClass .int) (by decide +kernel)) rfl hK hP hD hS hA (fun _ => rfl) (by decide) (by decide) (Nat.le_of_ble_eq_true rfl) (Nat.le_of_ble_eq_true rfl) (Nat.le_of_ble_eq_true rfl) dX5_houseNow_42 (fun q5 cq5 H hK hP hD hS => ?_)
  have hK : va_K (dC, dI) vwCl [(k0, .object "java/lang/String"), (cq5, .int)] s := hK
  have hP : va_P (dC, dI) vwCl [(h0, .inr (9, [.int 0, .ref h1, .ref z0, .ref z1, .int 0, .int 0, .int 0])), (h1, .inl (k0, 4, .inr (.inr (.inr (.inr (va_up (va_up (va_up (va_up (fun _ => none) 0 (some ge5)) 1 (some ge5)) 2 (some ge5)) 3 (some ge5))))))), (q5, .inl (cq5, 4, .inl (fun _ => 0)))] H := hP
  have hD : va_D A [(h0, .inr (9, [.int 0, .ref h1, .ref z0, .ref z1, .int 0, .int 0, .int 0])), (h1, .inl (k0, 4, .inr (.inr (.inr (.inr (va_up (va_up (va_up (va_up (fun _ => none) 0 (some ge5)) 1 (some ge5)) 2 (some ge5)) 3 (some ge5))))))), (q5, .inl (cq5, 4, .inl (fun _ => 0)))] := hD
  refine W.widen (k := 1) (n := 4) (by omega) (by omega) ?_
  refine lv_dup hx hb dX5_houseNow_44 rfl ?_
  refine lv_iconst (v := 0) hx hb dX5_houseNow_45 (by decide) ?_
  refine lv_aload_n hx hb dX5_houseNow_46 rfl (lv_at hl 5 rfl) ?_
  refine va_get (D := (dC, dI)) (ci := 9) (v := .int 0) (C := RX5) (T := TX5) (N := 7) hx hb hts (by decide +kernel) hown hK hP 0 rfl rfl 4 (by decide) (hts (.fieldLink RX5 39 "RewriteropeModel" "refused" "I") (by decide +kernel)) (fun _ h9 => h9) rfl dX5_houseNow_47 ?_
  refine va_iast (D := (dC, dI)) hx hb hK hP hD hS 2 1 rfl rfl (by unfold vp_in; decide) dX5_houseNow_50 (fun H locs hP hD hS => ?_)
  have hP : va_P (dC, dI) vwCl [(h0, .inr (9, [.int 0, .ref h1, .ref z0, .ref z1, .int 0, .int 0, .int 0])), (h1, .inl (k0, 4, .inr (.inr (.inr (.inr (va_up (va_up (va_up (va_up (fun _ => none) 0 (some ge5)) 1 (some ge5)) 2 (some ge5)) 3 (some ge5))))))), (q5, .inl (cq5, 4, .inl (upd (fun _ => 0) 0 0)))] H := hP
  have hD : va_D A [(h0, .inr (9, [.int 0, .ref h1, .ref z0, .ref z1, .int 0, .int 0, .int 0])), (h1, .inl (k0, 4, .inr (.inr (.inr (.inr (va_up (va_up (va_up (va_up (fun _ => none) 0 (some ge5)) 1 (some ge5)) 2 (some ge5)) 3 (some ge5))))))), (q5, .inl (cq5, 4, .inl (upd (fun _ => 0) 0 0)))] := hD
  refine lv_dup hx hb dX5_houseNow_51 rfl ?_
  refine lv_iconst (v := 1) hx hb dX5_houseNow_52 (by decide) ?_
  refine lv_aload_n hx hb dX5_houseNow_53 rfl (lv_at hl 5 rfl) ?_
  refine va_get (D := (dC, dI)) (ci := 9) (v := .int 0) (C := RX5) (T := TX5) (N := 7) hx hb hts (by decide +kernel) hown hK hP 0 rfl rfl 5 (by decide) (hts (.fieldLink RX5 205 "RewriteropeModel" "knocks" "I") (by decide +kernel)) (fun _ h9 => h9) rfl dX5_houseNow_54 ?_
  refine va_iast (D := (dC, dI)) hx hb hK hP hD hS 2 1 rfl rfl (by unfold vp_in; decide) dX5_houseNow_57 (fun H locs hP hD hS => ?_)
  have hP : va_P (dC, dI) vwCl [(h0, .inr (9, [.int 0, .ref h1, .ref z0, .ref z1, .int 0, .int 0, .int 0])), (h1, .inl (k0, 4, .inr (.inr (.inr (.inr (va_up (va_up (va_up (va_up (fun _ => none) 0 (some ge5)) 1 (some ge5)) 2 (some ge5)) 3 (some ge5))))))), (q5, .inl (cq5, 4, .inl (upd (upd (fun _ => 0) 0 0) 1 0)))] H := hP
  have hD : va_D A [(h0, .inr (9, [.int 0, .ref h1, .ref z0, .ref z1, .int 0, .int 0, .int 0])), (h1, .inl (k0, 4, .inr (.inr (.inr (.inr (va_up (va_up (va_up (va_up (fun _ => none) 0 (some ge5)) 1 (some ge5)) 2 (some ge5)) 3 (some ge5))))))), (q5, .inl (cq5, 4, .inl (upd (upd (fun _ => 0) 0 0) 1 0)))] := hD
  refine lv_dup hx hb dX5_houseNow_58 rfl ?_
  refine lv_iconst (v := 2) hx hb dX5_houseNow_59 (by decide) ?_
  refine lv_iload_n hx hb dX5_houseNow_60 rfl (lv_at hl 1 rfl) ?_
  refine va_iast (D := (dC, dI)) hx hb hK hP hD hS 2 1 rfl rfl (by unfold vp_in; decide) dX5_houseNow_61 (fun H locs hP hD hS => ?_)
  have hP : va_P (dC, dI) vwCl [(h0, .inr (9, [.int 0, .ref h1, .ref z0, .ref z1, .int 0, .int 0, .int 0])), (h1, .inl (k0, 4, .inr (.inr (.inr (.inr (va_up (va_up (va_up (va_up (fun _ => none) 0 (some ge5)) 1 (some ge5)) 2 (some ge5)) 3 (some ge5))))))), (q5, .inl (cq5, 4, .inl (upd (upd (upd (fun _ => 0) 0 0) 1 0) 2 0)))] H := hP
  have hD : va_D A [(h0, .inr (9, [.int 0, .ref h1, .ref z0, .ref z1, .int 0, .int 0, .int 0])), (h1, .inl (k0, 4, .inr (.inr (.inr (.inr (va_up (va_up (va_up (va_up (fun _ => none) 0 (some ge5)) 1 (some ge5)) 2 (some ge5)) 3 (some ge5))))))), (q5, .inl (cq5, 4, .inl (upd (upd (upd (fun _ => 0) 0 0) 1 0) 2 0)))] := hD
  refine lv_dup hx hb dX5_houseNow_62 rfl ?_
  refine lv_iconst (v := 3) hx hb dX5_houseNow_63 (by decide) ?_
  refine lv_aload_n hx hb dX5_houseNow_64 rfl (lv_at hl 5 rfl) ?_
  refine va_get (D := (dC, dI)) (ci := 9) (v := .int 0) (C := RX5) (T := TX5) (N := 7) hx hb hts (by decide +kernel) hown hK hP 0 rfl rfl 6 (by decide) (hts (.fieldLink RX5 177 "RewriteropeModel" "steps" "I") (by decide +kernel)) (fun _ h9 => h9) rfl dX5_houseNow_65 ?_
  refine va_iast (D := (dC, dI)) hx hb hK hP hD hS 2 1 rfl rfl (by unfold vp_in; decide) dX5_houseNow_68 (fun H locs hP hD hS => ?_)
  have hP : va_P (dC, dI) vwCl [(h0, .inr (9, [.int 0, .ref h1, .ref z0, .ref z1, .int 0, .int 0, .int 0])), (h1, .inl (k0, 4, .inr (.inr (.inr (.inr (va_up (va_up (va_up (va_up (fun _ => none) 0 (some ge5)) 1 (some ge5)) 2 (some ge5)) 3 (some ge5))))))), (q5, .inl (cq5, 4, .inl (upd (upd (upd (upd (fun _ => 0) 0 0) 1 0) 2 0) 3 0)))] H := hP
  have hD : va_D A [(h0, .inr (9, [.int 0, .ref h1, .ref z0, .ref z1, .int 0, .int 0, .int 0])), (h1, .inl (k0, 4, .inr (.inr (.inr (.inr (va_up (va_up (va_up (va_up (fun _ => none) 0 (some ge5)) 1 (some ge5)) 2 (some ge5)) 3 (some ge5))))))), (q5, .inl (cq5, 4, .inl (upd (upd (upd (upd (fun _ => 0) 0 0) 1 0) 2 0) 3 0)))] := hD
  refine lv_astore_n (lv' := [(3, .ref q5), (5, .int 4), (2, .int 0), (6, .ref ge5), (4, .int 4), (0, .ref h0), (1, .int 2)]) hx hb dX5_houseNow_69 rfl hl (by decide) rfl (fun ls hl => ?_)
  refine lv_aload_n hx hb dX5_houseNow_70 rfl (lv_at hl 0 rfl) ?_
  refine lv_iload_n hx hb dX5_houseNow_71 rfl (lv_at hl 6 rfl) ?_
  refine va_iald (D := (dC, dI)) hx hb hK hP 2 1 rfl rfl (by unfold vp_in; decide) dX5_houseNow_72 ?_
  refine lv_topi (fun y6 ey6 => ?_)
  obtain rfl : y6 = 0 := ey6.trans (by decide)
  exact W.iret (v := 0) hx hb hr (fun t ht hW => ⟨⟨0, (), rfl, rfl, q5, cq5, by rw [ht]; exact hP, va_K.moved hW.alike hK, hD⟩, hS.F ht⟩) hS.2.2 dX5_houseNow_73
set_option maxHeartbeats 4000000 in
set_option maxRecDepth 100000 in
theorem kx_X5_houseNow_7 (l : Launch) (dC : Nat → ClassId) (dI : Nat → Nat → Nat) (ge5 gea gv5 gva gde gic gi0 : Nat) (h0 : Nat) (h1 : Nat) (z0 : Nat) (z1 : Nat) (k0 : ClassId) (sz : Nat) : Met l yX5_houseNow wsX5_houseNow ({ frames := 2, cells := 1, slots := 4, locals := 40 }) (va_Pc [.ref h0, .int 3] (fun U => U.heap.size = sz ∧ va_P (dC, dI) vwCl [(h0, .inr (9, [.int 0, .ref h1, .ref z0, .ref z1, .int 0, .int 0, .int 0])), (h1, .inl (k0, 4, .inr (.inr (.inr (.inr (va_up (va_up (va_up (va_up (fun _ => none) 0 (some ge5)) 1 (some ge5)) 2 (some ge5)) 3 (some ge5)))))))] U.heap ∧ va_K (dC, dI) vwCl [(k0, .object "java/lang/String")] U ∧ va_D (fun _ => True) [(h0, .inr (9, [.int 0, .ref h1, .ref z0, .ref z1, .int 0, .int 0, .int 0])), (h1, .inl (k0, 4, .inr (.inr (.inr (.inr (va_up (va_up (va_up (va_up (fun _ => none) 0 (some ge5)) 1 (some ge5)) 2 (some ge5)) 3 (some ge5)))))))] ∧ gv ge5 gea gv5 gva gde gic gi0 (va_A [(h0, .inr (9, [.int 0, .ref h1, .ref z0, .ref z1, .int 0, .int 0, .int 0])), (h1, .inl (k0, 4, .inr (.inr (.inr (.inr (va_up (va_up (va_up (va_up (fun _ => none) 0 (some ge5)) 1 (some ge5)) 2 (some ge5)) 3 (some ge5)))))))] sz) U U.heap)) (va_Qi (fun (r : Int32) (_ : Unit) => r = 0) (fun (_ : Unit) (t : State) => ∃ q5 : Nat, ∃ cq5 : ClassId, va_P (dC, dI) vwCl [(h0, .inr (9, [.int 0, .ref h1, .ref z0, .ref z1, .int 0, .int 0, .int 0])), (h1, .inl (k0, 4, .inr (.inr (.inr (.inr (va_up (va_up (va_up (va_up (fun _ => none) 0 (some ge5)) 1 (some ge5)) 2 (some ge5)) 3 (some ge5))))))), (q5, .inl (cq5, 4, .inl (upd (upd (upd (upd (fun _ => 0) 0 0) 1 0) 2 0) 3 0)))] t.heap ∧ va_K (dC, dI) vwCl [(k0, .object "java/lang/String"), (cq5, .int)] t ∧ va_D (va_A [(h0, .inr (9, [.int 0, .ref h1, .ref z0, .ref z1, .int 0, .int 0, .int 0])), (h1, .inl (k0, 4, .inr (.inr (.inr (.inr (va_up (va_up (va_up (va_up (fun _ => none) 0 (some ge5)) 1 (some ge5)) 2 (some ge5)) 3 (some ge5)))))))] sz) [(h0, .inr (9, [.int 0, .ref h1, .ref z0, .ref z1, .int 0, .int 0, .int 0])), (h1, .inl (k0, 4, .inr (.inr (.inr (.inr (va_up (va_up (va_up (va_up (fun _ => none) 0 (some ge5)) 1 (some ge5)) 2 (some ge5)) 3 (some ge5))))))), (q5, .inl (cq5, 4, .inl (upd (upd (upd (upd (fun _ => 0) 0 0) 1 0) 2 0) 3 0)))]) (va_A [(h0, .inr (9, [.int 0, .ref h1, .ref z0, .ref z1, .int 0, .int 0, .int 0])), (h1, .inl (k0, 4, .inr (.inr (.inr (.inr (va_up (va_up (va_up (va_up (fun _ => none) 0 (some ge5)) 1 (some ge5)) 2 (some ge5)) 3 (some ge5)))))))] sz)) 1 4 (va_A [(h0, .inr (9, [.int 0, .ref h1, .ref z0, .ref z1, .int 0, .int 0, .int 0])), (h1, .inl (k0, 4, .inr (.inr (.inr (.inr (va_up (va_up (va_up (va_up (fun _ => none) 0 (some ge5)) 1 (some ge5)) 2 (some ge5)) 3 (some ge5)))))))] sz) := by
  refine Met.ofW (cc := cX5_houseNow) (maxL := 7) (ret := (some .int)) (by decide) rfl ?_
  intro p e s m args below meth c s₁ B hml hv
  obtain ⟨rfl, hsz, hP, hK, hD0, hG⟩ := hv
  have hx := B.exec
  have hb := B.bytes
  have hr := B.returns
  have hts := atoms_spec (ws := wsX5_houseNow) B.pre
  have hown : s.vm.findClass RX5 = some m.cls := findClass_of_methodNamed B.named
  have hlocks := B.notSynchronized
  subst hsz
  have hD := hD0.self (sz := s.heap.size)
  generalize hAe : va_A [(h0, .inr (9, [.int 0, .ref h1, .ref z0, .ref z1, .int 0, .int 0, .int 0])), (h1, .inl (k0, 4, .inr (.inr (.inr (.inr (va_up (va_up (va_up (va_up (fun _ => none) 0 (some ge5)) 1 (some ge5)) 2 (some ge5)) 3 (some ge5)))))))] s.heap.size = A at hD hG ⊢
  obtain ⟨⟨g_AO_Text, g_AO_String, g_AO_Object, g_nm_RX1_20, g_nm_RX0_17, g_nm_RX3_31, g_nm_RX2_44, g_nm_RL_121, g_nf_RL_13, g_nf_RL_47, g_ca_IO, g_ca_IA, g_ca_IS, g_ca_IntObj, g_ca_StrObj, g_de_RT, g_de_EX, g_de_TH, g_nc_IA_IO, g_nc_IS_IO, g_nc_IS_IA⟩, ⟨g_s3, g_s5, g_sa, g_x278, g_x280, g_x282, g_x284, g_x286, g_x180, g_x238, g_x250⟩, ⟨g_o5, g_c5, g_v5, g_t5, g_oa, g_ca, g_va, g_ta, g_zc, g_zd, g_td, g_zf, g_zU, g_zN, g_zh, g_zk, g_tk, g_oi, g_vi⟩⟩ := id hG
  have hA : ∀ q : Nat, s.heap.size ≤ q → A q := fun q h => by rw [← hAe]; exact Or.inr h
  have hS : va_S A s.heap s.heap [] := va_S.rf
  have hP : va_P (dC, dI) vwCl [(h0, .inr (9, [.int 0, .ref h1, .ref z0, .ref z1, .int 0, .int 0, .int 0])), (h1, .inl (k0, 4, .inr (.inr (.inr (.inr (va_up (va_up (va_up (va_up (fun _ => none) 0 (some ge5)) 1 (some ge5)) 2 (some ge5)) 3 (some ge5)))))))] s.heap := hP
  have hl := lv_entry ([.ref h0, .int 3]) (n := 7) (Nat.le_of_ble_eq_true rfl)
  rw [lg_entry_eq]
  generalize (lg_sl ([.ref h0, .int 3]) ++ List.replicate (7 - (lg_sl ([.ref h0, .int 3])).length) Slot.unset).toArray = ls at hl ⊢
  have hl : lv_has ls 7 [(0, .ref h0), (1, .int 3)] := hl
  refine lv_iconst (v := 0) hx hb dX5_houseNow_0 (by decide) ?_
  refine lv_istore_n (lv' := [(2, .int 0), (0, .ref h0), (1, .int 3)]) hx hb dX5_houseNow_1 rfl hl (by decide) rfl (fun ls hl => ?_)
  refine lv_aload_n hx hb dX5_houseNow_2 rfl (lv_at hl 1 rfl) ?_
  refine va_get (D := (dC, dI)) (ci := 9) (v := .ref h1) (C := RX5) (T := TX5) (N := 7) hx hb hts (by decide +kernel) hown hK hP 0 rfl rfl 1 (by decide) (hts (.fieldLink RX5 11 "RewriteropeModel" "ropes" "[Ljava/lang/String;") (by decide +kernel)) (fun _ h9 => h9) rfl dX5_houseNow_3 ?_
  refine lv_astore_n (lv' := [(3, .ref h1), (2, .int 0), (0, .ref h0), (1, .int 3)]) hx hb dX5_houseNow_6 rfl hl (by decide) rfl (fun ls hl => ?_)
  refine lv_aload_n hx hb dX5_houseNow_7 rfl (lv_at hl 0 rfl) ?_
  refine va_alen (D := (dC, dI)) (v := 4) hx hb hK hP 1 0 rfl rfl (show Int32.ofNat 4 = 4 from by decide) dX5_houseNow_8 ?_
  refine lv_istore (lv' := [(4, .int 4), (3, .ref h1), (2, .int 0), (0, .ref h0), (1, .int 3)]) hx hb dX5_houseNow_9 hl (by decide) rfl (fun ls hl => ?_)
  refine lv_iconst (v := 0) hx hb dX5_houseNow_11 (by decide) ?_
  refine lv_istore (lv' := [(5, .int 0), (4, .int 4), (3, .ref h1), (2, .int 0), (0, .ref h0), (1, .int 3)]) hx hb dX5_houseNow_12 hl (by decide) rfl (fun ls hl => ?_)
  refine lv_iload hx hb dX5_houseNow_14 (lv_at hl 0 rfl) ?_
  refine lv_iload hx hb dX5_houseNow_16 (lv_at hl 1 rfl) ?_
  refine lv_icmp_ge (tgt := 41) hx hb dX5_houseNow_18 (by decide) (fun c9 => absurd c9 (by decide)) (fun _ => ?_)
  refine lv_aload_n hx hb dX5_houseNow_21 rfl (lv_at hl 2 rfl) ?_
  refine lv_iload hx hb dX5_houseNow_22 (lv_at hl 0 rfl) ?_
  refine va_aldq (D := (dC, dI)) hx hb hK hP 1 0 rfl rfl (by unfold vp_in; decide) dX5_houseNow_24 ?_
  refine W.eq (g2 := F0 m 25 ls [.ref ge5]) rfl ?_
  refine lv_astore (lv' := [(6, .ref ge5), (5, .int 0), (4, .int 4), (3, .ref h1), (2, .int 0), (0, .ref h0), (1, .int 3)]) hx hb dX5_houseNow_25 hl (by decide) rfl (fun ls hl => ?_)
  refine lv_iload_n hx hb dX5_houseNow_27 rfl (lv_at hl 4 rfl) ?_
  refine lv_aload hx hb dX5_houseNow_28 (lv_at hl 0 rfl) ?_
  have hPc := hP.sub (ws' := []) [] rfl
  have hDc := hD.sub (ws' := []) [] (by decide) rfl
  have hKc := hK.sub (tys' := []) [] rfl
  have hFc := va_free (wc := []) hD hS hA [] rfl
  refine va_calli (va_runV (As := []) (rest := [.int 0]) ⟨hx, hb, hml, hown, hts⟩ (kx_J0_length_8abf5_0 l dC dI ge5 gea gv5 gva gde gic gi0 s.heap.size) (cwV 0 hts gX5_houseNow_J0_length_8abf5 rfl rfl rfl (by decide +kernel) ⟨Nat.le_of_ble_eq_true rfl, Nat.le_of_ble_eq_true rfl⟩) ⟨fun a U g mk q => by obtain ⟨q0, q1, qP, qK, qD, qG⟩ := q; exact ⟨q0, q1, qP, va_K.moved (u := U) (U := U.calling g mk a) (Vm.Alike.refl U.vm) qK, qD, gv.fb qG⟩, (by obtain ⟨cell, k1, k2, k3, -⟩ := g_o5.kept hS.2.1; exact ⟨cell, k1, k2, k3⟩), fun U hU hW => ⟨rfl, by rw [hU], by rw [hU]; exact hPc, va_K.moved hW.alike hKc, hDc.weaken (fun _ _ _ _ => trivial), gv.pass hW hU hS hFc hG⟩⟩ rfl rfl hl.1 rfl (lv_room (Nat.le_of_ble_eq_true rfl)) dX5_houseNow_30 ⟨Nat.le_of_ble_eq_true rfl, Nat.le_of_ble_eq_true rfl⟩) hS (fun q _ h => hFc q h) hFc (fun r9 u t H1 locs ht hvm hw hB hz1 hk1 hS => ?_)
  obtain rfl := hw
  obtain ⟨hP1, hK1, hD1⟩ := hB
  rw [ht] at hP1
  have hK1 := va_K.moved hvm.symm hK1
  obtain ⟨hP, hD⟩ := va_join (wr := [(h0, .inr (9, [.int 0, .ref h1, .ref z0, .ref z1, .int 0, .int 0, .int 0])), (h1, .inl (k0, 4, .inr (.inr (.inr (.inr (va_up (va_up (va_up (va_up (fun _ => none) 0 (some ge5)) 1 (some ge5)) 2 (some ge5)) 3 (some ge5)))))))]) (w1 := []) hP hD [] [0, 1] rfl rfl (by decide) (by decide) hk1 hFc hP1 hD1
  generalize H1 = H at hP hS ⊢
  have hP : va_P (dC, dI) vwCl [(h0, .inr (9, [.int 0, .ref h1, .ref z0, .ref z1, .int 0, .int 0, .int 0])), (h1, .inl (k0, 4, .inr (.inr (.inr (.inr (va_up (va_up (va_up (va_up (fun _ => none) 0 (some ge5)) 1 (some ge5)) 2 (some ge5)) 3 (some ge5)))))))] H := hP
  have hD : va_D A [(h0, .inr (9, [.int 0, .ref h1, .ref z0, .ref z1, .int 0, .int 0, .int 0])), (h1, .inl (k0, 4, .inr (.inr (.inr (.inr (va_up (va_up (va_up (va_up (fun _ => none) 0 (some ge5)) 1 (some ge5)) 2 (some ge5)) 3 (some ge5)))))))] := hD
  refine lv_iadd hx hb dX5_houseNow_33 ?_
  refine lv_topi (fun y1 ey1 => ?_)
  obtain rfl : y1 = 0 := ey1.trans (by decide)
  refine lv_istore_n (lv' := [(2, .int 0), (6, .ref ge5), (5, .int 0), (4, .int 4), (3, .ref h1), (0, .ref h0), (1, .int 3)]) hx hb dX5_houseNow_34 rfl hl (by decide) rfl (fun ls hl => ?_)
  refine lv_iinc (v := 1) (lv' := [(5, .int 1), (2, .int 0), (6, .ref ge5), (4, .int 4), (3, .ref h1), (0, .ref h0), (1, .int 3)]) hx hb dX5_houseNow_35 hl (k := 2) rfl (by decide) (by decide) rfl (fun ls hl => ?_)
  refine lv_goto (tgt := 14) hx hb dX5_houseNow_38 (by decide) ?_
  refine lv_iload hx hb dX5_houseNow_14 (lv_at hl 0 rfl) ?_
  refine lv_iload hx hb dX5_houseNow_16 (lv_at hl 3 rfl) ?_
  refine lv_icmp_ge (tgt := 41) hx hb dX5_houseNow_18 (by decide) (fun c9 => absurd c9 (by decide)) (fun _ => ?_)
  refine lv_aload_n hx hb dX5_houseNow_21 rfl (lv_at hl 4 rfl) ?_
  refine lv_iload hx hb dX5_houseNow_22 (lv_at hl 0 rfl) ?_
  refine va_aldq (D := (dC, dI)) hx hb hK hP 1 0 rfl rfl (by unfold vp_in; decide) dX5_houseNow_24 ?_
  refine W.eq (g2 := F0 m 25 ls [.ref ge5]) rfl ?_
  refine lv_astore (lv' := [(6, .ref ge5), (5, .int 1), (2, .int 0), (4, .int 4), (3, .ref h1), (0, .ref h0), (1, .int 3)]) hx hb dX5_houseNow_25 hl (by decide) rfl (fun ls hl => ?_)
  refine lv_iload_n hx hb dX5_houseNow_27 rfl (lv_at hl 2 rfl) ?_
  refine lv_aload hx hb dX5_houseNow_28 (lv_at hl 0 rfl) ?_
  have hPc := hP.sub (ws' := []) [] rfl
  have hDc := hD.sub (ws' := []) [] (by decide) rfl
  have hKc := hK.sub (tys' := []) [] rfl
  have hFc := va_free (wc := []) hD hS hA [] rfl
  refine va_calli (va_runV (As := []) (rest := [.int 0]) ⟨hx, hb, hml, hown, hts⟩ (kx_J0_length_8abf5_0 l dC dI ge5 gea gv5 gva gde gic gi0 H.size) (cwV 0 hts gX5_houseNow_J0_length_8abf5 rfl rfl rfl (by decide +kernel) ⟨Nat.le_of_ble_eq_true rfl, Nat.le_of_ble_eq_true rfl⟩) ⟨fun a U g mk q => by obtain ⟨q0, q1, qP, qK, qD, qG⟩ := q; exact ⟨q0, q1, qP, va_K.moved (u := U) (U := U.calling g mk a) (Vm.Alike.refl U.vm) qK, qD, gv.fb qG⟩, (by obtain ⟨cell, k1, k2, k3, -⟩ := g_o5.kept hS.2.1; exact ⟨cell, k1, k2, k3⟩), fun U hU hW => ⟨rfl, by rw [hU], by rw [hU]; exact hPc, va_K.moved hW.alike hKc, hDc.weaken (fun _ _ _ _ => trivial), gv.pass hW hU hS hFc hG⟩⟩ rfl rfl hl.1 rfl (lv_room (Nat.le_of_ble_eq_true rfl)) dX5_houseNow_30 ⟨Nat.le_of_ble_eq_true rfl, Nat.le_of_ble_eq_true rfl⟩) hS (fun q _ h => hFc q h) hFc (fun r9 u t H1 locs ht hvm hw hB hz1 hk1 hS => ?_)
  obtain rfl := hw
  obtain ⟨hP1, hK1, hD1⟩ := hB
  rw [ht] at hP1
  have hK1 := va_K.moved hvm.symm hK1
  obtain ⟨hP, hD⟩ := va_join (wr := [(h0, .inr (9, [.int 0, .ref h1, .ref z0, .ref z1, .int 0, .int 0, .int 0])), (h1, .inl (k0, 4, .inr (.inr (.inr (.inr (va_up (va_up (va_up (va_up (fun _ => none) 0 (some ge5)) 1 (some ge5)) 2 (some ge5)) 3 (some ge5)))))))]) (w1 := []) hP hD [] [0, 1] rfl rfl (by decide) (by decide) hk1 hFc hP1 hD1
  generalize H1 = H at hP hS ⊢
  have hP : va_P (dC, dI) vwCl [(h0, .inr (9, [.int 0, .ref h1, .ref z0, .ref z1, .int 0, .int 0, .int 0])), (h1, .inl (k0, 4, .inr (.inr (.inr (.inr (va_up (va_up (va_up (va_up (fun _ => none) 0 (some ge5)) 1 (some ge5)) 2 (some ge5)) 3 (some ge5)))))))] H := hP
  have hD : va_D A [(h0, .inr (9, [.int 0, .ref h1, .ref z0, .ref z1, .int 0, .int 0, .int 0])), (h1, .inl (k0, 4, .inr (.inr (.inr (.inr (va_up (va_up (va_up (va_up (fun _ => none) 0 (some ge5)) 1 (some ge5)) 2 (some ge5)) 3 (some ge5)))))))] := hD
  refine lv_iadd hx hb dX5_houseNow_33 ?_
  refine lv_topi (fun y2 ey2 => ?_)
  obtain rfl : y2 = 0 := ey2.trans (by decide)
  refine lv_istore_n (lv' := [(2, .int 0), (6, .ref ge5), (5, .int 1), (4, .int 4), (3, .ref h1), (0, .ref h0), (1, .int 3)]) hx hb dX5_houseNow_34 rfl hl (by decide) rfl (fun ls hl => ?_)
  refine lv_iinc (v := 2) (lv' := [(5, .int 2), (2, .int 0), (6, .ref ge5), (4, .int 4), (3, .ref h1), (0, .ref h0), (1, .int 3)]) hx hb dX5_houseNow_35 hl (k := 2) rfl (by decide) (by decide) rfl (fun ls hl => ?_)
  refine lv_goto (tgt := 14) hx hb dX5_houseNow_38 (by decide) ?_
  refine lv_iload hx hb dX5_houseNow_14 (lv_at hl 0 rfl) ?_
  refine lv_iload hx hb dX5_houseNow_16 (lv_at hl 3 rfl) ?_
  refine lv_icmp_ge (tgt := 41) hx hb dX5_houseNow_18 (by decide) (fun c9 => absurd c9 (by decide)) (fun _ => ?_)
  refine lv_aload_n hx hb dX5_houseNow_21 rfl (lv_at hl 4 rfl) ?_
  refine lv_iload hx hb dX5_houseNow_22 (lv_at hl 0 rfl) ?_
  refine va_aldq (D := (dC, dI)) hx hb hK hP 1 0 rfl rfl (by unfold vp_in; decide) dX5_houseNow_24 ?_
  refine W.eq (g2 := F0 m 25 ls [.ref ge5]) rfl ?_
  refine lv_astore (lv' := [(6, .ref ge5), (5, .int 2), (2, .int 0), (4, .int 4), (3, .ref h1), (0, .ref h0), (1, .int 3)]) hx hb dX5_houseNow_25 hl (by decide) rfl (fun ls hl => ?_)
  refine lv_iload_n hx hb dX5_houseNow_27 rfl (lv_at hl 2 rfl) ?_
  refine lv_aload hx hb dX5_houseNow_28 (lv_at hl 0 rfl) ?_
  have hPc := hP.sub (ws' := []) [] rfl
  have hDc := hD.sub (ws' := []) [] (by decide) rfl
  have hKc := hK.sub (tys' := []) [] rfl
  have hFc := va_free (wc := []) hD hS hA [] rfl
  refine va_calli (va_runV (As := []) (rest := [.int 0]) ⟨hx, hb, hml, hown, hts⟩ (kx_J0_length_8abf5_0 l dC dI ge5 gea gv5 gva gde gic gi0 H.size) (cwV 0 hts gX5_houseNow_J0_length_8abf5 rfl rfl rfl (by decide +kernel) ⟨Nat.le_of_ble_eq_true rfl, Nat.le_of_ble_eq_true rfl⟩) ⟨fun a U g mk q => by obtain ⟨q0, q1, qP, qK, qD, qG⟩ := q; exact ⟨q0, q1, qP, va_K.moved (u := U) (U := U.calling g mk a) (Vm.Alike.refl U.vm) qK, qD, gv.fb qG⟩, (by obtain ⟨cell, k1, k2, k3, -⟩ := g_o5.kept hS.2.1; exact ⟨cell, k1, k2, k3⟩), fun U hU hW => ⟨rfl, by rw [hU], by rw [hU]; exact hPc, va_K.moved hW.alike hKc, hDc.weaken (fun _ _ _ _ => trivial), gv.pass hW hU hS hFc hG⟩⟩ rfl rfl hl.1 rfl (lv_room (Nat.le_of_ble_eq_true rfl)) dX5_houseNow_30 ⟨Nat.le_of_ble_eq_true rfl, Nat.le_of_ble_eq_true rfl⟩) hS (fun q _ h => hFc q h) hFc (fun r9 u t H1 locs ht hvm hw hB hz1 hk1 hS => ?_)
  obtain rfl := hw
  obtain ⟨hP1, hK1, hD1⟩ := hB
  rw [ht] at hP1
  have hK1 := va_K.moved hvm.symm hK1
  obtain ⟨hP, hD⟩ := va_join (wr := [(h0, .inr (9, [.int 0, .ref h1, .ref z0, .ref z1, .int 0, .int 0, .int 0])), (h1, .inl (k0, 4, .inr (.inr (.inr (.inr (va_up (va_up (va_up (va_up (fun _ => none) 0 (some ge5)) 1 (some ge5)) 2 (some ge5)) 3 (some ge5)))))))]) (w1 := []) hP hD [] [0, 1] rfl rfl (by decide) (by decide) hk1 hFc hP1 hD1
  generalize H1 = H at hP hS ⊢
  have hP : va_P (dC, dI) vwCl [(h0, .inr (9, [.int 0, .ref h1, .ref z0, .ref z1, .int 0, .int 0, .int 0])), (h1, .inl (k0, 4, .inr (.inr (.inr (.inr (va_up (va_up (va_up (va_up (fun _ => none) 0 (some ge5)) 1 (some ge5)) 2 (some ge5)) 3 (some ge5)))))))] H := hP
  have hD : va_D A [(h0, .inr (9, [.int 0, .ref h1, .ref z0, .ref z1, .int 0, .int 0, .int 0])), (h1, .inl (k0, 4, .inr (.inr (.inr (.inr (va_up (va_up (va_up (va_up (fun _ => none) 0 (some ge5)) 1 (some ge5)) 2 (some ge5)) 3 (some ge5)))))))] := hD
  refine lv_iadd hx hb dX5_houseNow_33 ?_
  refine lv_topi (fun y3 ey3 => ?_)
  obtain rfl : y3 = 0 := ey3.trans (by decide)
  refine lv_istore_n (lv' := [(2, .int 0), (6, .ref ge5), (5, .int 2), (4, .int 4), (3, .ref h1), (0, .ref h0), (1, .int 3)]) hx hb dX5_houseNow_34 rfl hl (by decide) rfl (fun ls hl => ?_)
  refine lv_iinc (v := 3) (lv' := [(5, .int 3), (2, .int 0), (6, .ref ge5), (4, .int 4), (3, .ref h1), (0, .ref h0), (1, .int 3)]) hx hb dX5_houseNow_35 hl (k := 2) rfl (by decide) (by decide) rfl (fun ls hl => ?_)
  refine lv_goto (tgt := 14) hx hb dX5_houseNow_38 (by decide) ?_
  refine lv_iload hx hb dX5_houseNow_14 (lv_at hl 0 rfl) ?_
  refine lv_iload hx hb dX5_houseNow_16 (lv_at hl 3 rfl) ?_
  refine lv_icmp_ge (tgt := 41) hx hb dX5_houseNow_18 (by decide) (fun c9 => absurd c9 (by decide)) (fun _ => ?_)
  refine lv_aload_n hx hb dX5_houseNow_21 rfl (lv_at hl 4 rfl) ?_
  refine lv_iload hx hb dX5_houseNow_22 (lv_at hl 0 rfl) ?_
  refine va_aldq (D := (dC, dI)) hx hb hK hP 1 0 rfl rfl (by unfold vp_in; decide) dX5_houseNow_24 ?_
  refine W.eq (g2 := F0 m 25 ls [.ref ge5]) rfl ?_
  refine lv_astore (lv' := [(6, .ref ge5), (5, .int 3), (2, .int 0), (4, .int 4), (3, .ref h1), (0, .ref h0), (1, .int 3)]) hx hb dX5_houseNow_25 hl (by decide) rfl (fun ls hl => ?_)
  refine lv_iload_n hx hb dX5_houseNow_27 rfl (lv_at hl 2 rfl) ?_
  refine lv_aload hx hb dX5_houseNow_28 (lv_at hl 0 rfl) ?_
  have hPc := hP.sub (ws' := []) [] rfl
  have hDc := hD.sub (ws' := []) [] (by decide) rfl
  have hKc := hK.sub (tys' := []) [] rfl
  have hFc := va_free (wc := []) hD hS hA [] rfl
  refine va_calli (va_runV (As := []) (rest := [.int 0]) ⟨hx, hb, hml, hown, hts⟩ (kx_J0_length_8abf5_0 l dC dI ge5 gea gv5 gva gde gic gi0 H.size) (cwV 0 hts gX5_houseNow_J0_length_8abf5 rfl rfl rfl (by decide +kernel) ⟨Nat.le_of_ble_eq_true rfl, Nat.le_of_ble_eq_true rfl⟩) ⟨fun a U g mk q => by obtain ⟨q0, q1, qP, qK, qD, qG⟩ := q; exact ⟨q0, q1, qP, va_K.moved (u := U) (U := U.calling g mk a) (Vm.Alike.refl U.vm) qK, qD, gv.fb qG⟩, (by obtain ⟨cell, k1, k2, k3, -⟩ := g_o5.kept hS.2.1; exact ⟨cell, k1, k2, k3⟩), fun U hU hW => ⟨rfl, by rw [hU], by rw [hU]; exact hPc, va_K.moved hW.alike hKc, hDc.weaken (fun _ _ _ _ => trivial), gv.pass hW hU hS hFc hG⟩⟩ rfl rfl hl.1 rfl (lv_room (Nat.le_of_ble_eq_true rfl)) dX5_houseNow_30 ⟨Nat.le_of_ble_eq_true rfl, Nat.le_of_ble_eq_true rfl⟩) hS (fun q _ h => hFc q h) hFc (fun r9 u t H1 locs ht hvm hw hB hz1 hk1 hS => ?_)
  obtain rfl := hw
  obtain ⟨hP1, hK1, hD1⟩ := hB
  rw [ht] at hP1
  have hK1 := va_K.moved hvm.symm hK1
  obtain ⟨hP, hD⟩ := va_join (wr := [(h0, .inr (9, [.int 0, .ref h1, .ref z0, .ref z1, .int 0, .int 0, .int 0])), (h1, .inl (k0, 4, .inr (.inr (.inr (.inr (va_up (va_up (va_up (va_up (fun _ => none) 0 (some ge5)) 1 (some ge5)) 2 (some ge5)) 3 (some ge5)))))))]) (w1 := []) hP hD [] [0, 1] rfl rfl (by decide) (by decide) hk1 hFc hP1 hD1
  generalize H1 = H at hP hS ⊢
  have hP : va_P (dC, dI) vwCl [(h0, .inr (9, [.int 0, .ref h1, .ref z0, .ref z1, .int 0, .int 0, .int 0])), (h1, .inl (k0, 4, .inr (.inr (.inr (.inr (va_up (va_up (va_up (va_up (fun _ => none) 0 (some ge5)) 1 (some ge5)) 2 (some ge5)) 3 (some ge5)))))))] H := hP
  have hD : va_D A [(h0, .inr (9, [.int 0, .ref h1, .ref z0, .ref z1, .int 0, .int 0, .int 0])), (h1, .inl (k0, 4, .inr (.inr (.inr (.inr (va_up (va_up (va_up (va_up (fun _ => none) 0 (some ge5)) 1 (some ge5)) 2 (some ge5)) 3 (some ge5)))))))] := hD
  refine lv_iadd hx hb dX5_houseNow_33 ?_
  refine lv_topi (fun y4 ey4 => ?_)
  obtain rfl : y4 = 0 := ey4.trans (by decide)
  refine lv_istore_n (lv' := [(2, .int 0), (6, .ref ge5), (5, .int 3), (4, .int 4), (3, .ref h1), (0, .ref h0), (1, .int 3)]) hx hb dX5_houseNow_34 rfl hl (by decide) rfl (fun ls hl => ?_)
  refine lv_iinc (v := 4) (lv' := [(5, .int 4), (2, .int 0), (6, .ref ge5), (4, .int 4), (3, .ref h1), (0, .ref h0), (1, .int 3)]) hx hb dX5_houseNow_35 hl (k := 2) rfl (by decide) (by decide) rfl (fun ls hl => ?_)
  refine lv_goto (tgt := 14) hx hb dX5_houseNow_38 (by decide) ?_
  refine lv_iload hx hb dX5_houseNow_14 (lv_at hl 0 rfl) ?_
  refine lv_iload hx hb dX5_houseNow_16 (lv_at hl 3 rfl) ?_
  refine lv_icmp_ge (tgt := 41) hx hb dX5_houseNow_18 (by decide) (fun _ => ?_) (fun c9 => absurd (by decide) c9)
  refine lv_iconst (v := 4) hx hb dX5_houseNow_41 (by decide) ?_
  refine va_newa (D := (dC, dI)) (atype := .int) (ty := .int) (a0 := (4, .inl (fun _ => 0))) (n := 4) (N' := 4) hx hb (hts (.arrayClass .int) (by decide +kernel)) rfl hK hP hD hS hA (fun _ => rfl) (by decide) (by decide) (Nat.le_of_ble_eq_true rfl) (Nat.le_of_ble_eq_true rfl) (Nat.le_of_ble_eq_true rfl) dX5_houseNow_42 (fun q5 cq5 H hK hP hD hS => ?_)
  have hK : va_K (dC, dI) vwCl [(k0, .object "java/lang/String"), (cq5, .int)] s := hK
  have hP : va_P (dC, dI) vwCl [(h0, .inr (9, [.int 0, .ref h1, .ref z0, .ref z1, .int 0, .int 0, .int 0])), (h1, .inl (k0, 4, .inr (.inr (.inr (.inr (va_up (va_up (va_up (va_up (fun _ => none) 0 (some ge5)) 1 (some ge5)) 2 (some ge5)) 3 (some ge5))))))), (q5, .inl (cq5, 4, .inl (fun _ => 0)))] H := hP
  have hD : va_D A [(h0, .inr (9, [.int 0, .ref h1, .ref z0, .ref z1, .int 0, .int 0, .int 0])), (h1, .inl (k0, 4, .inr (.inr (.inr (.inr (va_up (va_up (va_up (va_up (fun _ => none) 0 (some ge5)) 1 (some ge5)) 2 (some ge5)) 3 (some ge5))))))), (q5, .inl (cq5, 4, .inl (fun _ => 0)))] := hD
  refine W.widen (k := 1) (n := 4) (by omega) (by omega) ?_
  refine lv_dup hx hb dX5_houseNow_44 rfl ?_
  refine lv_iconst (v := 0) hx hb dX5_houseNow_45 (by decide) ?_
  refine lv_aload_n hx hb dX5_houseNow_46 rfl (lv_at hl 5 rfl) ?_
  refine va_get (D := (dC, dI)) (ci := 9) (v := .int 0) (C := RX5) (T := TX5) (N := 7) hx hb hts (by decide +kernel) hown hK hP 0 rfl rfl 4 (by decide) (hts (.fieldLink RX5 39 "RewriteropeModel" "refused" "I") (by decide +kernel)) (fun _ h9 => h9) rfl dX5_houseNow_47 ?_
  refine va_iast (D := (dC, dI)) hx hb hK hP hD hS 2 1 rfl rfl (by unfold vp_in; decide) dX5_houseNow_50 (fun H locs hP hD hS => ?_)
  have hP : va_P (dC, dI) vwCl [(h0, .inr (9, [.int 0, .ref h1, .ref z0, .ref z1, .int 0, .int 0, .int 0])), (h1, .inl (k0, 4, .inr (.inr (.inr (.inr (va_up (va_up (va_up (va_up (fun _ => none) 0 (some ge5)) 1 (some ge5)) 2 (some ge5)) 3 (some ge5))))))), (q5, .inl (cq5, 4, .inl (upd (fun _ => 0) 0 0)))] H := hP
  have hD : va_D A [(h0, .inr (9, [.int 0, .ref h1, .ref z0, .ref z1, .int 0, .int 0, .int 0])), (h1, .inl (k0, 4, .inr (.inr (.inr (.inr (va_up (va_up (va_up (va_up (fun _ => none) 0 (some ge5)) 1 (some ge5)) 2 (some ge5)) 3 (some ge5))))))), (q5, .inl (cq5, 4, .inl (upd (fun _ => 0) 0 0)))] := hD
  refine lv_dup hx hb dX5_houseNow_51 rfl ?_
  refine lv_iconst (v := 1) hx hb dX5_houseNow_52 (by decide) ?_
  refine lv_aload_n hx hb dX5_houseNow_53 rfl (lv_at hl 5 rfl) ?_
  refine va_get (D := (dC, dI)) (ci := 9) (v := .int 0) (C := RX5) (T := TX5) (N := 7) hx hb hts (by decide +kernel) hown hK hP 0 rfl rfl 5 (by decide) (hts (.fieldLink RX5 205 "RewriteropeModel" "knocks" "I") (by decide +kernel)) (fun _ h9 => h9) rfl dX5_houseNow_54 ?_
  refine va_iast (D := (dC, dI)) hx hb hK hP hD hS 2 1 rfl rfl (by unfold vp_in; decide) dX5_houseNow_57 (fun H locs hP hD hS => ?_)
  have hP : va_P (dC, dI) vwCl [(h0, .inr (9, [.int 0, .ref h1, .ref z0, .ref z1, .int 0, .int 0, .int 0])), (h1, .inl (k0, 4, .inr (.inr (.inr (.inr (va_up (va_up (va_up (va_up (fun _ => none) 0 (some ge5)) 1 (some ge5)) 2 (some ge5)) 3 (some ge5))))))), (q5, .inl (cq5, 4, .inl (upd (upd (fun _ => 0) 0 0) 1 0)))] H := hP
  have hD : va_D A [(h0, .inr (9, [.int 0, .ref h1, .ref z0, .ref z1, .int 0, .int 0, .int 0])), (h1, .inl (k0, 4, .inr (.inr (.inr (.inr (va_up (va_up (va_up (va_up (fun _ => none) 0 (some ge5)) 1 (some ge5)) 2 (some ge5)) 3 (some ge5))))))), (q5, .inl (cq5, 4, .inl (upd (upd (fun _ => 0) 0 0) 1 0)))] := hD
  refine lv_dup hx hb dX5_houseNow_58 rfl ?_
  refine lv_iconst (v := 2) hx hb dX5_houseNow_59 (by decide) ?_
  refine lv_iload_n hx hb dX5_houseNow_60 rfl (lv_at hl 1 rfl) ?_
  refine va_iast (D := (dC, dI)) hx hb hK hP hD hS 2 1 rfl rfl (by unfold vp_in; decide) dX5_houseNow_61 (fun H locs hP hD hS => ?_)
  have hP : va_P (dC, dI) vwCl [(h0, .inr (9, [.int 0, .ref h1, .ref z0, .ref z1, .int 0, .int 0, .int 0])), (h1, .inl (k0, 4, .inr (.inr (.inr (.inr (va_up (va_up (va_up (va_up (fun _ => none) 0 (some ge5)) 1 (some ge5)) 2 (some ge5)) 3 (some ge5))))))), (q5, .inl (cq5, 4, .inl (upd (upd (upd (fun _ => 0) 0 0) 1 0) 2 0)))] H := hP
  have hD : va_D A [(h0, .inr (9, [.int 0, .ref h1, .ref z0, .ref z1, .int 0, .int 0, .int 0])), (h1, .inl (k0, 4, .inr (.inr (.inr (.inr (va_up (va_up (va_up (va_up (fun _ => none) 0 (some ge5)) 1 (some ge5)) 2 (some ge5)) 3 (some ge5))))))), (q5, .inl (cq5, 4, .inl (upd (upd (upd (fun _ => 0) 0 0) 1 0) 2 0)))] := hD
  refine lv_dup hx hb dX5_houseNow_62 rfl ?_
  refine lv_iconst (v := 3) hx hb dX5_houseNow_63 (by decide) ?_
  refine lv_aload_n hx hb dX5_houseNow_64 rfl (lv_at hl 5 rfl) ?_
  refine va_get (D := (dC, dI)) (ci := 9) (v := .int 0) (C := RX5) (T := TX5) (N := 7) hx hb hts (by decide +kernel) hown hK hP 0 rfl rfl 6 (by decide) (hts (.fieldLink RX5 177 "RewriteropeModel" "steps" "I") (by decide +kernel)) (fun _ h9 => h9) rfl dX5_houseNow_65 ?_
  refine va_iast (D := (dC, dI)) hx hb hK hP hD hS 2 1 rfl rfl (by unfold vp_in; decide) dX5_houseNow_68 (fun H locs hP hD hS => ?_)
  have hP : va_P (dC, dI) vwCl [(h0, .inr (9, [.int 0, .ref h1, .ref z0, .ref z1, .int 0, .int 0, .int 0])), (h1, .inl (k0, 4, .inr (.inr (.inr (.inr (va_up (va_up (va_up (va_up (fun _ => none) 0 (some ge5)) 1 (some ge5)) 2 (some ge5)) 3 (some ge5))))))), (q5, .inl (cq5, 4, .inl (upd (upd (upd (upd (fun _ => 0) 0 0) 1 0) 2 0) 3 0)))] H := hP
  have hD : va_D A [(h0, .inr (9, [.int 0, .ref h1, .ref z0, .ref z1, .int 0, .int 0, .int 0])), (h1, .inl (k0, 4, .inr (.inr (.inr (.inr (va_up (va_up (va_up (va_up (fun _ => none) 0 (some ge5)) 1 (some ge5)) 2 (some ge5)) 3 (some ge5))))))), (q5, .inl (cq5, 4, .inl (upd (upd (upd (upd (fun _ => 0) 0 0) 1 0) 2 0) 3 0)))] := hD
  refine lv_astore_n (lv' := [(3, .ref q5), (5, .int 4), (2, .int 0), (6, .ref ge5), (4, .int 4), (0, .ref h0), (1, .int 3)]) hx hb dX5_houseNow_69 rfl hl (by decide) rfl (fun ls hl => ?_)
  refine lv_aload_n hx hb dX5_houseNow_70 rfl (lv_at hl 0 rfl) ?_
  refine lv_iload_n hx hb dX5_houseNow_71 rfl (lv_at hl 6 rfl) ?_
  refine va_iald (D := (dC, dI)) hx hb hK hP 2 1 rfl rfl (by unfold vp_in; decide) dX5_houseNow_72 ?_
  refine lv_topi (fun y6 ey6 => ?_)
  obtain rfl : y6 = 0 := ey6.trans (by decide)
  exact W.iret (v := 0) hx hb hr (fun t ht hW => ⟨⟨0, (), rfl, rfl, q5, cq5, by rw [ht]; exact hP, va_K.moved hW.alike hK, hD⟩, hS.F ht⟩) hS.2.2 dX5_houseNow_73
set_option maxHeartbeats 4000000 in
set_option maxRecDepth 100000 in
theorem kx_X5_add_0 (l : Launch) (dC : Nat → ClassId) (dI : Nat → Nat → Nat) (ge5 gea gv5 gva gde gic gi0 : Nat) (sz : Nat) : Met l yX5_add wsX5_add ({ frames := 2, cells := 0, slots := 0, locals := 40 }) (va_Pc [.long 7246869287, .ref ge5] (fun U => U.heap.size = sz ∧ va_P (dC, dI) vwCl [] U.heap ∧ va_K (dC, dI) vwCl [] U ∧ va_D (fun _ => True) [] ∧ gv ge5 gea gv5 gva gde gic gi0 (va_A [] sz) U U.heap)) (va_Ql (fun (r : Int64) (_ : Unit) => r = 7246869287) (fun (_ : Unit) (t : State) => va_P (dC, dI) vwCl [] t.heap ∧ va_K (dC, dI) vwCl [] t ∧ va_D (va_A [] sz) []) (va_A [] sz)) 0 0 (va_A [] sz) := by
  refine Met.ofW (cc := cX5_add) (maxL := 6) (ret := (some .long)) (by decide) rfl ?_
  intro p e s m args below meth c s₁ B hml hv
  obtain ⟨rfl, hsz, hP, hK, hD0, hG⟩ := hv
  have hx := B.exec
  have hb := B.bytes
  have hr := B.returns
  have hts := atoms_spec (ws := wsX5_add) B.pre
  have hown : s.vm.findClass RX5 = some m.cls := findClass_of_methodNamed B.named
  have hlocks := B.notSynchronized
  subst hsz
  have hD := hD0.self (sz := s.heap.size)
  generalize hAe : va_A [] s.heap.size = A at hD hG ⊢
  obtain ⟨⟨g_AO_Text, g_AO_String, g_AO_Object, g_nm_RX1_20, g_nm_RX0_17, g_nm_RX3_31, g_nm_RX2_44, g_nm_RL_121, g_nf_RL_13, g_nf_RL_47, g_ca_IO, g_ca_IA, g_ca_IS, g_ca_IntObj, g_ca_StrObj, g_de_RT, g_de_EX, g_de_TH, g_nc_IA_IO, g_nc_IS_IO, g_nc_IS_IA⟩, ⟨g_s3, g_s5, g_sa, g_x278, g_x280, g_x282, g_x284, g_x286, g_x180, g_x238, g_x250⟩, ⟨g_o5, g_c5, g_v5, g_t5, g_oa, g_ca, g_va, g_ta, g_zc, g_zd, g_td, g_zf, g_zU, g_zN, g_zh, g_zk, g_tk, g_oi, g_vi⟩⟩ := id hG
  have hA : ∀ q : Nat, s.heap.size ≤ q → A q := fun q h => by rw [← hAe]; exact Or.inr h
  have hS : va_S A s.heap s.heap [] := va_S.rf
  have hP : va_P (dC, dI) vwCl [] s.heap := hP
  have hl := lv_entry ([.long 7246869287, .ref ge5]) (n := 6) (Nat.le_of_ble_eq_true rfl)
  rw [lg_entry_eq]
  generalize (lg_sl ([.long 7246869287, .ref ge5]) ++ List.replicate (6 - (lg_sl ([.long 7246869287, .ref ge5])).length) Slot.unset).toArray = ls at hl ⊢
  have hl : lv_has ls 6 [(0, .long 7246869287), (2, .ref ge5)] := hl
  refine lv_lload_n hx hb dX5_add_0 rfl (lv_at hl 0 rfl) ?_
  refine lv_lstore_n (lv' := [(3, .long 7246869287), (0, .long 7246869287), (2, .ref ge5)]) hx hb dX5_add_1 rfl hl (by decide) rfl (fun ls hl => ?_)
  refine lv_iconst (v := 0) hx hb dX5_add_2 (by decide) ?_
  refine lv_istore (lv' := [(5, .int 0), (3, .long 7246869287), (0, .long 7246869287), (2, .ref ge5)]) hx hb dX5_add_3 hl (by decide) rfl (fun ls hl => ?_)
  refine lv_iload hx hb dX5_add_5 (lv_at hl 0 rfl) ?_
  refine lv_aload_n hx hb dX5_add_7 rfl (lv_at hl 3 rfl) ?_
  have hPc := hP.sub (ws' := []) [] rfl
  have hDc := hD.sub (ws' := []) [] (by decide) rfl
  have hKc := hK.sub (tys' := []) [] rfl
  have hFc := va_free (wc := []) hD hS hA [] rfl
  refine va_calli (va_runV (As := []) (rest := [.int 0]) ⟨hx, hb, hml, hown, hts⟩ (kx_J0_length_8abf5_0 l dC dI ge5 gea gv5 gva gde gic gi0 s.heap.size) (cwV 0 hts gX5_add_J0_length_8abf5 rfl rfl rfl (by decide +kernel) ⟨Nat.le_of_ble_eq_true rfl, Nat.le_of_ble_eq_true rfl⟩) ⟨fun a U g mk q => by obtain ⟨q0, q1, qP, qK, qD, qG⟩ := q; exact ⟨q0, q1, qP, va_K.moved (u := U) (U := U.calling g mk a) (Vm.Alike.refl U.vm) qK, qD, gv.fb qG⟩, (by obtain ⟨cell, k1, k2, k3, -⟩ := g_o5.kept hS.2.1; exact ⟨cell, k1, k2, k3⟩), fun U hU hW => ⟨rfl, by rw [hU], by rw [hU]; exact hPc, va_K.moved hW.alike hKc, hDc.weaken (fun _ _ _ _ => trivial), gv.pass hW hU hS hFc hG⟩⟩ rfl rfl hl.1 rfl (lv_room (Nat.le_of_ble_eq_true rfl)) dX5_add_8 ⟨Nat.le_of_ble_eq_true rfl, Nat.le_of_ble_eq_true rfl⟩) hS (fun q _ h => hFc q h) hFc (fun r9 u t H1 locs ht hvm hw hB hz1 hk1 hS => ?_)
  obtain rfl := hw
  obtain ⟨hP1, hK1, hD1⟩ := hB
  rw [ht] at hP1
  have hK1 := va_K.moved hvm.symm hK1
  obtain ⟨hP, hD⟩ := va_join (wr := []) (w1 := []) hP hD [] [] rfl rfl (by decide) (by decide) hk1 hFc hP1 hD1
  generalize H1 = H at hP hS ⊢
  have hP : va_P (dC, dI) vwCl [] H := hP
  have hD : va_D A [] := hD
  refine lv_icmp_ge (tgt := 34) hx hb dX5_add_11 (by decide) (fun _ => ?_) (fun c9 => absurd (by decide) c9)
  refine lv_lload_n hx hb dX5_add_34 rfl (lv_at hl 1 rfl) ?_
  exact W.lret (v := 7246869287) hx hb hr (fun t ht hW => ⟨⟨7246869287, (), rfl, rfl, by rw [ht]; exact hP, va_K.moved hW.alike hK, hD⟩, hS.F ht⟩) hS.2.2 dX5_add_35
set_option maxHeartbeats 4000000 in
set_option maxRecDepth 100000 in
theorem kx_X5_add_1 (l : Launch) (dC : Nat → ClassId) (dI : Nat → Nat → Nat) (ge5 gea gv5 gva gde gic gi0 : Nat) (sz : Nat) : Met l yX5_add wsX5_add ({ frames := 2, cells := 0, slots := 0, locals := 40 }) (va_Pc [.long 224652947897, .ref ge5] (fun U => U.heap.size = sz ∧ va_P (dC, dI) vwCl [] U.heap ∧ va_K (dC, dI) vwCl [] U ∧ va_D (fun _ => True) [] ∧ gv ge5 gea gv5 gva gde gic gi0 (va_A [] sz) U U.heap)) (va_Ql (fun (r : Int64) (_ : Unit) => r = 224652947897) (fun (_ : Unit) (t : State) => va_P (dC, dI) vwCl [] t.heap ∧ va_K (dC, dI) vwCl [] t ∧ va_D (va_A [] sz) []) (va_A [] sz)) 0 0 (va_A [] sz) := by
  refine Met.ofW (cc := cX5_add) (maxL := 6) (ret := (some .long)) (by decide) rfl ?_
  intro p e s m args below meth c s₁ B hml hv
  obtain ⟨rfl, hsz, hP, hK, hD0, hG⟩ := hv
  have hx := B.exec
  have hb := B.bytes
  have hr := B.returns
  have hts := atoms_spec (ws := wsX5_add) B.pre
  have hown : s.vm.findClass RX5 = some m.cls := findClass_of_methodNamed B.named
  have hlocks := B.notSynchronized
  subst hsz
  have hD := hD0.self (sz := s.heap.size)
  generalize hAe : va_A [] s.heap.size = A at hD hG ⊢
  obtain ⟨⟨g_AO_Text, g_AO_String, g_AO_Object, g_nm_RX1_20, g_nm_RX0_17, g_nm_RX3_31, g_nm_RX2_44, g_nm_RL_121, g_nf_RL_13, g_nf_RL_47, g_ca_IO, g_ca_IA, g_ca_IS, g_ca_IntObj, g_ca_StrObj, g_de_RT, g_de_EX, g_de_TH, g_nc_IA_IO, g_nc_IS_IO, g_nc_IS_IA⟩, ⟨g_s3, g_s5, g_sa, g_x278, g_x280, g_x282, g_x284, g_x286, g_x180, g_x238, g_x250⟩, ⟨g_o5, g_c5, g_v5, g_t5, g_oa, g_ca, g_va, g_ta, g_zc, g_zd, g_td, g_zf, g_zU, g_zN, g_zh, g_zk, g_tk, g_oi, g_vi⟩⟩ := id hG
  have hA : ∀ q : Nat, s.heap.size ≤ q → A q := fun q h => by rw [← hAe]; exact Or.inr h
  have hS : va_S A s.heap s.heap [] := va_S.rf
  have hP : va_P (dC, dI) vwCl [] s.heap := hP
  have hl := lv_entry ([.long 224652947897, .ref ge5]) (n := 6) (Nat.le_of_ble_eq_true rfl)
  rw [lg_entry_eq]
  generalize (lg_sl ([.long 224652947897, .ref ge5]) ++ List.replicate (6 - (lg_sl ([.long 224652947897, .ref ge5])).length) Slot.unset).toArray = ls at hl ⊢
  have hl : lv_has ls 6 [(0, .long 224652947897), (2, .ref ge5)] := hl
  refine lv_lload_n hx hb dX5_add_0 rfl (lv_at hl 0 rfl) ?_
  refine lv_lstore_n (lv' := [(3, .long 224652947897), (0, .long 224652947897), (2, .ref ge5)]) hx hb dX5_add_1 rfl hl (by decide) rfl (fun ls hl => ?_)
  refine lv_iconst (v := 0) hx hb dX5_add_2 (by decide) ?_
  refine lv_istore (lv' := [(5, .int 0), (3, .long 224652947897), (0, .long 224652947897), (2, .ref ge5)]) hx hb dX5_add_3 hl (by decide) rfl (fun ls hl => ?_)
  refine lv_iload hx hb dX5_add_5 (lv_at hl 0 rfl) ?_
  refine lv_aload_n hx hb dX5_add_7 rfl (lv_at hl 3 rfl) ?_
  have hPc := hP.sub (ws' := []) [] rfl
  have hDc := hD.sub (ws' := []) [] (by decide) rfl
  have hKc := hK.sub (tys' := []) [] rfl
  have hFc := va_free (wc := []) hD hS hA [] rfl
  refine va_calli (va_runV (As := []) (rest := [.int 0]) ⟨hx, hb, hml, hown, hts⟩ (kx_J0_length_8abf5_0 l dC dI ge5 gea gv5 gva gde gic gi0 s.heap.size) (cwV 0 hts gX5_add_J0_length_8abf5 rfl rfl rfl (by decide +kernel) ⟨Nat.le_of_ble_eq_true rfl, Nat.le_of_ble_eq_true rfl⟩) ⟨fun a U g mk q => by obtain ⟨q0, q1, qP, qK, qD, qG⟩ := q; exact ⟨q0, q1, qP, va_K.moved (u := U) (U := U.calling g mk a) (Vm.Alike.refl U.vm) qK, qD, gv.fb qG⟩, (by obtain ⟨cell, k1, k2, k3, -⟩ := g_o5.kept hS.2.1; exact ⟨cell, k1, k2, k3⟩), fun U hU hW => ⟨rfl, by rw [hU], by rw [hU]; exact hPc, va_K.moved hW.alike hKc, hDc.weaken (fun _ _ _ _ => trivial), gv.pass hW hU hS hFc hG⟩⟩ rfl rfl hl.1 rfl (lv_room (Nat.le_of_ble_eq_true rfl)) dX5_add_8 ⟨Nat.le_of_ble_eq_true rfl, Nat.le_of_ble_eq_true rfl⟩) hS (fun q _ h => hFc q h) hFc (fun r9 u t H1 locs ht hvm hw hB hz1 hk1 hS => ?_)
  obtain rfl := hw
  obtain ⟨hP1, hK1, hD1⟩ := hB
  rw [ht] at hP1
  have hK1 := va_K.moved hvm.symm hK1
  obtain ⟨hP, hD⟩ := va_join (wr := []) (w1 := []) hP hD [] [] rfl rfl (by decide) (by decide) hk1 hFc hP1 hD1
  generalize H1 = H at hP hS ⊢
  have hP : va_P (dC, dI) vwCl [] H := hP
  have hD : va_D A [] := hD
  refine lv_icmp_ge (tgt := 34) hx hb dX5_add_11 (by decide) (fun _ => ?_) (fun c9 => absurd (by decide) c9)
  refine lv_lload_n hx hb dX5_add_34 rfl (lv_at hl 1 rfl) ?_
  exact W.lret (v := 224652947897) hx hb hr (fun t ht hW => ⟨⟨224652947897, (), rfl, rfl, by rw [ht]; exact hP, va_K.moved hW.alike hK, hD⟩, hS.F ht⟩) hS.2.2 dX5_add_35
set_option maxHeartbeats 4000000 in
set_option maxRecDepth 100000 in
theorem kx_X5_add_2 (l : Launch) (dC : Nat → ClassId) (dI : Nat → Nat → Nat) (ge5 gea gv5 gva gde gic gi0 : Nat) (sz : Nat) : Met l yX5_add wsX5_add ({ frames := 2, cells := 0, slots := 0, locals := 40 }) (va_Pc [.long 6964241384807, .ref ge5] (fun U => U.heap.size = sz ∧ va_P (dC, dI) vwCl [] U.heap ∧ va_K (dC, dI) vwCl [] U ∧ va_D (fun _ => True) [] ∧ gv ge5 gea gv5 gva gde gic gi0 (va_A [] sz) U U.heap)) (va_Ql (fun (r : Int64) (_ : Unit) => r = 6964241384807) (fun (_ : Unit) (t : State) => va_P (dC, dI) vwCl [] t.heap ∧ va_K (dC, dI) vwCl [] t ∧ va_D (va_A [] sz) []) (va_A [] sz)) 0 0 (va_A [] sz) := by
  refine Met.ofW (cc := cX5_add) (maxL := 6) (ret := (some .long)) (by decide) rfl ?_
  intro p e s m args below meth c s₁ B hml hv
  obtain ⟨rfl, hsz, hP, hK, hD0, hG⟩ := hv
  have hx := B.exec
  have hb := B.bytes
  have hr := B.returns
  have hts := atoms_spec (ws := wsX5_add) B.pre
  have hown : s.vm.findClass RX5 = some m.cls := findClass_of_methodNamed B.named
  have hlocks := B.notSynchronized
  subst hsz
  have hD := hD0.self (sz := s.heap.size)
  generalize hAe : va_A [] s.heap.size = A at hD hG ⊢
  obtain ⟨⟨g_AO_Text, g_AO_String, g_AO_Object, g_nm_RX1_20, g_nm_RX0_17, g_nm_RX3_31, g_nm_RX2_44, g_nm_RL_121, g_nf_RL_13, g_nf_RL_47, g_ca_IO, g_ca_IA, g_ca_IS, g_ca_IntObj, g_ca_StrObj, g_de_RT, g_de_EX, g_de_TH, g_nc_IA_IO, g_nc_IS_IO, g_nc_IS_IA⟩, ⟨g_s3, g_s5, g_sa, g_x278, g_x280, g_x282, g_x284, g_x286, g_x180, g_x238, g_x250⟩, ⟨g_o5, g_c5, g_v5, g_t5, g_oa, g_ca, g_va, g_ta, g_zc, g_zd, g_td, g_zf, g_zU, g_zN, g_zh, g_zk, g_tk, g_oi, g_vi⟩⟩ := id hG
  have hA : ∀ q : Nat, s.heap.size ≤ q → A q := fun q h => by rw [← hAe]; exact Or.inr h
  have hS : va_S A s.heap s.heap [] := va_S.rf
  have hP : va_P (dC, dI) vwCl [] s.heap := hP
  have hl := lv_entry ([.long 6964241384807, .ref ge5]) (n := 6) (Nat.le_of_ble_eq_true rfl)
  rw [lg_entry_eq]
  generalize (lg_sl ([.long 6964241384807, .ref ge5]) ++ List.replicate (6 - (lg_sl ([.long 6964241384807, .ref ge5])).length) Slot.unset).toArray = ls at hl ⊢
  have hl : lv_has ls 6 [(0, .long 6964241384807), (2, .ref ge5)] := hl
  refine lv_lload_n hx hb dX5_add_0 rfl (lv_at hl 0 rfl) ?_
  refine lv_lstore_n (lv' := [(3, .long 6964241384807), (0, .long 6964241384807), (2, .ref ge5)]) hx hb dX5_add_1 rfl hl (by decide) rfl (fun ls hl => ?_)
  refine lv_iconst (v := 0) hx hb dX5_add_2 (by decide) ?_
  refine lv_istore (lv' := [(5, .int 0), (3, .long 6964241384807), (0, .long 6964241384807), (2, .ref ge5)]) hx hb dX5_add_3 hl (by decide) rfl (fun ls hl => ?_)
  refine lv_iload hx hb dX5_add_5 (lv_at hl 0 rfl) ?_
  refine lv_aload_n hx hb dX5_add_7 rfl (lv_at hl 3 rfl) ?_
  have hPc := hP.sub (ws' := []) [] rfl
  have hDc := hD.sub (ws' := []) [] (by decide) rfl
  have hKc := hK.sub (tys' := []) [] rfl
  have hFc := va_free (wc := []) hD hS hA [] rfl
  refine va_calli (va_runV (As := []) (rest := [.int 0]) ⟨hx, hb, hml, hown, hts⟩ (kx_J0_length_8abf5_0 l dC dI ge5 gea gv5 gva gde gic gi0 s.heap.size) (cwV 0 hts gX5_add_J0_length_8abf5 rfl rfl rfl (by decide +kernel) ⟨Nat.le_of_ble_eq_true rfl, Nat.le_of_ble_eq_true rfl⟩) ⟨fun a U g mk q => by obtain ⟨q0, q1, qP, qK, qD, qG⟩ := q; exact ⟨q0, q1, qP, va_K.moved (u := U) (U := U.calling g mk a) (Vm.Alike.refl U.vm) qK, qD, gv.fb qG⟩, (by obtain ⟨cell, k1, k2, k3, -⟩ := g_o5.kept hS.2.1; exact ⟨cell, k1, k2, k3⟩), fun U hU hW => ⟨rfl, by rw [hU], by rw [hU]; exact hPc, va_K.moved hW.alike hKc, hDc.weaken (fun _ _ _ _ => trivial), gv.pass hW hU hS hFc hG⟩⟩ rfl rfl hl.1 rfl (lv_room (Nat.le_of_ble_eq_true rfl)) dX5_add_8 ⟨Nat.le_of_ble_eq_true rfl, Nat.le_of_ble_eq_true rfl⟩) hS (fun q _ h => hFc q h) hFc (fun r9 u t H1 locs ht hvm hw hB hz1 hk1 hS => ?_)
  obtain rfl := hw
  obtain ⟨hP1, hK1, hD1⟩ := hB
  rw [ht] at hP1
  have hK1 := va_K.moved hvm.symm hK1
  obtain ⟨hP, hD⟩ := va_join (wr := []) (w1 := []) hP hD [] [] rfl rfl (by decide) (by decide) hk1 hFc hP1 hD1
  generalize H1 = H at hP hS ⊢
  have hP : va_P (dC, dI) vwCl [] H := hP
  have hD : va_D A [] := hD
  refine lv_icmp_ge (tgt := 34) hx hb dX5_add_11 (by decide) (fun _ => ?_) (fun c9 => absurd (by decide) c9)
  refine lv_lload_n hx hb dX5_add_34 rfl (lv_at hl 1 rfl) ?_
  exact W.lret (v := 6964241384807) hx hb hr (fun t ht hW => ⟨⟨6964241384807, (), rfl, rfl, by rw [ht]; exact hP, va_K.moved hW.alike hK, hD⟩, hS.F ht⟩) hS.2.2 dX5_add_35
set_option maxHeartbeats 4000000 in
set_option maxRecDepth 100000 in
theorem kx_X5_add_3 (l : Launch) (dC : Nat → ClassId) (dI : Nat → Nat → Nat) (ge5 gea gv5 gva gde gic gi0 : Nat) (sz : Nat) : Met l yX5_add wsX5_add ({ frames := 2, cells := 0, slots := 0, locals := 40 }) (va_Pc [.long 215891482929017, .ref ge5] (fun U => U.heap.size = sz ∧ va_P (dC, dI) vwCl [] U.heap ∧ va_K (dC, dI) vwCl [] U ∧ va_D (fun _ => True) [] ∧ gv ge5 gea gv5 gva gde gic gi0 (va_A [] sz) U U.heap)) (va_Ql (fun (r : Int64) (_ : Unit) => r = 215891482929017) (fun (_ : Unit) (t : State) => va_P (dC, dI) vwCl [] t.heap ∧ va_K (dC, dI) vwCl [] t ∧ va_D (va_A [] sz) []) (va_A [] sz)) 0 0 (va_A [] sz) := by
  refine Met.ofW (cc := cX5_add) (maxL := 6) (ret := (some .long)) (by decide) rfl ?_
  intro p e s m args below meth c s₁ B hml hv
  obtain ⟨rfl, hsz, hP, hK, hD0, hG⟩ := hv
  have hx := B.exec
  have hb := B.bytes
  have hr := B.returns
  have hts := atoms_spec (ws := wsX5_add) B.pre
  have hown : s.vm.findClass RX5 = some m.cls := findClass_of_methodNamed B.named
  have hlocks := B.notSynchronized
  subst hsz
  have hD := hD0.self (sz := s.heap.size)
  generalize hAe : va_A [] s.heap.size = A at hD hG ⊢
  obtain ⟨⟨g_AO_Text, g_AO_String, g_AO_Object, g_nm_RX1_20, g_nm_RX0_17, g_nm_RX3_31, g_nm_RX2_44, g_nm_RL_121, g_nf_RL_13, g_nf_RL_47, g_ca_IO, g_ca_IA, g_ca_IS, g_ca_IntObj, g_ca_StrObj, g_de_RT, g_de_EX, g_de_TH, g_nc_IA_IO, g_nc_IS_IO, g_nc_IS_IA⟩, ⟨g_s3, g_s5, g_sa, g_x278, g_x280, g_x282, g_x284, g_x286, g_x180, g_x238, g_x250⟩, ⟨g_o5, g_c5, g_v5, g_t5, g_oa, g_ca, g_va, g_ta, g_zc, g_zd, g_td, g_zf, g_zU, g_zN, g_zh, g_zk, g_tk, g_oi, g_vi⟩⟩ := id hG
  have hA : ∀ q : Nat, s.heap.size ≤ q → A q := fun q h => by rw [← hAe]; exact Or.inr h
  have hS : va_S A s.heap s.heap [] := va_S.rf
  have hP : va_P (dC, dI) vwCl [] s.heap := hP
  have hl := lv_entry ([.long 215891482929017, .ref ge5]) (n := 6) (Nat.le_of_ble_eq_true rfl)
  rw [lg_entry_eq]
  generalize (lg_sl ([.long 215891482929017, .ref ge5]) ++ List.replicate (6 - (lg_sl ([.long 215891482929017, .ref ge5])).length) Slot.unset).toArray = ls at hl ⊢
  have hl : lv_has ls 6 [(0, .long 215891482929017), (2, .ref ge5)] := hl
  refine lv_lload_n hx hb dX5_add_0 rfl (lv_at hl 0 rfl) ?_
  refine lv_lstore_n (lv' := [(3, .long 215891482929017), (0, .long 215891482929017), (2, .ref ge5)]) hx hb dX5_add_1 rfl hl (by decide) rfl (fun ls hl => ?_)
  refine lv_iconst (v := 0) hx hb dX5_add_2 (by decide) ?_
  refine lv_istore (lv' := [(5, .int 0), (3, .long 215891482929017), (0, .long 215891482929017), (2, .ref ge5)]) hx hb dX5_add_3 hl (by decide) rfl (fun ls hl => ?_)
  refine lv_iload hx hb dX5_add_5 (lv_at hl 0 rfl) ?_
  refine lv_aload_n hx hb dX5_add_7 rfl (lv_at hl 3 rfl) ?_
  have hPc := hP.sub (ws' := []) [] rfl
  have hDc := hD.sub (ws' := []) [] (by decide) rfl
  have hKc := hK.sub (tys' := []) [] rfl
  have hFc := va_free (wc := []) hD hS hA [] rfl
  refine va_calli (va_runV (As := []) (rest := [.int 0]) ⟨hx, hb, hml, hown, hts⟩ (kx_J0_length_8abf5_0 l dC dI ge5 gea gv5 gva gde gic gi0 s.heap.size) (cwV 0 hts gX5_add_J0_length_8abf5 rfl rfl rfl (by decide +kernel) ⟨Nat.le_of_ble_eq_true rfl, Nat.le_of_ble_eq_true rfl⟩) ⟨fun a U g mk q => by obtain ⟨q0, q1, qP, qK, qD, qG⟩ := q; exact ⟨q0, q1, qP, va_K.moved (u := U) (U := U.calling g mk a) (Vm.Alike.refl U.vm) qK, qD, gv.fb qG⟩, (by obtain ⟨cell, k1, k2, k3, -⟩ := g_o5.kept hS.2.1; exact ⟨cell, k1, k2, k3⟩), fun U hU hW => ⟨rfl, by rw [hU], by rw [hU]; exact hPc, va_K.moved hW.alike hKc, hDc.weaken (fun _ _ _ _ => trivial), gv.pass hW hU hS hFc hG⟩⟩ rfl rfl hl.1 rfl (lv_room (Nat.le_of_ble_eq_true rfl)) dX5_add_8 ⟨Nat.le_of_ble_eq_true rfl, Nat.le_of_ble_eq_true rfl⟩) hS (fun q _ h => hFc q h) hFc (fun r9 u t H1 locs ht hvm hw hB hz1 hk1 hS => ?_)
  obtain rfl := hw
  obtain ⟨hP1, hK1, hD1⟩ := hB
  rw [ht] at hP1
  have hK1 := va_K.moved hvm.symm hK1
  obtain ⟨hP, hD⟩ := va_join (wr := []) (w1 := []) hP hD [] [] rfl rfl (by decide) (by decide) hk1 hFc hP1 hD1
  generalize H1 = H at hP hS ⊢
  have hP : va_P (dC, dI) vwCl [] H := hP
  have hD : va_D A [] := hD
  refine lv_icmp_ge (tgt := 34) hx hb dX5_add_11 (by decide) (fun _ => ?_) (fun c9 => absurd (by decide) c9)
  refine lv_lload_n hx hb dX5_add_34 rfl (lv_at hl 1 rfl) ?_
  exact W.lret (v := 215891482929017) hx hb hr (fun t ht hW => ⟨⟨215891482929017, (), rfl, rfl, by rw [ht]; exact hP, va_K.moved hW.alike hK, hD⟩, hS.F ht⟩) hS.2.2 dX5_add_35
set_option maxHeartbeats 4000000 in
set_option maxRecDepth 100000 in
theorem kx_X5_add_4 (l : Launch) (dC : Nat → ClassId) (dI : Nat → Nat → Nat) (ge5 gea gv5 gva gde gic gi0 : Nat) (sz : Nat) : Met l yX5_add wsX5_add ({ frames := 2, cells := 0, slots := 0, locals := 40 }) (va_Pc [.long 6692635970799527, .ref ge5] (fun U => U.heap.size = sz ∧ va_P (dC, dI) vwCl [] U.heap ∧ va_K (dC, dI) vwCl [] U ∧ va_D (fun _ => True) [] ∧ gv ge5 gea gv5 gva gde gic gi0 (va_A [] sz) U U.heap)) (va_Ql (fun (r : Int64) (_ : Unit) => r = 6692635970799527) (fun (_ : Unit) (t : State) => va_P (dC, dI) vwCl [] t.heap ∧ va_K (dC, dI) vwCl [] t ∧ va_D (va_A [] sz) []) (va_A [] sz)) 0 0 (va_A [] sz) := by
  refine Met.ofW (cc := cX5_add) (maxL := 6) (ret := (some .long)) (by decide) rfl ?_
  intro p e s m args below meth c s₁ B hml hv
  obtain ⟨rfl, hsz, hP, hK, hD0, hG⟩ := hv
  have hx := B.exec
  have hb := B.bytes
  have hr := B.returns
  have hts := atoms_spec (ws := wsX5_add) B.pre
  have hown : s.vm.findClass RX5 = some m.cls := findClass_of_methodNamed B.named
  have hlocks := B.notSynchronized
  subst hsz
  have hD := hD0.self (sz := s.heap.size)
  generalize hAe : va_A [] s.heap.size = A at hD hG ⊢
  obtain ⟨⟨g_AO_Text, g_AO_String, g_AO_Object, g_nm_RX1_20, g_nm_RX0_17, g_nm_RX3_31, g_nm_RX2_44, g_nm_RL_121, g_nf_RL_13, g_nf_RL_47, g_ca_IO, g_ca_IA, g_ca_IS, g_ca_IntObj, g_ca_StrObj, g_de_RT, g_de_EX, g_de_TH, g_nc_IA_IO, g_nc_IS_IO, g_nc_IS_IA⟩, ⟨g_s3, g_s5, g_sa, g_x278, g_x280, g_x282, g_x284, g_x286, g_x180, g_x238, g_x250⟩, ⟨g_o5, g_c5, g_v5, g_t5, g_oa, g_ca, g_va, g_ta, g_zc, g_zd, g_td, g_zf, g_zU, g_zN, g_zh, g_zk, g_tk, g_oi, g_vi⟩⟩ := id hG
  have hA : ∀ q : Nat, s.heap.size ≤ q → A q := fun q h => by rw [← hAe]; exact Or.inr h
  have hS : va_S A s.heap s.heap [] := va_S.rf
  have hP : va_P (dC, dI) vwCl [] s.heap := hP
  have hl := lv_entry ([.long 6692635970799527, .ref ge5]) (n := 6) (Nat.le_of_ble_eq_true rfl)
  rw [lg_entry_eq]
  generalize (lg_sl ([.long 6692635970799527, .ref ge5]) ++ List.replicate (6 - (lg_sl ([.long 6692635970799527, .ref ge5])).length) Slot.unset).toArray = ls at hl ⊢
  have hl : lv_has ls 6 [(0, .long 6692635970799527), (2, .ref ge5)] := hl
  refine lv_lload_n hx hb dX5_add_0 rfl (lv_at hl 0 rfl) ?_
  refine lv_lstore_n (lv' := [(3, .long 6692635970799527), (0, .long 6692635970799527), (2, .ref ge5)]) hx hb dX5_add_1 rfl hl (by decide) rfl (fun ls hl => ?_)
  refine lv_iconst (v := 0) hx hb dX5_add_2 (by decide) ?_
  refine lv_istore (lv' := [(5, .int 0), (3, .long 6692635970799527), (0, .long 6692635970799527), (2, .ref ge5)]) hx hb dX5_add_3 hl (by decide) rfl (fun ls hl => ?_)
  refine lv_iload hx hb dX5_add_5 (lv_at hl 0 rfl) ?_
  refine lv_aload_n hx hb dX5_add_7 rfl (lv_at hl 3 rfl) ?_
  have hPc := hP.sub (ws' := []) [] rfl
  have hDc := hD.sub (ws' := []) [] (by decide) rfl
  have hKc := hK.sub (tys' := []) [] rfl
  have hFc := va_free (wc := []) hD hS hA [] rfl
  refine va_calli (va_runV (As := []) (rest := [.int 0]) ⟨hx, hb, hml, hown, hts⟩ (kx_J0_length_8abf5_0 l dC dI ge5 gea gv5 gva gde gic gi0 s.heap.size) (cwV 0 hts gX5_add_J0_length_8abf5 rfl rfl rfl (by decide +kernel) ⟨Nat.le_of_ble_eq_true rfl, Nat.le_of_ble_eq_true rfl⟩) ⟨fun a U g mk q => by obtain ⟨q0, q1, qP, qK, qD, qG⟩ := q; exact ⟨q0, q1, qP, va_K.moved (u := U) (U := U.calling g mk a) (Vm.Alike.refl U.vm) qK, qD, gv.fb qG⟩, (by obtain ⟨cell, k1, k2, k3, -⟩ := g_o5.kept hS.2.1; exact ⟨cell, k1, k2, k3⟩), fun U hU hW => ⟨rfl, by rw [hU], by rw [hU]; exact hPc, va_K.moved hW.alike hKc, hDc.weaken (fun _ _ _ _ => trivial), gv.pass hW hU hS hFc hG⟩⟩ rfl rfl hl.1 rfl (lv_room (Nat.le_of_ble_eq_true rfl)) dX5_add_8 ⟨Nat.le_of_ble_eq_true rfl, Nat.le_of_ble_eq_true rfl⟩) hS (fun q _ h => hFc q h) hFc (fun r9 u t H1 locs ht hvm hw hB hz1 hk1 hS => ?_)
  obtain rfl := hw
  obtain ⟨hP1, hK1, hD1⟩ := hB
  rw [ht] at hP1
  have hK1 := va_K.moved hvm.symm hK1
  obtain ⟨hP, hD⟩ := va_join (wr := []) (w1 := []) hP hD [] [] rfl rfl (by decide) (by decide) hk1 hFc hP1 hD1
  generalize H1 = H at hP hS ⊢
  have hP : va_P (dC, dI) vwCl [] H := hP
  have hD : va_D A [] := hD
  refine lv_icmp_ge (tgt := 34) hx hb dX5_add_11 (by decide) (fun _ => ?_) (fun c9 => absurd (by decide) c9)
  refine lv_lload_n hx hb dX5_add_34 rfl (lv_at hl 1 rfl) ?_
  exact W.lret (v := 6692635970799527) hx hb hr (fun t ht hW => ⟨⟨6692635970799527, (), rfl, rfl, by rw [ht]; exact hP, va_K.moved hW.alike hK, hD⟩, hS.F ht⟩) hS.2.2 dX5_add_35
set_option maxHeartbeats 4000000 in
set_option maxRecDepth 100000 in
theorem kx_X5_one_0 (l : Launch) (dC : Nat → ClassId) (dI : Nat → Nat → Nat) (sz : Nat) : Met l yX5_one wsX5_one ({ frames := 0, cells := 0, slots := 0, locals := 0 }) (va_Pc [.int 1] (fun U => U.heap.size = sz ∧ va_P (dC, dI) vwCl [] U.heap ∧ va_K (dC, dI) vwCl [] U ∧ va_D (fun _ => True) [])) (va_Qi (fun (r : Int32) (_ : Unit) => r = 1) (fun (_ : Unit) (t : State) => va_P (dC, dI) vwCl [] t.heap ∧ va_K (dC, dI) vwCl [] t ∧ va_D (va_A [] sz) []) (va_A [] sz)) 0 0 (va_A [] sz) := by
  refine Met.ofW (cc := cX5_one) (maxL := 1) (ret := (some .int)) (by decide) rfl ?_
  intro p e s m args below meth c s₁ B hml hv
  obtain ⟨rfl, hsz, hP, hK, hD0⟩ := hv
  have hx := B.exec
  have hb := B.bytes
  have hr := B.returns
  have hts := atoms_spec (ws := wsX5_one) B.pre
  have hown : s.vm.findClass RX5 = some m.cls := findClass_of_methodNamed B.named
  have hlocks := B.notSynchronized
  subst hsz
  have hD := hD0.self (sz := s.heap.size)
  generalize hAe : va_A [] s.heap.size = A at hD ⊢
  have hA : ∀ q : Nat, s.heap.size ≤ q → A q := fun q h => by rw [← hAe]; exact Or.inr h
  have hS : va_S A s.heap s.heap [] := va_S.rf
  have hP : va_P (dC, dI) vwCl [] s.heap := hP
  have hl := lv_entry ([.int 1]) (n := 1) (Nat.le_of_ble_eq_true rfl)
  rw [lg_entry_eq]
  generalize (lg_sl ([.int 1]) ++ List.replicate (1 - (lg_sl ([.int 1])).length) Slot.unset).toArray = ls at hl ⊢
  have hl : lv_has ls 1 [(0, .int 1)] := hl
  refine lv_iload_n hx hb dX5_one_0 rfl (lv_at hl 0 rfl) ?_
  refine lv_if_eq (tgt := 8) hx hb dX5_one_1 (by decide) (fun c9 => absurd c9 (by decide)) (fun _ => ?_)
  refine lv_iconst (v := 1) hx hb dX5_one_4 (by decide) ?_
  refine lv_goto (tgt := 9) hx hb dX5_one_5 (by decide) ?_
  exact W.iret (v := 1) hx hb hr (fun t ht hW => ⟨⟨1, (), rfl, rfl, by rw [ht]; exact hP, va_K.moved hW.alike hK, hD⟩, hS.F ht⟩) hS.2.2 dX5_one_9
set_option maxHeartbeats 4000000 in
set_option maxRecDepth 100000 in
theorem kx_X5_digest_0 (l : Launch) (dC : Nat → ClassId) (dI : Nat → Nat → Nat) (ge5 gea gv5 gva gde gic gi0 : Nat) (h0 : Nat) (h1 : Nat) (h2 : Nat) (z0 : Nat) (k0 : ClassId) (sz : Nat) : Met l yX5_digest wsX5_digest ({ frames := 6, cells := 14, slots := 38, locals := 121 }) (va_Pc [.ref h0] (fun U => U.heap.size = sz ∧ va_P (dC, dI) vwCl [(h0, .inr (9, [.int 0, .ref h1, .ref h2, .ref z0, .int 0, .int 0, .int 0])), (h1, .inl (k0, 4, .inr (.inr (.inr (.inr (va_up (va_up (va_up (va_up (fun _ => none) 0 (some ge5)) 1 (some ge5)) 2 (some ge5)) 3 (some ge5))))))), (h2, .inr (3, [.int 0, .ref gde, .int 0]))] U.heap ∧ va_K (dC, dI) vwCl [(k0, .object "java/lang/String")] U ∧ va_D (fun _ => True) [(h0, .inr (9, [.int 0, .ref h1, .ref h2, .ref z0, .int 0, .int 0, .int 0])), (h1, .inl (k0, 4, .inr (.inr (.inr (.inr (va_up (va_up (va_up (va_up (fun _ => none) 0 (some ge5)) 1 (some ge5)) 2 (some ge5)) 3 (some ge5))))))), (h2, .inr (3, [.int 0, .ref gde, .int 0]))] ∧ gv ge5 gea gv5 gva gde gic gi0 (va_A [(h0, .inr (9, [.int 0, .ref h1, .ref h2, .ref z0, .int 0, .int 0, .int 0])), (h1, .inl (k0, 4, .inr (.inr (.inr (.inr (va_up (va_up (va_up (va_up (fun _ => none) 0 (some ge5)) 1 (some ge5)) 2 (some ge5)) 3 (some ge5))))))), (h2, .inr (3, [.int 0, .ref gde, .int 0]))] sz) U U.heap)) (va_Ql (fun (r : Int64) (_ : Unit) => r = 1130599696050212968) (fun (_ : Unit) (t : State) => ∃ q2 : Nat, ∃ q6 : Nat, ∃ q10 : Nat, ∃ q14 : Nat, ∃ q18 : Nat, ∃ q20 : Nat, ∃ q23 : Nat, ∃ q25 : Nat, ∃ q28 : Nat, ∃ q30 : Nat, ∃ q33 : Nat, ∃ q35 : Nat, ∃ q40 : Nat, ∃ q43 : Nat, ∃ cq3 : ClassId, ∃ cq7 : ClassId, ∃ cq11 : ClassId, ∃ cq15 : ClassId, ∃ cq21 : ClassId, ∃ cq26 : ClassId, ∃ cq31 : ClassId, ∃ cq36 : ClassId, va_P (dC, dI) vwCl [(h0, .inr (9, [.int 0, .ref h1, .ref h2, .ref z0, .int 0, .int 0, .int 0]))] t.heap ∧ va_K (dC, dI) vwCl [(k0, .object "java/lang/String"), (cq3, .int), (cq7, .int), (cq11, .int), (cq15, .int), (cq21, .int), (cq26, .int), (cq31, .int), (cq36, .int)] t ∧ va_D (va_A [(h0, .inr (9, [.int 0, .ref h1, .ref h2, .ref z0, .int 0, .int 0, .int 0])), (h1, .inl (k0, 4, .inr (.inr (.inr (.inr (va_up (va_up (va_up (va_up (fun _ => none) 0 (some ge5)) 1 (some ge5)) 2 (some ge5)) 3 (some ge5))))))), (h2, .inr (3, [.int 0, .ref gde, .int 0]))] sz) [(h0, .inr (9, [.int 0, .ref h1, .ref h2, .ref z0, .int 0, .int 0, .int 0]))]) (va_A [(h0, .inr (9, [.int 0, .ref h1, .ref h2, .ref z0, .int 0, .int 0, .int 0])), (h1, .inl (k0, 4, .inr (.inr (.inr (.inr (va_up (va_up (va_up (va_up (fun _ => none) 0 (some ge5)) 1 (some ge5)) 2 (some ge5)) 3 (some ge5))))))), (h2, .inr (3, [.int 0, .ref gde, .int 0]))] sz)) 14 38 (va_A [(h0, .inr (9, [.int 0, .ref h1, .ref h2, .ref z0, .int 0, .int 0, .int 0])), (h1, .inl (k0, 4, .inr (.inr (.inr (.inr (va_up (va_up (va_up (va_up (fun _ => none) 0 (some ge5)) 1 (some ge5)) 2 (some ge5)) 3 (some ge5))))))), (h2, .inr (3, [.int 0, .ref gde, .int 0]))] sz) := by
  refine Met.ofW (cc := cX5_digest) (maxL := 7) (ret := (some .long)) (by decide) rfl ?_
  intro p e s m args below meth c s₁ B hml hv
  obtain ⟨rfl, hsz, hP, hK, hD0, hG⟩ := hv
  have hx := B.exec
  have hb := B.bytes
  have hr := B.returns
  have hts := atoms_spec (ws := wsX5_digest) B.pre
  have hown : s.vm.findClass RX5 = some m.cls := findClass_of_methodNamed B.named
  have hlocks := B.notSynchronized
  subst hsz
  have hD := hD0.self (sz := s.heap.size)
  generalize hAe : va_A [(h0, .inr (9, [.int 0, .ref h1, .ref h2, .ref z0, .int 0, .int 0, .int 0])), (h1, .inl (k0, 4, .inr (.inr (.inr (.inr (va_up (va_up (va_up (va_up (fun _ => none) 0 (some ge5)) 1 (some ge5)) 2 (some ge5)) 3 (some ge5))))))), (h2, .inr (3, [.int 0, .ref gde, .int 0]))] s.heap.size = A at hD hG ⊢
  obtain ⟨⟨g_AO_Text, g_AO_String, g_AO_Object, g_nm_RX1_20, g_nm_RX0_17, g_nm_RX3_31, g_nm_RX2_44, g_nm_RL_121, g_nf_RL_13, g_nf_RL_47, g_ca_IO, g_ca_IA, g_ca_IS, g_ca_IntObj, g_ca_StrObj, g_de_RT, g_de_EX, g_de_TH, g_nc_IA_IO, g_nc_IS_IO, g_nc_IS_IA⟩, ⟨g_s3, g_s5, g_sa, g_x278, g_x280, g_x282, g_x284, g_x286, g_x180, g_x238, g_x250⟩, ⟨g_o5, g_c5, g_v5, g_t5, g_oa, g_ca, g_va, g_ta, g_zc, g_zd, g_td, g_zf, g_zU, g_zN, g_zh, g_zk, g_tk, g_oi, g_vi⟩⟩ := id hG
  have hA : ∀ q : Nat, s.heap.size ≤ q → A q := fun q h => by rw [← hAe]; exact Or.inr h
  have hS : va_S A s.heap s.heap [] := va_S.rf
  have hP : va_P (dC, dI) vwCl [(h0, .inr (9, [.int 0, .ref h1, .ref h2, .ref z0, .int 0, .int 0, .int 0])), (h1, .inl (k0, 4, .inr (.inr (.inr (.inr (va_up (va_up (va_up (va_up (fun _ => none) 0 (some ge5)) 1 (some ge5)) 2 (some ge5)) 3 (some ge5))))))), (h2, .inr (3, [.int 0, .ref gde, .int 0]))] s.heap := hP
  have hl := lv_entry ([.ref h0]) (n := 7) (Nat.le_of_ble_eq_true rfl)
  rw [lg_entry_eq]
  generalize (lg_sl ([.ref h0]) ++ List.replicate (7 - (lg_sl ([.ref h0])).length) Slot.unset).toArray = ls at hl ⊢
  have hl : lv_has ls 7 [(0, .ref h0)] := hl
  refine lv_aload_n hx hb dX5_digest_0 rfl (lv_at hl 0 rfl) ?_
  refine lv_iconst (v := 0) hx hb dX5_digest_1 (by decide) ?_
  refine va_put (D := (dC, dI)) (ci := 9) (v := .int 0) (ty := .int) (C := RX5) (T := TX5) (N := 7) hx hb hts (by decide +kernel) tyX5 tyX5_ok nmX5 hown hK hP hD hS 0 rfl rfl 0 (by decide) (hts (.fieldLink RX5 27 "RewriteropeModel" "thrown" "I") (by decide +kernel)) (fun _ h9 => h9) rfl (by decide +kernel) rfl rfl (Nat.le_of_ble_eq_true rfl) dX5_digest_2 (fun H locs hP hD hS => ?_)
  have hP : va_P (dC, dI) vwCl [(h0, .inr (9, [.int 0, .ref h1, .ref h2, .ref z0, .int 0, .int 0, .int 0])), (h1, .inl (k0, 4, .inr (.inr (.inr (.inr (va_up (va_up (va_up (va_up (fun _ => none) 0 (some ge5)) 1 (some ge5)) 2 (some ge5)) 3 (some ge5))))))), (h2, .inr (3, [.int 0, .ref gde, .int 0]))] H := hP
  have hD : va_D A [(h0, .inr (9, [.int 0, .ref h1, .ref h2, .ref z0, .int 0, .int 0, .int 0])), (h1, .inl (k0, 4, .inr (.inr (.inr (.inr (va_up (va_up (va_up (va_up (fun _ => none) 0 (some ge5)) 1 (some ge5)) 2 (some ge5)) 3 (some ge5))))))), (h2, .inr (3, [.int 0, .ref gde, .int 0]))] := hD
  refine lv_ldc2 (v := 7847) hx hb hown (hts (.constantLong RX5 214 7847) (by decide +kernel)) dX5_digest_5 ?_
  refine lv_lstore_n (lv' := [(1, .long 7847), (0, .ref h0)]) hx hb dX5_digest_8 rfl hl (by decide) rfl (fun ls hl => ?_)
  refine lv_iconst (v := 0) hx hb dX5_digest_9 (by decide) ?_
  refine lv_istore_n (lv' := [(3, .int 0), (1, .long 7847), (0, .ref h0)]) hx hb dX5_digest_10 rfl hl (by decide) rfl (fun ls hl => ?_)
  refine lv_iload_n hx hb dX5_digest_11 rfl (lv_at hl 0 rfl) ?_
  refine lv_iconst (v := 4) hx hb dX5_digest_12 (by decide) ?_
  refine lv_icmp_ge (tgt := 35) hx hb dX5_digest_13 (by decide) (fun c9 => absurd c9 (by decide)) (fun _ => ?_)
  refine lv_lload_n hx hb dX5_digest_16 rfl (lv_at hl 1 rfl) ?_
  refine lv_ldc2 (v := 31) hx hb hown (hts (.constantLong RX5 212 31) (by decide +kernel)) dX5_digest_17 ?_
  refine lv_lmul hx hb dX5_digest_20 ?_
  refine lv_topl (fun y1 ey1 => ?_)
  obtain rfl : y1 = 243257 := ey1.trans (by decide +kernel)
  refine lv_aload_n hx hb dX5_digest_21 rfl (lv_at hl 2 rfl) ?_
  refine lv_iload_n hx hb dX5_digest_22 rfl (lv_at hl 0 rfl) ?_
  have hPc := hP.sub (ws' := [(h0, .inr (9, [.int 0, .ref h1, .ref h2, .ref z0, .int 0, .int 0, .int 0])), (h1, .inl (k0, 4, .inr (.inr (.inr (.inr (va_up (va_up (va_up (va_up (fun _ => none) 0 (some ge5)) 1 (some ge5)) 2 (some ge5)) 3 (some ge5)))))))]) [0, 1] rfl
  have hDc := hD.sub (ws' := [(h0, .inr (9, [.int 0, .ref h1, .ref h2, .ref z0, .int 0, .int 0, .int 0])), (h1, .inl (k0, 4, .inr (.inr (.inr (.inr (va_up (va_up (va_up (va_up (fun _ => none) 0 (some ge5)) 1 (some ge5)) 2 (some ge5)) 3 (some ge5)))))))]) [0, 1] (by decide) rfl
  have hKc := hK.sub (tys' := [(k0, .object "java/lang/String")]) [0] rfl
  have hFc := va_free (wc := [(h0, .inr (9, [.int 0, .ref h1, .ref h2, .ref z0, .int 0, .int 0, .int 0])), (h1, .inl (k0, 4, .inr (.inr (.inr (.inr (va_up (va_up (va_up (va_up (fun _ => none) 0 (some ge5)) 1 (some ge5)) 2 (some ge5)) 3 (some ge5)))))))]) hD hS hA [0, 1] rfl
  refine va_calli (va_runV (As := [.int 0]) (rest := [.long 243257]) ⟨hx, hb, hml, hown, hts⟩ (kx_X5_houseNow_4 l dC dI ge5 gea gv5 gva gde gic gi0 h0 h1 h2 z0 k0 H.size) (cwV 1 hts gX5_digest_X5_houseNow rfl rfl rfl (by decide +kernel) ⟨Nat.le_of_ble_eq_true rfl, Nat.le_of_ble_eq_true rfl⟩) ⟨fun a U g mk q => by obtain ⟨q0, q1, qP, qK, qD, qG⟩ := q; exact ⟨q0, q1, qP, va_K.moved (u := U) (U := U.calling g mk a) (Vm.Alike.refl U.vm) qK, qD, gv.fb qG⟩, va_recv hKc hPc (ci := 9) (q0 := 0) rfl rfl, fun U hU hW => ⟨rfl, by rw [hU], by rw [hU]; exact hPc, va_K.moved hW.alike hKc, hDc.weaken (fun _ _ _ _ => trivial), gv.pass hW hU hS hFc hG⟩⟩ rfl rfl hl.1 rfl (lv_room (Nat.le_of_ble_eq_true rfl)) dX5_digest_23 ⟨Nat.le_of_ble_eq_true rfl, Nat.le_of_ble_eq_true rfl⟩) hS (fun q _ h => hFc q h) hFc (fun r9 u t H1 locs ht hvm hw hB hz1 hk1 hS => ?_)
  obtain rfl := hw
  obtain ⟨q2, cq3, hP1, hK1, hD1⟩ := hB
  rw [ht] at hP1
  have hK1 := va_K.moved hvm.symm hK1
  obtain ⟨hP, hD⟩ := va_join (wr := [(h2, .inr (3, [.int 0, .ref gde, .int 0]))]) (w1 := [(h0, .inr (9, [.int 0, .ref h1, .ref h2, .ref z0, .int 0, .int 0, .int 0])), (h1, .inl (k0, 4, .inr (.inr (.inr (.inr (va_up (va_up (va_up (va_up (fun _ => none) 0 (some ge5)) 1 (some ge5)) 2 (some ge5)) 3 (some ge5))))))), (q2, .inl (cq3, 4, .inl (upd (upd (upd (upd (fun _ => 0) 0 0) 1 0) 2 0) 3 0)))]) hP hD [0, 1] [2] rfl rfl (by decide) (by decide) hk1 hFc hP1 hD1
  have hK := hK.app (hK1.sub (tys' := [(cq3, .int)]) [1] rfl)
  generalize H1 = H at hP hS ⊢
  have hK : va_K (dC, dI) vwCl [(k0, .object "java/lang/String"), (cq3, .int)] s := hK
  have hP : va_P (dC, dI) vwCl [(h2, .inr (3, [.int 0, .ref gde, .int 0])), (h0, .inr (9, [.int 0, .ref h1, .ref h2, .ref z0, .int 0, .int 0, .int 0])), (h1, .inl (k0, 4, .inr (.inr (.inr (.inr (va_up (va_up (va_up (va_up (fun _ => none) 0 (some ge5)) 1 (some ge5)) 2 (some ge5)) 3 (some ge5))))))), (q2, .inl (cq3, 4, .inl (upd (upd (upd (upd (fun _ => 0) 0 0) 1 0) 2 0) 3 0)))] H := hP
  have hD : va_D A [(h2, .inr (3, [.int 0, .ref gde, .int 0])), (h0, .inr (9, [.int 0, .ref h1, .ref h2, .ref z0, .int 0, .int 0, .int 0])), (h1, .inl (k0, 4, .inr (.inr (.inr (.inr (va_up (va_up (va_up (va_up (fun _ => none) 0 (some ge5)) 1 (some ge5)) 2 (some ge5)) 3 (some ge5))))))), (q2, .inl (cq3, 4, .inl (upd (upd (upd (upd (fun _ => 0) 0 0) 1 0) 2 0) 3 0)))] := hD
  refine W.widen (k := 1) (n := 4) (by omega) (by omega) ?_
  refine lv_i2l (v := 0) hx hb dX5_digest_26 (by decide) ?_
  refine lv_ladd hx hb dX5_digest_27 ?_
  refine lv_topl (fun y4 ey4 => ?_)
  obtain rfl : y4 = 243257 := ey4.trans (by decide +kernel)
  refine lv_lstore_n (lv' := [(1, .long 243257), (3, .int 0), (0, .ref h0)]) hx hb dX5_digest_28 rfl hl (by decide) rfl (fun ls hl => ?_)
  refine lv_iinc (v := 1) (lv' := [(3, .int 1), (1, .long 243257), (0, .ref h0)]) hx hb dX5_digest_29 hl (k := 1) rfl (by decide) (by decide) rfl (fun ls hl => ?_)
  refine lv_goto (tgt := 11) hx hb dX5_digest_32 (by decide) ?_
  refine lv_iload_n hx hb dX5_digest_11 rfl (lv_at hl 0 rfl) ?_
  refine lv_iconst (v := 4) hx hb dX5_digest_12 (by decide) ?_
  refine lv_icmp_ge (tgt := 35) hx hb dX5_digest_13 (by decide) (fun c9 => absurd c9 (by decide)) (fun _ => ?_)
  refine lv_lload_n hx hb dX5_digest_16 rfl (lv_at hl 1 rfl) ?_
  refine lv_ldc2 (v := 31) hx hb hown (hts (.constantLong RX5 212 31) (by decide +kernel)) dX5_digest_17 ?_
  refine lv_lmul hx hb dX5_digest_20 ?_
  refine lv_topl (fun y5 ey5 => ?_)
  obtain rfl : y5 = 7540967 := ey5.trans (by decide +kernel)
  refine lv_aload_n hx hb dX5_digest_21 rfl (lv_at hl 2 rfl) ?_
  refine lv_iload_n hx hb dX5_digest_22 rfl (lv_at hl 0 rfl) ?_
  have hPc := hP.sub (ws' := [(h0, .inr (9, [.int 0, .ref h1, .ref h2, .ref z0, .int 0, .int 0, .int 0])), (h1, .inl (k0, 4, .inr (.inr (.inr (.inr (va_up (va_up (va_up (va_up (fun _ => none) 0 (some ge5)) 1 (some ge5)) 2 (some ge5)) 3 (some ge5)))))))]) [1, 2] rfl
  have hDc := hD.sub (ws' := [(h0, .inr (9, [.int 0, .ref h1, .ref h2, .ref z0, .int 0, .int 0, .int 0])), (h1, .inl (k0, 4, .inr (.inr (.inr (.inr (va_up (va_up (va_up (va_up (fun _ => none) 0 (some ge5)) 1 (some ge5)) 2 (some ge5)) 3 (some ge5)))))))]) [1, 2] (by decide) rfl
  have hKc := hK.sub (tys' := [(k0, .object "java/lang/String")]) [0] rfl
  have hFc := va_free (wc := [(h0, .inr (9, [.int 0, .ref h1, .ref h2, .ref z0, .int 0, .int 0, .int 0])), (h1, .inl (k0, 4, .inr (.inr (.inr (.inr (va_up (va_up (va_up (va_up (fun _ => none) 0 (some ge5)) 1 (some ge5)) 2 (some ge5)) 3 (some ge5)))))))]) hD hS hA [1, 2] rfl
  refine va_calli (va_runV (As := [.int 1]) (rest := [.long 7540967]) ⟨hx, hb, hml, hown, hts⟩ (kx_X5_houseNow_5 l dC dI ge5 gea gv5 gva gde gic gi0 h0 h1 h2 z0 k0 H.size) (cwV 1 hts gX5_digest_X5_houseNow rfl rfl rfl (by decide +kernel) ⟨Nat.le_of_ble_eq_true rfl, Nat.le_of_ble_eq_true rfl⟩) ⟨fun a U g mk q => by obtain ⟨q0, q1, qP, qK, qD, qG⟩ := q; exact ⟨q0, q1, qP, va_K.moved (u := U) (U := U.calling g mk a) (Vm.Alike.refl U.vm) qK, qD, gv.fb qG⟩, va_recv hKc hPc (ci := 9) (q0 := 0) rfl rfl, fun U hU hW => ⟨rfl, by rw [hU], by rw [hU]; exact hPc, va_K.moved hW.alike hKc, hDc.weaken (fun _ _ _ _ => trivial), gv.pass hW hU hS hFc hG⟩⟩ rfl rfl hl.1 rfl (lv_room (Nat.le_of_ble_eq_true rfl)) dX5_digest_23 ⟨Nat.le_of_ble_eq_true rfl, Nat.le_of_ble_eq_true rfl⟩) hS (fun q _ h => hFc q h) hFc (fun r9 u t H1 locs ht hvm hw hB hz1 hk1 hS => ?_)
  obtain rfl := hw
  obtain ⟨q6, cq7, hP1, hK1, hD1⟩ := hB
  rw [ht] at hP1
  have hK1 := va_K.moved hvm.symm hK1
  obtain ⟨hP, hD⟩ := va_join (wr := [(h2, .inr (3, [.int 0, .ref gde, .int 0])), (q2, .inl (cq3, 4, .inl (upd (upd (upd (upd (fun _ => 0) 0 0) 1 0) 2 0) 3 0)))]) (w1 := [(h0, .inr (9, [.int 0, .ref h1, .ref h2, .ref z0, .int 0, .int 0, .int 0])), (h1, .inl (k0, 4, .inr (.inr (.inr (.inr (va_up (va_up (va_up (va_up (fun _ => none) 0 (some ge5)) 1 (some ge5)) 2 (some ge5)) 3 (some ge5))))))), (q6, .inl (cq7, 4, .inl (upd (upd (upd (upd (fun _ => 0) 0 0) 1 0) 2 0) 3 0)))]) hP hD [1, 2] [0, 3] rfl rfl (by decide) (by decide) hk1 hFc hP1 hD1
  have hK := hK.app (hK1.sub (tys' := [(cq7, .int)]) [1] rfl)
  generalize H1 = H at hP hS ⊢
  have hK : va_K (dC, dI) vwCl [(k0, .object "java/lang/String"), (cq3, .int), (cq7, .int)] s := hK
  have hP : va_P (dC, dI) vwCl [(h2, .inr (3, [.int 0, .ref gde, .int 0])), (q2, .inl (cq3, 4, .inl (upd (upd (upd (upd (fun _ => 0) 0 0) 1 0) 2 0) 3 0))), (h0, .inr (9, [.int 0, .ref h1, .ref h2, .ref z0, .int 0, .int 0, .int 0])), (h1, .inl (k0, 4, .inr (.inr (.inr (.inr (va_up (va_up (va_up (va_up (fun _ => none) 0 (some ge5)) 1 (some ge5)) 2 (some ge5)) 3 (some ge5))))))), (q6, .inl (cq7, 4, .inl (upd (upd (upd (upd (fun _ => 0) 0 0) 1 0) 2 0) 3 0)))] H := hP
  have hD : va_D A [(h2, .inr (3, [.int 0, .ref gde, .int 0])), (q2, .inl (cq3, 4, .inl (upd (upd (upd (upd (fun _ => 0) 0 0) 1 0) 2 0) 3 0))), (h0, .inr (9, [.int 0, .ref h1, .ref h2, .ref z0, .int 0, .int 0, .int 0])), (h1, .inl (k0, 4, .inr (.inr (.inr (.inr (va_up (va_up (va_up (va_up (fun _ => none) 0 (some ge5)) 1 (some ge5)) 2 (some ge5)) 3 (some ge5))))))), (q6, .inl (cq7, 4, .inl (upd (upd (upd (upd (fun _ => 0) 0 0) 1 0) 2 0) 3 0)))] := hD
  refine W.widen (k := 2) (n := 8) (by omega) (by omega) ?_
  refine lv_i2l (v := 0) hx hb dX5_digest_26 (by decide) ?_
  refine lv_ladd hx hb dX5_digest_27 ?_
  refine lv_topl (fun y8 ey8 => ?_)
  obtain rfl : y8 = 7540967 := ey8.trans (by decide +kernel)
  refine lv_lstore_n (lv' := [(1, .long 7540967), (3, .int 1), (0, .ref h0)]) hx hb dX5_digest_28 rfl hl (by decide) rfl (fun ls hl => ?_)
  refine lv_iinc (v := 2) (lv' := [(3, .int 2), (1, .long 7540967), (0, .ref h0)]) hx hb dX5_digest_29 hl (k := 1) rfl (by decide) (by decide) rfl (fun ls hl => ?_)
  refine lv_goto (tgt := 11) hx hb dX5_digest_32 (by decide) ?_
  refine lv_iload_n hx hb dX5_digest_11 rfl (lv_at hl 0 rfl) ?_
  refine lv_iconst (v := 4) hx hb dX5_digest_12 (by decide) ?_
  refine lv_icmp_ge (tgt := 35) hx hb dX5_digest_13 (by decide) (fun c9 => absurd c9 (by decide)) (fun _ => ?_)
  refine lv_lload_n hx hb dX5_digest_16 rfl (lv_at hl 1 rfl) ?_
  refine lv_ldc2 (v := 31) hx hb hown (hts (.constantLong RX5 212 31) (by decide +kernel)) dX5_digest_17 ?_
  refine lv_lmul hx hb dX5_digest_20 ?_
  refine lv_topl (fun y9 ey9 => ?_)
  obtain rfl : y9 = 233769977 := ey9.trans (by decide +kernel)
  refine lv_aload_n hx hb dX5_digest_21 rfl (lv_at hl 2 rfl) ?_
  refine lv_iload_n hx hb dX5_digest_22 rfl (lv_at hl 0 rfl) ?_
  have hPc := hP.sub (ws' := [(h0, .inr (9, [.int 0, .ref h1, .ref h2, .ref z0, .int 0, .int 0, .int 0])), (h1, .inl (k0, 4, .inr (.inr (.inr (.inr (va_up (va_up (va_up (va_up (fun _ => none) 0 (some ge5)) 1 (some ge5)) 2 (some ge5)) 3 (some ge5)))))))]) [2, 3] rfl
  have hDc := hD.sub (ws' := [(h0, .inr (9, [.int 0, .ref h1, .ref h2, .ref z0, .int 0, .int 0, .int 0])), (h1, .inl (k0, 4, .inr (.inr (.inr (.inr (va_up (va_up (va_up (va_up (fun _ => none) 0 (some ge5)) 1 (some ge5)) 2 (some ge5)) 3 (some ge5)))))))]) [2, 3] (by decide) rfl
  have hKc := hK.sub (tys' := [(k0, .object "java/lang/String")]) [0] rfl
  have hFc := va_free (wc := [(h0, .inr (9, [.int 0, .ref h1, .ref h2, .ref z0, .int 0, .int 0, .int 0])), (h1, .inl (k0, 4, .inr (.inr (.inr (.inr (va_up (va_up (va_up (va_up (fun _ => none) 0 (some ge5)) 1 (some ge5)) 2 (some ge5)) 3 (some ge5)))))))]) hD hS hA [2, 3] rfl
  refine va_calli (va_runV (As := [.int 2]) (rest := [.long 233769977]) ⟨hx, hb, hml, hown, hts⟩ (kx_X5_houseNow_6 l dC dI ge5 gea gv5 gva gde gic gi0 h0 h1 h2 z0 k0 H.size) (cwV 1 hts gX5_digest_X5_houseNow rfl rfl rfl (by decide +kernel) ⟨Nat.le_of_ble_eq_true rfl, Nat.le_of_ble_eq_true rfl⟩) ⟨fun a U g mk q => by obtain ⟨q0, q1, qP, qK, qD, qG⟩ := q; exact ⟨q0, q1, qP, va_K.moved (u := U) (U := U.calling g mk a) (Vm.Alike.refl U.vm) qK, qD, gv.fb qG⟩, va_recv hKc hPc (ci := 9) (q0 := 0) rfl rfl, fun U hU hW => ⟨rfl, by rw [hU], by rw [hU]; exact hPc, va_K.moved hW.alike hKc, hDc.weaken (fun _ _ _ _ => trivial), gv.pass hW hU hS hFc hG⟩⟩ rfl rfl hl.1 rfl (lv_room (Nat.le_of_ble_eq_true rfl)) dX5_digest_23 ⟨Nat.le_of_ble_eq_true rfl, Nat.le_of_ble_eq_true rfl⟩) hS (fun q _ h => hFc q h) hFc (fun r9 u t H1 locs ht hvm hw hB hz1 hk1 hS => ?_)
  obtain rfl := hw
  obtain ⟨q10, cq11, hP1, hK1, hD1⟩ := hB
  rw [ht] at hP1
  have hK1 := va_K.moved hvm.symm hK1
  obtain ⟨hP, hD⟩ := va_join (wr := [(h2, .inr (3, [.int 0, .ref gde, .int 0])), (q2, .inl (cq3, 4, .inl (upd (upd (upd (upd (fun _ => 0) 0 0) 1 0) 2 0) 3 0))), (q6, .inl (cq7, 4, .inl (upd (upd (upd (upd (fun _ => 0) 0 0) 1 0) 2 0) 3 0)))]) (w1 := [(h0, .inr (9, [.int 0, .ref h1, .ref h2, .ref z0, .int 0, .int 0, .int 0])), (h1, .inl (k0, 4, .inr (.inr (.inr (.inr (va_up (va_up (va_up (va_up (fun _ => none) 0 (some ge5)) 1 (some ge5)) 2 (some ge5)) 3 (some ge5))))))), (q10, .inl (cq11, 4, .inl (upd (upd (upd (upd (fun _ => 0) 0 0) 1 0) 2 0) 3 0)))]) hP hD [2, 3] [0, 1, 4] rfl rfl (by decide) (by decide) hk1 hFc hP1 hD1
  have hK := hK.app (hK1.sub (tys' := [(cq11, .int)]) [1] rfl)
  generalize H1 = H at hP hS ⊢
  have hK : va_K (dC, dI) vwCl [(k0, .object "java/lang/String"), (cq3, .int), (cq7, .int), (cq11, .int)] s := hK
  have hP : va_P (dC, dI) vwCl [(h2, .inr (3, [.int 0, .ref gde, .int 0])), (q2, .inl (cq3, 4, .inl (upd (upd (upd (upd (fun _ => 0) 0 0) 1 0) 2 0) 3 0))), (q6, .inl (cq7, 4, .inl (upd (upd (upd (upd (fun _ => 0) 0 0) 1 0) 2 0) 3 0))), (h0, .inr (9, [.int 0, .ref h1, .ref h2, .ref z0, .int 0, .int 0, .int 0])), (h1, .inl (k0, 4, .inr (.inr (.inr (.inr (va_up (va_up (va_up (va_up (fun _ => none) 0 (some ge5)) 1 (some ge5)) 2 (some ge5)) 3 (some ge5))))))), (q10, .inl (cq11, 4, .inl (upd (upd (upd (upd (fun _ => 0) 0 0) 1 0) 2 0) 3 0)))] H := hP
  have hD : va_D A [(h2, .inr (3, [.int 0, .ref gde, .int 0])), (q2, .inl (cq3, 4, .inl (upd (upd (upd (upd (fun _ => 0) 0 0) 1 0) 2 0) 3 0))), (q6, .inl (cq7, 4, .inl (upd (upd (upd (upd (fun _ => 0) 0 0) 1 0) 2 0) 3 0))), (h0, .inr (9, [.int 0, .ref h1, .ref h2, .ref z0, .int 0, .int 0, .int 0])), (h1, .inl (k0, 4, .inr (.inr (.inr (.inr (va_up (va_up (va_up (va_up (fun _ => none) 0 (some ge5)) 1 (some ge5)) 2 (some ge5)) 3 (some ge5))))))), (q10, .inl (cq11, 4, .inl (upd (upd (upd (upd (fun _ => 0) 0 0) 1 0) 2 0) 3 0)))] := hD
  refine W.widen (k := 3) (n := 12) (by omega) (by omega) ?_
  refine lv_i2l (v := 0) hx hb dX5_digest_26 (by decide) ?_
  refine lv_ladd hx hb dX5_digest_27 ?_
  refine lv_topl (fun y12 ey12 => ?_)
  obtain rfl : y12 = 233769977 := ey12.trans (by decide +kernel)
  refine lv_lstore_n (lv' := [(1, .long 233769977), (3, .int 2), (0, .ref h0)]) hx hb dX5_digest_28 rfl hl (by decide) rfl (fun ls hl => ?_)
  refine lv_iinc (v := 3) (lv' := [(3, .int 3), (1, .long 233769977), (0, .ref h0)]) hx hb dX5_digest_29 hl (k := 1) rfl (by decide) (by decide) rfl (fun ls hl => ?_)
  refine lv_goto (tgt := 11) hx hb dX5_digest_32 (by decide) ?_
  refine lv_iload_n hx hb dX5_digest_11 rfl (lv_at hl 0 rfl) ?_
  refine lv_iconst (v := 4) hx hb dX5_digest_12 (by decide) ?_
  refine lv_icmp_ge (tgt := 35) hx hb dX5_digest_13 (by decide) (fun c9 => absurd c9 (by decide)) (fun _ => ?_)
  refine lv_lload_n hx hb dX5_digest_16 rfl (lv_at hl 1 rfl) ?_
  refine lv_ldc2 (v := 31) hx hb hown (hts (.constantLong RX5 212 31) (by decide +kernel)) dX5_digest_17 ?_
  refine lv_lmul hx hb dX5_digest_20 ?_
  refine lv_topl (fun y13 ey13 => ?_)
  obtain rfl : y13 = 7246869287 := ey13.trans (by decide +kernel)
  refine lv_aload_n hx hb dX5_digest_21 rfl (lv_at hl 2 rfl) ?_
  refine lv_iload_n hx hb dX5_digest_22 rfl (lv_at hl 0 rfl) ?_
  have hPc := hP.sub (ws' := [(h0, .inr (9, [.int 0, .ref h1, .ref h2, .ref z0, .int 0, .int 0, .int 0])), (h1, .inl (k0, 4, .inr (.inr (.inr (.inr (va_up (va_up (va_up (va_up (fun _ => none) 0 (some ge5)) 1 (some ge5)) 2 (some ge5)) 3 (some ge5)))))))]) [3, 4] rfl
  have hDc := hD.sub (ws' := [(h0, .inr (9, [.int 0, .ref h1, .ref h2, .ref z0, .int 0, .int 0, .int 0])), (h1, .inl (k0, 4, .inr (.inr (.inr (.inr (va_up (va_up (va_up (va_up (fun _ => none) 0 (some ge5)) 1 (some ge5)) 2 (some ge5)) 3 (some ge5)))))))]) [3, 4] (by decide) rfl
  have hKc := hK.sub (tys' := [(k0, .object "java/lang/String")]) [0] rfl
  have hFc := va_free (wc := [(h0, .inr (9, [.int 0, .ref h1, .ref h2, .ref z0, .int 0, .int 0, .int 0])), (h1, .inl (k0, 4, .inr (.inr (.inr (.inr (va_up (va_up (va_up (va_up (fun _ => none) 0 (some ge5)) 1 (some ge5)) 2 (some ge5)) 3 (some ge5)))))))]) hD hS hA [3, 4] rfl
  refine va_calli (va_runV (As := [.int 3]) (rest := [.long 7246869287]) ⟨hx, hb, hml, hown, hts⟩ (kx_X5_houseNow_7 l dC dI ge5 gea gv5 gva gde gic gi0 h0 h1 h2 z0 k0 H.size) (cwV 1 hts gX5_digest_X5_houseNow rfl rfl rfl (by decide +kernel) ⟨Nat.le_of_ble_eq_true rfl, Nat.le_of_ble_eq_true rfl⟩) ⟨fun a U g mk q => by obtain ⟨q0, q1, qP, qK, qD, qG⟩ := q; exact ⟨q0, q1, qP, va_K.moved (u := U) (U := U.calling g mk a) (Vm.Alike.refl U.vm) qK, qD, gv.fb qG⟩, va_recv hKc hPc (ci := 9) (q0 := 0) rfl rfl, fun U hU hW => ⟨rfl, by rw [hU], by rw [hU]; exact hPc, va_K.moved hW.alike hKc, hDc.weaken (fun _ _ _ _ => trivial), gv.pass hW hU hS hFc hG⟩⟩ rfl rfl hl.1 rfl (lv_room (Nat.le_of_ble_eq_true rfl)) dX5_digest_23 ⟨Nat.le_of_ble_eq_true rfl, Nat.le_of_ble_eq_true rfl⟩) hS (fun q _ h => hFc q h) hFc (fun r9 u t H1 locs ht hvm hw hB hz1 hk1 hS => ?_)
  obtain rfl := hw
  obtain ⟨q14, cq15, hP1, hK1, hD1⟩ := hB
  rw [ht] at hP1
  have hK1 := va_K.moved hvm.symm hK1
  obtain ⟨hP, hD⟩ := va_join (wr := [(h2, .inr (3, [.int 0, .ref gde, .int 0])), (q2, .inl (cq3, 4, .inl (upd (upd (upd (upd (fun _ => 0) 0 0) 1 0) 2 0) 3 0))), (q6, .inl (cq7, 4, .inl (upd (upd (upd (upd (fun _ => 0) 0 0) 1 0) 2 0) 3 0))), (q10, .inl (cq11, 4, .inl (upd (upd (upd (upd (fun _ => 0) 0 0) 1 0) 2 0) 3 0)))]) (w1 := [(h0, .inr (9, [.int 0, .ref h1, .ref h2, .ref z0, .int 0, .int 0, .int 0])), (h1, .inl (k0, 4, .inr (.inr (.inr (.inr (va_up (va_up (va_up (va_up (fun _ => none) 0 (some ge5)) 1 (some ge5)) 2 (some ge5)) 3 (some ge5))))))), (q14, .inl (cq15, 4, .inl (upd (upd (upd (upd (fun _ => 0) 0 0) 1 0) 2 0) 3 0)))]) hP hD [3, 4] [0, 1, 2, 5] rfl rfl (by decide) (by decide) hk1 hFc hP1 hD1
  have hK := hK.app (hK1.sub (tys' := [(cq15, .int)]) [1] rfl)
  generalize H1 = H at hP hS ⊢
  have hK : va_K (dC, dI) vwCl [(k0, .object "java/lang/String"), (cq3, .int), (cq7, .int), (cq11, .int), (cq15, .int)] s := hK
  have hP : va_P (dC, dI) vwCl [(h2, .inr (3, [.int 0, .ref gde, .int 0])), (q2, .inl (cq3, 4, .inl (upd (upd (upd (upd (fun _ => 0) 0 0) 1 0) 2 0) 3 0))), (q6, .inl (cq7, 4, .inl (upd (upd (upd (upd (fun _ => 0) 0 0) 1 0) 2 0) 3 0))), (q10, .inl (cq11, 4, .inl (upd (upd (upd (upd (fun _ => 0) 0 0) 1 0) 2 0) 3 0))), (h0, .inr (9, [.int 0, .ref h1, .ref h2, .ref z0, .int 0, .int 0, .int 0])), (h1, .inl (k0, 4, .inr (.inr (.inr (.inr (va_up (va_up (va_up (va_up (fun _ => none) 0 (some ge5)) 1 (some ge5)) 2 (some ge5)) 3 (some ge5))))))), (q14, .inl (cq15, 4, .inl (upd (upd (upd (upd (fun _ => 0) 0 0) 1 0) 2 0) 3 0)))] H := hP
  have hD : va_D A [(h2, .inr (3, [.int 0, .ref gde, .int 0])), (q2, .inl (cq3, 4, .inl (upd (upd (upd (upd (fun _ => 0) 0 0) 1 0) 2 0) 3 0))), (q6, .inl (cq7, 4, .inl (upd (upd (upd (upd (fun _ => 0) 0 0) 1 0) 2 0) 3 0))), (q10, .inl (cq11, 4, .inl (upd (upd (upd (upd (fun _ => 0) 0 0) 1 0) 2 0) 3 0))), (h0, .inr (9, [.int 0, .ref h1, .ref h2, .ref z0, .int 0, .int 0, .int 0])), (h1, .inl (k0, 4, .inr (.inr (.inr (.inr (va_up (va_up (va_up (va_up (fun _ => none) 0 (some ge5)) 1 (some ge5)) 2 (some ge5)) 3 (some ge5))))))), (q14, .inl (cq15, 4, .inl (upd (upd (upd (upd (fun _ => 0) 0 0) 1 0) 2 0) 3 0)))] := hD
  refine W.widen (k := 4) (n := 16) (by omega) (by omega) ?_
  refine lv_i2l (v := 0) hx hb dX5_digest_26 (by decide) ?_
  refine lv_ladd hx hb dX5_digest_27 ?_
  refine lv_topl (fun y16 ey16 => ?_)
  obtain rfl : y16 = 7246869287 := ey16.trans (by decide +kernel)
  refine lv_lstore_n (lv' := [(1, .long 7246869287), (3, .int 3), (0, .ref h0)]) hx hb dX5_digest_28 rfl hl (by decide) rfl (fun ls hl => ?_)
  refine lv_iinc (v := 4) (lv' := [(3, .int 4), (1, .long 7246869287), (0, .ref h0)]) hx hb dX5_digest_29 hl (k := 1) rfl (by decide) (by decide) rfl (fun ls hl => ?_)
  refine lv_goto (tgt := 11) hx hb dX5_digest_32 (by decide) ?_
  refine lv_iload_n hx hb dX5_digest_11 rfl (lv_at hl 0 rfl) ?_
  refine lv_iconst (v := 4) hx hb dX5_digest_12 (by decide) ?_
  refine lv_icmp_ge (tgt := 35) hx hb dX5_digest_13 (by decide) (fun _ => ?_) (fun c9 => absurd (by decide) c9)
  refine lv_aload_n hx hb dX5_digest_35 rfl (lv_at hl 2 rfl) ?_
  refine va_get (D := (dC, dI)) (ci := 9) (v := .ref h1) (C := RX5) (T := TX5) (N := 7) hx hb hts (by decide +kernel) hown hK hP 4 rfl rfl 1 (by decide) (hts (.fieldLink RX5 11 "RewriteropeModel" "ropes" "[Ljava/lang/String;") (by decide +kernel)) (fun _ h9 => h9) rfl dX5_digest_36 ?_
  refine lv_astore_n (lv' := [(3, .ref h1), (1, .long 7246869287), (0, .ref h0)]) hx hb dX5_digest_39 rfl hl (by decide) rfl (fun ls hl => ?_)
  refine lv_aload_n hx hb dX5_digest_40 rfl (lv_at hl 0 rfl) ?_
  refine va_alen (D := (dC, dI)) (v := 4) hx hb hK hP 5 0 rfl rfl (show Int32.ofNat 4 = 4 from by decide) dX5_digest_41 ?_
  refine lv_istore (lv' := [(4, .int 4), (3, .ref h1), (1, .long 7246869287), (0, .ref h0)]) hx hb dX5_digest_42 hl (by decide) rfl (fun ls hl => ?_)
  refine lv_iconst (v := 0) hx hb dX5_digest_44 (by decide) ?_
  refine lv_istore (lv' := [(5, .int 0), (4, .int 4), (3, .ref h1), (1, .long 7246869287), (0, .ref h0)]) hx hb dX5_digest_45 hl (by decide) rfl (fun ls hl => ?_)
  refine lv_iload hx hb dX5_digest_47 (lv_at hl 0 rfl) ?_
  refine lv_iload hx hb dX5_digest_49 (lv_at hl 1 rfl) ?_
  refine lv_icmp_ge (tgt := 97) hx hb dX5_digest_51 (by decide) (fun c9 => absurd c9 (by decide)) (fun _ => ?_)
  refine lv_aload_n hx hb dX5_digest_54 rfl (lv_at hl 2 rfl) ?_
  refine lv_iload hx hb dX5_digest_55 (lv_at hl 0 rfl) ?_
  refine va_aldq (D := (dC, dI)) hx hb hK hP 5 0 rfl rfl (by unfold vp_in; decide) dX5_digest_57 ?_
  refine W.eq (g2 := F0 m 58 ls [.ref ge5]) rfl ?_
  refine lv_astore (lv' := [(6, .ref ge5), (5, .int 0), (4, .int 4), (3, .ref h1), (1, .long 7246869287), (0, .ref h0)]) hx hb dX5_digest_58 hl (by decide) rfl (fun ls hl => ?_)
  refine lv_lload_n hx hb dX5_digest_60 rfl (lv_at hl 4 rfl) ?_
  refine lv_aload hx hb dX5_digest_61 (lv_at hl 0 rfl) ?_
  have hPc := hP.sub (ws' := []) [] rfl
  have hDc := hD.sub (ws' := []) [] (by decide) rfl
  have hKc := hK.sub (tys' := []) [] rfl
  have hFc := va_free (wc := []) hD hS hA [] rfl
  refine va_calll (va_runS (As := [.long 7246869287, .ref ge5]) (rest := []) ⟨hx, hb, hml, hown, hts⟩ (kx_X5_add_0 l dC dI ge5 gea gv5 gva gde gic gi0 H.size) (cwS 2 hts gX5_digest_X5_add rfl rfl rfl (by decide +kernel) ⟨Nat.le_of_ble_eq_true rfl, Nat.le_of_ble_eq_true rfl⟩) ⟨fun a U g mk q => by obtain ⟨q0, q1, qP, qK, qD, qG⟩ := q; exact ⟨q0, q1, qP, va_K.moved (u := U) (U := U.calling g mk a) (Vm.Alike.refl U.vm) qK, qD, gv.fb qG⟩, fun U hU hW => ⟨rfl, by rw [hU], by rw [hU]; exact hPc, va_K.moved hW.alike hKc, hDc.weaken (fun _ _ _ _ => trivial), gv.pass hW hU hS hFc hG⟩⟩ rfl rfl hl.1 rfl (lv_room (Nat.le_of_ble_eq_true rfl)) dX5_digest_63 ⟨Nat.le_of_ble_eq_true rfl, Nat.le_of_ble_eq_true rfl⟩) hS (fun q _ h => hFc q h) hFc (fun r9 u t H1 locs ht hvm hw hB hz1 hk1 hS => ?_)
  obtain rfl := hw
  obtain ⟨hP1, hK1, hD1⟩ := hB
  rw [ht] at hP1
  have hK1 := va_K.moved hvm.symm hK1
  obtain ⟨hP, hD⟩ := va_join (wr := [(h2, .inr (3, [.int 0, .ref gde, .int 0])), (q2, .inl (cq3, 4, .inl (upd (upd (upd (upd (fun _ => 0) 0 0) 1 0) 2 0) 3 0))), (q6, .inl (cq7, 4, .inl (upd (upd (upd (upd (fun _ => 0) 0 0) 1 0) 2 0) 3 0))), (q10, .inl (cq11, 4, .inl (upd (upd (upd (upd (fun _ => 0) 0 0) 1 0) 2 0) 3 0))), (h0, .inr (9, [.int 0, .ref h1, .ref h2, .ref z0, .int 0, .int 0, .int 0])), (h1, .inl (k0, 4, .inr (.inr (.inr (.inr (va_up (va_up (va_up (va_up (fun _ => none) 0 (some ge5)) 1 (some ge5)) 2 (some ge5)) 3 (some ge5))))))), (q14, .inl (cq15, 4, .inl (upd (upd (upd (upd (fun _ => 0) 0 0) 1 0) 2 0) 3 0)))]) (w1 := []) hP hD [] [0, 1, 2, 3, 4, 5, 6] rfl rfl (by decide) (by decide) hk1 hFc hP1 hD1
  generalize H1 = H at hP hS ⊢
  have hP : va_P (dC, dI) vwCl [(h2, .inr (3, [.int 0, .ref gde, .int 0])), (q2, .inl (cq3, 4, .inl (upd (upd (upd (upd (fun _ => 0) 0 0) 1 0) 2 0) 3 0))), (q6, .inl (cq7, 4, .inl (upd (upd (upd (upd (fun _ => 0) 0 0) 1 0) 2 0) 3 0))), (q10, .inl (cq11, 4, .inl (upd (upd (upd (upd (fun _ => 0) 0 0) 1 0) 2 0) 3 0))), (h0, .inr (9, [.int 0, .ref h1, .ref h2, .ref z0, .int 0, .int 0, .int 0])), (h1, .inl (k0, 4, .inr (.inr (.inr (.inr (va_up (va_up (va_up (va_up (fun _ => none) 0 (some ge5)) 1 (some ge5)) 2 (some ge5)) 3 (some ge5))))))), (q14, .inl (cq15, 4, .inl (upd (upd (upd (upd (fun _ => 0) 0 0) 1 0) 2 0) 3 0)))] H := hP
  have hD : va_D A [(h2, .inr (3, [.int 0, .ref gde, .int 0])), (q2, .inl (cq3, 4, .inl (upd (upd (upd (upd (fun _ => 0) 0 0) 1 0) 2 0) 3 0))), (q6, .inl (cq7, 4, .inl (upd (upd (upd (upd (fun _ => 0) 0 0) 1 0) 2 0) 3 0))), (q10, .inl (cq11, 4, .inl (upd (upd (upd (upd (fun _ => 0) 0 0) 1 0) 2 0) 3 0))), (h0, .inr (9, [.int 0, .ref h1, .ref h2, .ref z0, .int 0, .int 0, .int 0])), (h1, .inl (k0, 4, .inr (.inr (.inr (.inr (va_up (va_up (va_up (va_up (fun _ => none) 0 (some ge5)) 1 (some ge5)) 2 (some ge5)) 3 (some ge5))))))), (q14, .inl (cq15, 4, .inl (upd (upd (upd (upd (fun _ => 0) 0 0) 1 0) 2 0) 3 0)))] := hD
  refine lv_ldc2 (v := 31) hx hb hown (hts (.constantLong RX5 212 31) (by decide +kernel)) dX5_digest_66 ?_
  refine lv_lmul hx hb dX5_digest_69 ?_
  refine lv_topl (fun y17 ey17 => ?_)
  obtain rfl : y17 = 224652947897 := ey17.trans (by decide +kernel)
  refine lv_aload_n hx hb dX5_digest_70 rfl (lv_at hl 5 rfl) ?_
  refine lv_aload hx hb dX5_digest_71 (lv_at hl 0 rfl) ?_
  have hPc := hP.sub (ws' := [(h0, .inr (9, [.int 0, .ref h1, .ref h2, .ref z0, .int 0, .int 0, .int 0]))]) [4] rfl
  have hDc := hD.sub (ws' := [(h0, .inr (9, [.int 0, .ref h1, .ref h2, .ref z0, .int 0, .int 0, .int 0]))]) [4] (by decide) rfl
  have hKc := hK.sub (tys' := []) [] rfl
  have hFc := va_free (wc := [(h0, .inr (9, [.int 0, .ref h1, .ref h2, .ref z0, .int 0, .int 0, .int 0]))]) hD hS hA [4] rfl
  refine va_callr (va_runV (As := [.ref ge5]) (rest := [.long 224652947897]) ⟨hx, hb, hml, hown, hts⟩ (kx_X5_spotsOf_0 l dC dI ge5 gea gv5 gva gde gic gi0 h0 h1 h2 z0 H.size) (cwV 1 hts gX5_digest_X5_spotsOf rfl rfl rfl (by decide +kernel) ⟨Nat.le_of_ble_eq_true rfl, Nat.le_of_ble_eq_true rfl⟩) ⟨fun a U g mk q => by obtain ⟨q0, q1, qP, qK, qD, qG⟩ := q; exact ⟨q0, q1, qP, va_K.moved (u := U) (U := U.calling g mk a) (Vm.Alike.refl U.vm) qK, qD, gv.fb qG⟩, va_recv hKc hPc (ci := 9) (q0 := 0) rfl rfl, fun U hU hW => ⟨rfl, by rw [hU], by rw [hU]; exact hPc, va_K.moved hW.alike hKc, hDc.weaken (fun _ _ _ _ => trivial), gv.pass hW hU hS hFc hG⟩⟩ rfl rfl hl.1 rfl (lv_room (Nat.le_of_ble_eq_true rfl)) dX5_digest_73 ⟨Nat.le_of_ble_eq_true rfl, Nat.le_of_ble_eq_true rfl⟩) hS (fun q _ h => hFc q h) hFc (fun u ra t H1 locs ht hvm hw hB hz1 hk1 hS => ?_)
  obtain ⟨q18, hra, hP1, hK1, hD1⟩ := hB
  rw [hra]
  rw [ht] at hP1
  have hK1 := va_K.moved hvm.symm hK1
  obtain ⟨hP, hD⟩ := va_join (wr := [(h2, .inr (3, [.int 0, .ref gde, .int 0])), (q2, .inl (cq3, 4, .inl (upd (upd (upd (upd (fun _ => 0) 0 0) 1 0) 2 0) 3 0))), (q6, .inl (cq7, 4, .inl (upd (upd (upd (upd (fun _ => 0) 0 0) 1 0) 2 0) 3 0))), (q10, .inl (cq11, 4, .inl (upd (upd (upd (upd (fun _ => 0) 0 0) 1 0) 2 0) 3 0))), (h1, .inl (k0, 4, .inr (.inr (.inr (.inr (va_up (va_up (va_up (va_up (fun _ => none) 0 (some ge5)) 1 (some ge5)) 2 (some ge5)) 3 (some ge5))))))), (q14, .inl (cq15, 4, .inl (upd (upd (upd (upd (fun _ => 0) 0 0) 1 0) 2 0) 3 0)))]) (w1 := [(h0, .inr (9, [.int 0, .ref h1, .ref h2, .ref z0, .int 0, .int 0, .int 0])), (q18, .inr (3, [.int 0, .ref gde, .int 0]))]) hP hD [4] [0, 1, 2, 3, 5, 6] rfl rfl (by decide) (by decide) hk1 hFc hP1 hD1
  generalize H1 = H at hP hS ⊢
  have hP : va_P (dC, dI) vwCl [(h2, .inr (3, [.int 0, .ref gde, .int 0])), (q2, .inl (cq3, 4, .inl (upd (upd (upd (upd (fun _ => 0) 0 0) 1 0) 2 0) 3 0))), (q6, .inl (cq7, 4, .inl (upd (upd (upd (upd (fun _ => 0) 0 0) 1 0) 2 0) 3 0))), (q10, .inl (cq11, 4, .inl (upd (upd (upd (upd (fun _ => 0) 0 0) 1 0) 2 0) 3 0))), (h1, .inl (k0, 4, .inr (.inr (.inr (.inr (va_up (va_up (va_up (va_up (fun _ => none) 0 (some ge5)) 1 (some ge5)) 2 (some ge5)) 3 (some ge5))))))), (q14, .inl (cq15, 4, .inl (upd (upd (upd (upd (fun _ => 0) 0 0) 1 0) 2 0) 3 0))), (h0, .inr (9, [.int 0, .ref h1, .ref h2, .ref z0, .int 0, .int 0, .int 0])), (q18, .inr (3, [.int 0, .ref gde, .int 0]))] H := hP
  have hD : va_D A [(h2, .inr (3, [.int 0, .ref gde, .int 0])), (q2, .inl (cq3, 4, .inl (upd (upd (upd (upd (fun _ => 0) 0 0) 1 0) 2 0) 3 0))), (q6, .inl (cq7, 4, .inl (upd (upd (upd (upd (fun _ => 0) 0 0) 1 0) 2 0) 3 0))), (q10, .inl (cq11, 4, .inl (upd (upd (upd (upd (fun _ => 0) 0 0) 1 0) 2 0) 3 0))), (h1, .inl (k0, 4, .inr (.inr (.inr (.inr (va_up (va_up (va_up (va_up (fun _ => none) 0 (some ge5)) 1 (some ge5)) 2 (some ge5)) 3 (some ge5))))))), (q14, .inl (cq15, 4, .inl (upd (upd (upd (upd (fun _ => 0) 0 0) 1 0) 2 0) 3 0))), (h0, .inr (9, [.int 0, .ref h1, .ref h2, .ref z0, .int 0, .int 0, .int 0])), (q18, .inr (3, [.int 0, .ref gde, .int 0]))] := hD
  refine W.widen (k := 5) (n := 19) (by omega) (by omega) ?_
  have hPc := hP.sub (ws' := [(q18, .inr (3, [.int 0, .ref gde, .int 0]))]) [7] rfl
  have hDc := hD.sub (ws' := [(q18, .inr (3, [.int 0, .ref gde, .int 0]))]) [7] (by decide) rfl
  have hKc := hK.sub (tys' := []) [] rfl
  have hFc := va_free (wc := [(q18, .inr (3, [.int 0, .ref gde, .int 0]))]) hD hS hA [7] rfl
  refine va_calli (va_runV (As := []) (rest := [.long 224652947897]) ⟨hx, hb, hml, hown, hts⟩ (kx_Jx4a65c_size_8abf5_1 l dC dI ge5 gea gv5 gva gde gic gi0 q18 H.size) (cwV 0 hts gX5_digest_Jx4a65c_size_8abf5 rfl rfl rfl (by decide +kernel) ⟨Nat.le_of_ble_eq_true rfl, Nat.le_of_ble_eq_true rfl⟩) ⟨fun a U g mk q => by obtain ⟨q0, q1, qP, qK, qD, qG⟩ := q; exact ⟨q0, q1, qP, va_K.moved (u := U) (U := U.calling g mk a) (Vm.Alike.refl U.vm) qK, qD, gv.fb qG⟩, va_recv hKc hPc (ci := 3) (q0 := 0) rfl rfl, fun U hU hW => ⟨rfl, by rw [hU], by rw [hU]; exact hPc, va_K.moved hW.alike hKc, hDc.weaken (fun _ _ _ _ => trivial), gv.pass hW hU hS hFc hG⟩⟩ rfl rfl hl.1 rfl (lv_room (Nat.le_of_ble_eq_true rfl)) dX5_digest_76 ⟨Nat.le_of_ble_eq_true rfl, Nat.le_of_ble_eq_true rfl⟩) hS (fun q _ h => hFc q h) hFc (fun r9 u t H1 locs ht hvm hw hB hz1 hk1 hS => ?_)
  obtain rfl := hw
  obtain ⟨hP1, hK1, hD1⟩ := hB
  rw [ht] at hP1
  have hK1 := va_K.moved hvm.symm hK1
  obtain ⟨hP, hD⟩ := va_join (wr := [(h2, .inr (3, [.int 0, .ref gde, .int 0])), (q2, .inl (cq3, 4, .inl (upd (upd (upd (upd (fun _ => 0) 0 0) 1 0) 2 0) 3 0))), (q6, .inl (cq7, 4, .inl (upd (upd (upd (upd (fun _ => 0) 0 0) 1 0) 2 0) 3 0))), (q10, .inl (cq11, 4, .inl (upd (upd (upd (upd (fun _ => 0) 0 0) 1 0) 2 0) 3 0))), (h1, .inl (k0, 4, .inr (.inr (.inr (.inr (va_up (va_up (va_up (va_up (fun _ => none) 0 (some ge5)) 1 (some ge5)) 2 (some ge5)) 3 (some ge5))))))), (q14, .inl (cq15, 4, .inl (upd (upd (upd (upd (fun _ => 0) 0 0) 1 0) 2 0) 3 0))), (h0, .inr (9, [.int 0, .ref h1, .ref h2, .ref z0, .int 0, .int 0, .int 0]))]) (w1 := [(q18, .inr (3, [.int 0, .ref gde, .int 0]))]) hP hD [7] [0, 1, 2, 3, 4, 5, 6] rfl rfl (by decide) (by decide) hk1 hFc hP1 hD1
  generalize H1 = H at hP hS ⊢
  have hP : va_P (dC, dI) vwCl [(h2, .inr (3, [.int 0, .ref gde, .int 0])), (q2, .inl (cq3, 4, .inl (upd (upd (upd (upd (fun _ => 0) 0 0) 1 0) 2 0) 3 0))), (q6, .inl (cq7, 4, .inl (upd (upd (upd (upd (fun _ => 0) 0 0) 1 0) 2 0) 3 0))), (q10, .inl (cq11, 4, .inl (upd (upd (upd (upd (fun _ => 0) 0 0) 1 0) 2 0) 3 0))), (h1, .inl (k0, 4, .inr (.inr (.inr (.inr (va_up (va_up (va_up (va_up (fun _ => none) 0 (some ge5)) 1 (some ge5)) 2 (some ge5)) 3 (some ge5))))))), (q14, .inl (cq15, 4, .inl (upd (upd (upd (upd (fun _ => 0) 0 0) 1 0) 2 0) 3 0))), (h0, .inr (9, [.int 0, .ref h1, .ref h2, .ref z0, .int 0, .int 0, .int 0])), (q18, .inr (3, [.int 0, .ref gde, .int 0]))] H := hP
  have hD : va_D A [(h2, .inr (3, [.int 0, .ref gde, .int 0])), (q2, .inl (cq3, 4, .inl (upd (upd (upd (upd (fun _ => 0) 0 0) 1 0) 2 0) 3 0))), (q6, .inl (cq7, 4, .inl (upd (upd (upd (upd (fun _ => 0) 0 0) 1 0) 2 0) 3 0))), (q10, .inl (cq11, 4, .inl (upd (upd (upd (upd (fun _ => 0) 0 0) 1 0) 2 0) 3 0))), (h1, .inl (k0, 4, .inr (.inr (.inr (.inr (va_up (va_up (va_up (va_up (fun _ => none) 0 (some ge5)) 1 (some ge5)) 2 (some ge5)) 3 (some ge5))))))), (q14, .inl (cq15, 4, .inl (upd (upd (upd (upd (fun _ => 0) 0 0) 1 0) 2 0) 3 0))), (h0, .inr (9, [.int 0, .ref h1, .ref h2, .ref z0, .int 0, .int 0, .int 0])), (q18, .inr (3, [.int 0, .ref gde, .int 0]))] := hD
  refine lv_i2l (v := 0) hx hb dX5_digest_79 (by decide) ?_
  refine lv_ladd hx hb dX5_digest_80 ?_
  refine lv_topl (fun y19 ey19 => ?_)
  obtain rfl : y19 = 224652947897 := ey19.trans (by decide +kernel)
  refine lv_aload_n hx hb dX5_digest_81 rfl (lv_at hl 5 rfl) ?_
  refine lv_aload hx hb dX5_digest_82 (lv_at hl 0 rfl) ?_
  have hPc := hP.sub (ws' := [(h2, .inr (3, [.int 0, .ref gde, .int 0])), (h0, .inr (9, [.int 0, .ref h1, .ref h2, .ref z0, .int 0, .int 0, .int 0]))]) [0, 6] rfl
  have hDc := hD.sub (ws' := [(h2, .inr (3, [.int 0, .ref gde, .int 0])), (h0, .inr (9, [.int 0, .ref h1, .ref h2, .ref z0, .int 0, .int 0, .int 0]))]) [0, 6] (by decide) rfl
  have hKc := hK.sub (tys' := []) [] rfl
  have hFc := va_free (wc := [(h2, .inr (3, [.int 0, .ref gde, .int 0])), (h0, .inr (9, [.int 0, .ref h1, .ref h2, .ref z0, .int 0, .int 0, .int 0]))]) hD hS hA [0, 6] rfl
  refine va_callr (va_runV (As := [.ref ge5]) (rest := [.long 224652947897]) ⟨hx, hb, hml, hown, hts⟩ (kx_X5_formOf_0 l dC dI ge5 gea gv5 gva gde gic gi0 h2 h0 h1 z0 H.size) (cwV 1 hts gX5_digest_X5_formOf rfl rfl rfl (by decide +kernel) ⟨Nat.le_of_ble_eq_true rfl, Nat.le_of_ble_eq_true rfl⟩) ⟨fun a U g mk q => by obtain ⟨q0, q1, qP, qK, qD, qG⟩ := q; exact ⟨q0, q1, qP, va_K.moved (u := U) (U := U.calling g mk a) (Vm.Alike.refl U.vm) qK, qD, gv.fb qG⟩, va_recv hKc hPc (ci := 9) (q0 := 1) rfl rfl, fun U hU hW => ⟨rfl, by rw [hU], by rw [hU]; exact hPc, va_K.moved hW.alike hKc, hDc.weaken (fun _ _ _ _ => trivial), gv.pass hW hU hS hFc hG⟩⟩ rfl rfl hl.1 rfl (lv_room (Nat.le_of_ble_eq_true rfl)) dX5_digest_84 ⟨Nat.le_of_ble_eq_true rfl, Nat.le_of_ble_eq_true rfl⟩) hS (fun q _ h => hFc q h) hFc (fun u ra t H1 locs ht hvm hw hB hz1 hk1 hS => ?_)
  obtain ⟨q20, cq21, hra, hP1, hK1, hD1⟩ := hB
  rw [hra]
  rw [ht] at hP1
  have hK1 := va_K.moved hvm.symm hK1
  obtain ⟨hP, hD⟩ := va_join (wr := [(q2, .inl (cq3, 4, .inl (upd (upd (upd (upd (fun _ => 0) 0 0) 1 0) 2 0) 3 0))), (q6, .inl (cq7, 4, .inl (upd (upd (upd (upd (fun _ => 0) 0 0) 1 0) 2 0) 3 0))), (q10, .inl (cq11, 4, .inl (upd (upd (upd (upd (fun _ => 0) 0 0) 1 0) 2 0) 3 0))), (h1, .inl (k0, 4, .inr (.inr (.inr (.inr (va_up (va_up (va_up (va_up (fun _ => none) 0 (some ge5)) 1 (some ge5)) 2 (some ge5)) 3 (some ge5))))))), (q14, .inl (cq15, 4, .inl (upd (upd (upd (upd (fun _ => 0) 0 0) 1 0) 2 0) 3 0))), (q18, .inr (3, [.int 0, .ref gde, .int 0]))]) (w1 := [(h2, .inr (3, [.int 0, .ref gde, .int 0])), (h0, .inr (9, [.int 0, .ref h1, .ref h2, .ref z0, .int 0, .int 0, .int 0])), (q20, .inl (cq21, 1, .inl (fun _ => 0)))]) hP hD [0, 6] [1, 2, 3, 4, 5, 7] rfl rfl (by decide) (by decide) hk1 hFc hP1 hD1
  have hK := hK.app (hK1.sub (tys' := [(cq21, .int)]) [0] rfl)
  generalize H1 = H at hP hS ⊢
  have hK : va_K (dC, dI) vwCl [(k0, .object "java/lang/String"), (cq3, .int), (cq7, .int), (cq11, .int), (cq15, .int), (cq21, .int)] s := hK
  have hP : va_P (dC, dI) vwCl [(q2, .inl (cq3, 4, .inl (upd (upd (upd (upd (fun _ => 0) 0 0) 1 0) 2 0) 3 0))), (q6, .inl (cq7, 4, .inl (upd (upd (upd (upd (fun _ => 0) 0 0) 1 0) 2 0) 3 0))), (q10, .inl (cq11, 4, .inl (upd (upd (upd (upd (fun _ => 0) 0 0) 1 0) 2 0) 3 0))), (h1, .inl (k0, 4, .inr (.inr (.inr (.inr (va_up (va_up (va_up (va_up (fun _ => none) 0 (some ge5)) 1 (some ge5)) 2 (some ge5)) 3 (some ge5))))))), (q14, .inl (cq15, 4, .inl (upd (upd (upd (upd (fun _ => 0) 0 0) 1 0) 2 0) 3 0))), (q18, .inr (3, [.int 0, .ref gde, .int 0])), (h2, .inr (3, [.int 0, .ref gde, .int 0])), (h0, .inr (9, [.int 0, .ref h1, .ref h2, .ref z0, .int 0, .int 0, .int 0])), (q20, .inl (cq21, 1, .inl (fun _ => 0)))] H := hP
  have hD : va_D A [(q2, .inl (cq3, 4, .inl (upd (upd (upd (upd (fun _ => 0) 0 0) 1 0) 2 0) 3 0))), (q6, .inl (cq7, 4, .inl (upd (upd (upd (upd (fun _ => 0) 0 0) 1 0) 2 0) 3 0))), (q10, .inl (cq11, 4, .inl (upd (upd (upd (upd (fun _ => 0) 0 0) 1 0) 2 0) 3 0))), (h1, .inl (k0, 4, .inr (.inr (.inr (.inr (va_up (va_up (va_up (va_up (fun _ => none) 0 (some ge5)) 1 (some ge5)) 2 (some ge5)) 3 (some ge5))))))), (q14, .inl (cq15, 4, .inl (upd (upd (upd (upd (fun _ => 0) 0 0) 1 0) 2 0) 3 0))), (q18, .inr (3, [.int 0, .ref gde, .int 0])), (h2, .inr (3, [.int 0, .ref gde, .int 0])), (h0, .inr (9, [.int 0, .ref h1, .ref h2, .ref z0, .int 0, .int 0, .int 0])), (q20, .inl (cq21, 1, .inl (fun _ => 0)))] := hD
  refine W.widen (k := 6) (n := 20) (by omega) (by omega) ?_
  have hPc := hP.sub (ws' := []) [] rfl
  have hDc := hD.sub (ws' := []) [] (by decide) rfl
  have hKc := hK.sub (tys' := []) [] rfl
  have hFc := va_free (wc := []) hD hS hA [] rfl
  refine va_calll (va_runS (As := [.long 224652947897, .ref ge5]) (rest := []) ⟨hx, hb, hml, hown, hts⟩ (kx_X5_add_1 l dC dI ge5 gea gv5 gva gde gic gi0 H.size) (cwS 2 hts gX5_digest_X5_add rfl rfl rfl (by decide +kernel) ⟨Nat.le_of_ble_eq_true rfl, Nat.le_of_ble_eq_true rfl⟩) ⟨fun a U g mk q => by obtain ⟨q0, q1, qP, qK, qD, qG⟩ := q; exact ⟨q0, q1, qP, va_K.moved (u := U) (U := U.calling g mk a) (Vm.Alike.refl U.vm) qK, qD, gv.fb qG⟩, fun U hU hW => ⟨rfl, by rw [hU], by rw [hU]; exact hPc, va_K.moved hW.alike hKc, hDc.weaken (fun _ _ _ _ => trivial), gv.pass hW hU hS hFc hG⟩⟩ rfl rfl hl.1 rfl (lv_room (Nat.le_of_ble_eq_true rfl)) dX5_digest_87 ⟨Nat.le_of_ble_eq_true rfl, Nat.le_of_ble_eq_true rfl⟩) hS (fun q _ h => hFc q h) hFc (fun r9 u t H1 locs ht hvm hw hB hz1 hk1 hS => ?_)
  obtain rfl := hw
  obtain ⟨hP1, hK1, hD1⟩ := hB
  rw [ht] at hP1
  have hK1 := va_K.moved hvm.symm hK1
  obtain ⟨hP, hD⟩ := va_join (wr := [(q2, .inl (cq3, 4, .inl (upd (upd (upd (upd (fun _ => 0) 0 0) 1 0) 2 0) 3 0))), (q6, .inl (cq7, 4, .inl (upd (upd (upd (upd (fun _ => 0) 0 0) 1 0) 2 0) 3 0))), (q10, .inl (cq11, 4, .inl (upd (upd (upd (upd (fun _ => 0) 0 0) 1 0) 2 0) 3 0))), (h1, .inl (k0, 4, .inr (.inr (.inr (.inr (va_up (va_up (va_up (va_up (fun _ => none) 0 (some ge5)) 1 (some ge5)) 2 (some ge5)) 3 (some ge5))))))), (q14, .inl (cq15, 4, .inl (upd (upd (upd (upd (fun _ => 0) 0 0) 1 0) 2 0) 3 0))), (q18, .inr (3, [.int 0, .ref gde, .int 0])), (h2, .inr (3, [.int 0, .ref gde, .int 0])), (h0, .inr (9, [.int 0, .ref h1, .ref h2, .ref z0, .int 0, .int 0, .int 0])), (q20, .inl (cq21, 1, .inl (fun _ => 0)))]) (w1 := []) hP hD [] [0, 1, 2, 3, 4, 5, 6, 7, 8] rfl rfl (by decide) (by decide) hk1 hFc hP1 hD1
  generalize H1 = H at hP hS ⊢
  have hP : va_P (dC, dI) vwCl [(q2, .inl (cq3, 4, .inl (upd (upd (upd (upd (fun _ => 0) 0 0) 1 0) 2 0) 3 0))), (q6, .inl (cq7, 4, .inl (upd (upd (upd (upd (fun _ => 0) 0 0) 1 0) 2 0) 3 0))), (q10, .inl (cq11, 4, .inl (upd (upd (upd (upd (fun _ => 0) 0 0) 1 0) 2 0) 3 0))), (h1, .inl (k0, 4, .inr (.inr (.inr (.inr (va_up (va_up (va_up (va_up (fun _ => none) 0 (some ge5)) 1 (some ge5)) 2 (some ge5)) 3 (some ge5))))))), (q14, .inl (cq15, 4, .inl (upd (upd (upd (upd (fun _ => 0) 0 0) 1 0) 2 0) 3 0))), (q18, .inr (3, [.int 0, .ref gde, .int 0])), (h2, .inr (3, [.int 0, .ref gde, .int 0])), (h0, .inr (9, [.int 0, .ref h1, .ref h2, .ref z0, .int 0, .int 0, .int 0])), (q20, .inl (cq21, 1, .inl (fun _ => 0)))] H := hP
  have hD : va_D A [(q2, .inl (cq3, 4, .inl (upd (upd (upd (upd (fun _ => 0) 0 0) 1 0) 2 0) 3 0))), (q6, .inl (cq7, 4, .inl (upd (upd (upd (upd (fun _ => 0) 0 0) 1 0) 2 0) 3 0))), (q10, .inl (cq11, 4, .inl (upd (upd (upd (upd (fun _ => 0) 0 0) 1 0) 2 0) 3 0))), (h1, .inl (k0, 4, .inr (.inr (.inr (.inr (va_up (va_up (va_up (va_up (fun _ => none) 0 (some ge5)) 1 (some ge5)) 2 (some ge5)) 3 (some ge5))))))), (q14, .inl (cq15, 4, .inl (upd (upd (upd (upd (fun _ => 0) 0 0) 1 0) 2 0) 3 0))), (q18, .inr (3, [.int 0, .ref gde, .int 0])), (h2, .inr (3, [.int 0, .ref gde, .int 0])), (h0, .inr (9, [.int 0, .ref h1, .ref h2, .ref z0, .int 0, .int 0, .int 0])), (q20, .inl (cq21, 1, .inl (fun _ => 0)))] := hD
  refine lv_lstore_n (lv' := [(1, .long 224652947897), (6, .ref ge5), (5, .int 0), (4, .int 4), (3, .ref h1), (0, .ref h0)]) hx hb dX5_digest_90 rfl hl (by decide) rfl (fun ls hl => ?_)
  refine lv_iinc (v := 1) (lv' := [(5, .int 1), (1, .long 224652947897), (6, .ref ge5), (4, .int 4), (3, .ref h1), (0, .ref h0)]) hx hb dX5_digest_91 hl (k := 2) rfl (by decide) (by decide) rfl (fun ls hl => ?_)
  refine lv_goto (tgt := 47) hx hb dX5_digest_94 (by decide) ?_
  refine lv_iload hx hb dX5_digest_47 (lv_at hl 0 rfl) ?_
  refine lv_iload hx hb dX5_digest_49 (lv_at hl 3 rfl) ?_
  refine lv_icmp_ge (tgt := 97) hx hb dX5_digest_51 (by decide) (fun c9 => absurd c9 (by decide)) (fun _ => ?_)
  refine lv_aload_n hx hb dX5_digest_54 rfl (lv_at hl 4 rfl) ?_
  refine lv_iload hx hb dX5_digest_55 (lv_at hl 0 rfl) ?_
  refine va_aldq (D := (dC, dI)) hx hb hK hP 3 0 rfl rfl (by unfold vp_in; decide) dX5_digest_57 ?_
  refine W.eq (g2 := F0 m 58 ls [.ref ge5]) rfl ?_
  refine lv_astore (lv' := [(6, .ref ge5), (5, .int 1), (1, .long 224652947897), (4, .int 4), (3, .ref h1), (0, .ref h0)]) hx hb dX5_digest_58 hl (by decide) rfl (fun ls hl => ?_)
  refine lv_lload_n hx hb dX5_digest_60 rfl (lv_at hl 2 rfl) ?_
  refine lv_aload hx hb dX5_digest_61 (lv_at hl 0 rfl) ?_
  have hPc := hP.sub (ws' := []) [] rfl
  have hDc := hD.sub (ws' := []) [] (by decide) rfl
  have hKc := hK.sub (tys' := []) [] rfl
  have hFc := va_free (wc := []) hD hS hA [] rfl
  refine va_calll (va_runS (As := [.long 224652947897, .ref ge5]) (rest := []) ⟨hx, hb, hml, hown, hts⟩ (kx_X5_add_1 l dC dI ge5 gea gv5 gva gde gic gi0 H.size) (cwS 2 hts gX5_digest_X5_add rfl rfl rfl (by decide +kernel) ⟨Nat.le_of_ble_eq_true rfl, Nat.le_of_ble_eq_true rfl⟩) ⟨fun a U g mk q => by obtain ⟨q0, q1, qP, qK, qD, qG⟩ := q; exact ⟨q0, q1, qP, va_K.moved (u := U) (U := U.calling g mk a) (Vm.Alike.refl U.vm) qK, qD, gv.fb qG⟩, fun U hU hW => ⟨rfl, by rw [hU], by rw [hU]; exact hPc, va_K.moved hW.alike hKc, hDc.weaken (fun _ _ _ _ => trivial), gv.pass hW hU hS hFc hG⟩⟩ rfl rfl hl.1 rfl (lv_room (Nat.le_of_ble_eq_true rfl)) dX5_digest_63 ⟨Nat.le_of_ble_eq_true rfl, Nat.le_of_ble_eq_true rfl⟩) hS (fun q _ h => hFc q h) hFc (fun r9 u t H1 locs ht hvm hw hB hz1 hk1 hS => ?_)
  obtain rfl := hw
  obtain ⟨hP1, hK1, hD1⟩ := hB
  rw [ht] at hP1
  have hK1 := va_K.moved hvm.symm hK1
  obtain ⟨hP, hD⟩ := va_join (wr := [(q2, .inl (cq3, 4, .inl (upd (upd (upd (upd (fun _ => 0) 0 0) 1 0) 2 0) 3 0))), (q6, .inl (cq7, 4, .inl (upd (upd (upd (upd (fun _ => 0) 0 0) 1 0) 2 0) 3 0))), (q10, .inl (cq11, 4, .inl (upd (upd (upd (upd (fun _ => 0) 0 0) 1 0) 2 0) 3 0))), (h1, .inl (k0, 4, .inr (.inr (.inr (.inr (va_up (va_up (va_up (va_up (fun _ => none) 0 (some ge5)) 1 (some ge5)) 2 (some ge5)) 3 (some ge5))))))), (q14, .inl (cq15, 4, .inl (upd (upd (upd (upd (fun _ => 0) 0 0) 1 0) 2 0) 3 0))), (q18, .inr (3, [.int 0, .ref gde, .int 0])), (h2, .inr (3, [.int 0, .ref gde, .int 0])), (h0, .inr (9, [.int 0, .ref h1, .ref h2, .ref z0, .int 0, .int 0, .int 0])), (q20, .inl (cq21, 1, .inl (fun _ => 0)))]) (w1 := []) hP hD [] [0, 1, 2, 3, 4, 5, 6, 7, 8] rfl rfl (by decide) (by decide) hk1 hFc hP1 hD1
  generalize H1 = H at hP hS ⊢
  have hP : va_P (dC, dI) vwCl [(q2, .inl (cq3, 4, .inl (upd (upd (upd (upd (fun _ => 0) 0 0) 1 0) 2 0) 3 0))), (q6, .inl (cq7, 4, .inl (upd (upd (upd (upd (fun _ => 0) 0 0) 1 0) 2 0) 3 0))), (q10, .inl (cq11, 4, .inl (upd (upd (upd (upd (fun _ => 0) 0 0) 1 0) 2 0) 3 0))), (h1, .inl (k0, 4, .inr (.inr (.inr (.inr (va_up (va_up (va_up (va_up (fun _ => none) 0 (some ge5)) 1 (some ge5)) 2 (some ge5)) 3 (some ge5))))))), (q14, .inl (cq15, 4, .inl (upd (upd (upd (upd (fun _ => 0) 0 0) 1 0) 2 0) 3 0))), (q18, .inr (3, [.int 0, .ref gde, .int 0])), (h2, .inr (3, [.int 0, .ref gde, .int 0])), (h0, .inr (9, [.int 0, .ref h1, .ref h2, .ref z0, .int 0, .int 0, .int 0])), (q20, .inl (cq21, 1, .inl (fun _ => 0)))] H := hP
  have hD : va_D A [(q2, .inl (cq3, 4, .inl (upd (upd (upd (upd (fun _ => 0) 0 0) 1 0) 2 0) 3 0))), (q6, .inl (cq7, 4, .inl (upd (upd (upd (upd (fun _ => 0) 0 0) 1 0) 2 0) 3 0))), (q10, .inl (cq11, 4, .inl (upd (upd (upd (upd (fun _ => 0) 0 0) 1 0) 2 0) 3 0))), (h1, .inl (k0, 4, .inr (.inr (.inr (.inr (va_up (va_up (va_up (va_up (fun _ => none) 0 (some ge5)) 1 (some ge5)) 2 (some ge5)) 3 (some ge5))))))), (q14, .inl (cq15, 4, .inl (upd (upd (upd (upd (fun _ => 0) 0 0) 1 0) 2 0) 3 0))), (q18, .inr (3, [.int 0, .ref gde, .int 0])), (h2, .inr (3, [.int 0, .ref gde, .int 0])), (h0, .inr (9, [.int 0, .ref h1, .ref h2, .ref z0, .int 0, .int 0, .int 0])), (q20, .inl (cq21, 1, .inl (fun _ => 0)))] := hD
  refine lv_ldc2 (v := 31) hx hb hown (hts (.constantLong RX5 212 31) (by decide +kernel)) dX5_digest_66 ?_
  refine lv_lmul hx hb dX5_digest_69 ?_
  refine lv_topl (fun y22 ey22 => ?_)
  obtain rfl : y22 = 6964241384807 := ey22.trans (by decide +kernel)
  refine lv_aload_n hx hb dX5_digest_70 rfl (lv_at hl 5 rfl) ?_
  refine lv_aload hx hb dX5_digest_71 (lv_at hl 0 rfl) ?_
  have hPc := hP.sub (ws' := [(h0, .inr (9, [.int 0, .ref h1, .ref h2, .ref z0, .int 0, .int 0, .int 0]))]) [7] rfl
  have hDc := hD.sub (ws' := [(h0, .inr (9, [.int 0, .ref h1, .ref h2, .ref z0, .int 0, .int 0, .int 0]))]) [7] (by decide) rfl
  have hKc := hK.sub (tys' := []) [] rfl
  have hFc := va_free (wc := [(h0, .inr (9, [.int 0, .ref h1, .ref h2, .ref z0, .int 0, .int 0, .int 0]))]) hD hS hA [7] rfl
  refine va_callr (va_runV (As := [.ref ge5]) (rest := [.long 6964241384807]) ⟨hx, hb, hml, hown, hts⟩ (kx_X5_spotsOf_0 l dC dI ge5 gea gv5 gva gde gic gi0 h0 h1 h2 z0 H.size) (cwV 1 hts gX5_digest_X5_spotsOf rfl rfl rfl (by decide +kernel) ⟨Nat.le_of_ble_eq_true rfl, Nat.le_of_ble_eq_true rfl⟩) ⟨fun a U g mk q => by obtain ⟨q0, q1, qP, qK, qD, qG⟩ := q; exact ⟨q0, q1, qP, va_K.moved (u := U) (U := U.calling g mk a) (Vm.Alike.refl U.vm) qK, qD, gv.fb qG⟩, va_recv hKc hPc (ci := 9) (q0 := 0) rfl rfl, fun U hU hW => ⟨rfl, by rw [hU], by rw [hU]; exact hPc, va_K.moved hW.alike hKc, hDc.weaken (fun _ _ _ _ => trivial), gv.pass hW hU hS hFc hG⟩⟩ rfl rfl hl.1 rfl (lv_room (Nat.le_of_ble_eq_true rfl)) dX5_digest_73 ⟨Nat.le_of_ble_eq_true rfl, Nat.le_of_ble_eq_true rfl⟩) hS (fun q _ h => hFc q h) hFc (fun u ra t H1 locs ht hvm hw hB hz1 hk1 hS => ?_)
  obtain ⟨q23, hra, hP1, hK1, hD1⟩ := hB
  rw [hra]
  rw [ht] at hP1
  have hK1 := va_K.moved hvm.symm hK1
  obtain ⟨hP, hD⟩ := va_join (wr := [(q2, .inl (cq3, 4, .inl (upd (upd (upd (upd (fun _ => 0) 0 0) 1 0) 2 0) 3 0))), (q6, .inl (cq7, 4, .inl (upd (upd (upd (upd (fun _ => 0) 0 0) 1 0) 2 0) 3 0))), (q10, .inl (cq11, 4, .inl (upd (upd (upd (upd (fun _ => 0) 0 0) 1 0) 2 0) 3 0))), (h1, .inl (k0, 4, .inr (.inr (.inr (.inr (va_up (va_up (va_up (va_up (fun _ => none) 0 (some ge5)) 1 (some ge5)) 2 (some ge5)) 3 (some ge5))))))), (q14, .inl (cq15, 4, .inl (upd (upd (upd (upd (fun _ => 0) 0 0) 1 0) 2 0) 3 0))), (q18, .inr (3, [.int 0, .ref gde, .int 0])), (h2, .inr (3, [.int 0, .ref gde, .int 0])), (q20, .inl (cq21, 1, .inl (fun _ => 0)))]) (w1 := [(h0, .inr (9, [.int 0, .ref h1, .ref h2, .ref z0, .int 0, .int 0, .int 0])), (q23, .inr (3, [.int 0, .ref gde, .int 0]))]) hP hD [7] [0, 1, 2, 3, 4, 5, 6, 8] rfl rfl (by decide) (by decide) hk1 hFc hP1 hD1
  generalize H1 = H at hP hS ⊢
  have hP : va_P (dC, dI) vwCl [(q2, .inl (cq3, 4, .inl (upd (upd (upd (upd (fun _ => 0) 0 0) 1 0) 2 0) 3 0))), (q6, .inl (cq7, 4, .inl (upd (upd (upd (upd (fun _ => 0) 0 0) 1 0) 2 0) 3 0))), (q10, .inl (cq11, 4, .inl (upd (upd (upd (upd (fun _ => 0) 0 0) 1 0) 2 0) 3 0))), (h1, .inl (k0, 4, .inr (.inr (.inr (.inr (va_up (va_up (va_up (va_up (fun _ => none) 0 (some ge5)) 1 (some ge5)) 2 (some ge5)) 3 (some ge5))))))), (q14, .inl (cq15, 4, .inl (upd (upd (upd (upd (fun _ => 0) 0 0) 1 0) 2 0) 3 0))), (q18, .inr (3, [.int 0, .ref gde, .int 0])), (h2, .inr (3, [.int 0, .ref gde, .int 0])), (q20, .inl (cq21, 1, .inl (fun _ => 0))), (h0, .inr (9, [.int 0, .ref h1, .ref h2, .ref z0, .int 0, .int 0, .int 0])), (q23, .inr (3, [.int 0, .ref gde, .int 0]))] H := hP
  have hD : va_D A [(q2, .inl (cq3, 4, .inl (upd (upd (upd (upd (fun _ => 0) 0 0) 1 0) 2 0) 3 0))), (q6, .inl (cq7, 4, .inl (upd (upd (upd (upd (fun _ => 0) 0 0) 1 0) 2 0) 3 0))), (q10, .inl (cq11, 4, .inl (upd (upd (upd (upd (fun _ => 0) 0 0) 1 0) 2 0) 3 0))), (h1, .inl (k0, 4, .inr (.inr (.inr (.inr (va_up (va_up (va_up (va_up (fun _ => none) 0 (some ge5)) 1 (some ge5)) 2 (some ge5)) 3 (some ge5))))))), (q14, .inl (cq15, 4, .inl (upd (upd (upd (upd (fun _ => 0) 0 0) 1 0) 2 0) 3 0))), (q18, .inr (3, [.int 0, .ref gde, .int 0])), (h2, .inr (3, [.int 0, .ref gde, .int 0])), (q20, .inl (cq21, 1, .inl (fun _ => 0))), (h0, .inr (9, [.int 0, .ref h1, .ref h2, .ref z0, .int 0, .int 0, .int 0])), (q23, .inr (3, [.int 0, .ref gde, .int 0]))] := hD
  refine W.widen (k := 7) (n := 23) (by omega) (by omega) ?_
  have hPc := hP.sub (ws' := [(q23, .inr (3, [.int 0, .ref gde, .int 0]))]) [9] rfl
  have hDc := hD.sub (ws' := [(q23, .inr (3, [.int 0, .ref gde, .int 0]))]) [9] (by decide) rfl
  have hKc := hK.sub (tys' := []) [] rfl
  have hFc := va_free (wc := [(q23, .inr (3, [.int 0, .ref gde, .int 0]))]) hD hS hA [9] rfl
  refine va_calli (va_runV (As := []) (rest := [.long 6964241384807]) ⟨hx, hb, hml, hown, hts⟩ (kx_Jx4a65c_size_8abf5_1 l dC dI ge5 gea gv5 gva gde gic gi0 q23 H.size) (cwV 0 hts gX5_digest_Jx4a65c_size_8abf5 rfl rfl rfl (by decide +kernel) ⟨Nat.le_of_ble_eq_true rfl, Nat.le_of_ble_eq_true rfl⟩) ⟨fun a U g mk q => by obtain ⟨q0, q1, qP, qK, qD, qG⟩ := q; exact ⟨q0, q1, qP, va_K.moved (u := U) (U := U.calling g mk a) (Vm.Alike.refl U.vm) qK, qD, gv.fb qG⟩, va_recv hKc hPc (ci := 3) (q0 := 0) rfl rfl, fun U hU hW => ⟨rfl, by rw [hU], by rw [hU]; exact hPc, va_K.moved hW.alike hKc, hDc.weaken (fun _ _ _ _ => trivial), gv.pass hW hU hS hFc hG⟩⟩ rfl rfl hl.1 rfl (lv_room (Nat.le_of_ble_eq_true rfl)) dX5_digest_76 ⟨Nat.le_of_ble_eq_true rfl, Nat.le_of_ble_eq_true rfl⟩) hS (fun q _ h => hFc q h) hFc (fun r9 u t H1 locs ht hvm hw hB hz1 hk1 hS => ?_)
  obtain rfl := hw
  obtain ⟨hP1, hK1, hD1⟩ := hB
  rw [ht] at hP1
  have hK1 := va_K.moved hvm.symm hK1
  obtain ⟨hP, hD⟩ := va_join (wr := [(q2, .inl (cq3, 4, .inl (upd (upd (upd (upd (fun _ => 0) 0 0) 1 0) 2 0) 3 0))), (q6, .inl (cq7, 4, .inl (upd (upd (upd (upd (fun _ => 0) 0 0) 1 0) 2 0) 3 0))), (q10, .inl (cq11, 4, .inl (upd (upd (upd (upd (fun _ => 0) 0 0) 1 0) 2 0) 3 0))), (h1, .inl (k0, 4, .inr (.inr (.inr (.inr (va_up (va_up (va_up (va_up (fun _ => none) 0 (some ge5)) 1 (some ge5)) 2 (some ge5)) 3 (some ge5))))))), (q14, .inl (cq15, 4, .inl (upd (upd (upd (upd (fun _ => 0) 0 0) 1 0) 2 0) 3 0))), (q18, .inr (3, [.int 0, .ref gde, .int 0])), (h2, .inr (3, [.int 0, .ref gde, .int 0])), (q20, .inl (cq21, 1, .inl (fun _ => 0))), (h0, .inr (9, [.int 0, .ref h1, .ref h2, .ref z0, .int 0, .int 0, .int 0]))]) (w1 := [(q23, .inr (3, [.int 0, .ref gde, .int 0]))]) hP hD [9] [0, 1, 2, 3, 4, 5, 6, 7, 8] rfl rfl (by decide) (by decide) hk1 hFc hP1 hD1
  generalize H1 = H at hP hS ⊢
  have hP : va_P (dC, dI) vwCl [(q2, .inl (cq3, 4, .inl (upd (upd (upd (upd (fun _ => 0) 0 0) 1 0) 2 0) 3 0))), (q6, .inl (cq7, 4, .inl (upd (upd (upd (upd (fun _ => 0) 0 0) 1 0) 2 0) 3 0))), (q10, .inl (cq11, 4, .inl (upd (upd (upd (upd (fun _ => 0) 0 0) 1 0) 2 0) 3 0))), (h1, .inl (k0, 4, .inr (.inr (.inr (.inr (va_up (va_up (va_up (va_up (fun _ => none) 0 (some ge5)) 1 (some ge5)) 2 (some ge5)) 3 (some ge5))))))), (q14, .inl (cq15, 4, .inl (upd (upd (upd (upd (fun _ => 0) 0 0) 1 0) 2 0) 3 0))), (q18, .inr (3, [.int 0, .ref gde, .int 0])), (h2, .inr (3, [.int 0, .ref gde, .int 0])), (q20, .inl (cq21, 1, .inl (fun _ => 0))), (h0, .inr (9, [.int 0, .ref h1, .ref h2, .ref z0, .int 0, .int 0, .int 0])), (q23, .inr (3, [.int 0, .ref gde, .int 0]))] H := hP
  have hD : va_D A [(q2, .inl (cq3, 4, .inl (upd (upd (upd (upd (fun _ => 0) 0 0) 1 0) 2 0) 3 0))), (q6, .inl (cq7, 4, .inl (upd (upd (upd (upd (fun _ => 0) 0 0) 1 0) 2 0) 3 0))), (q10, .inl (cq11, 4, .inl (upd (upd (upd (upd (fun _ => 0) 0 0) 1 0) 2 0) 3 0))), (h1, .inl (k0, 4, .inr (.inr (.inr (.inr (va_up (va_up (va_up (va_up (fun _ => none) 0 (some ge5)) 1 (some ge5)) 2 (some ge5)) 3 (some ge5))))))), (q14, .inl (cq15, 4, .inl (upd (upd (upd (upd (fun _ => 0) 0 0) 1 0) 2 0) 3 0))), (q18, .inr (3, [.int 0, .ref gde, .int 0])), (h2, .inr (3, [.int 0, .ref gde, .int 0])), (q20, .inl (cq21, 1, .inl (fun _ => 0))), (h0, .inr (9, [.int 0, .ref h1, .ref h2, .ref z0, .int 0, .int 0, .int 0])), (q23, .inr (3, [.int 0, .ref gde, .int 0]))] := hD
  refine lv_i2l (v := 0) hx hb dX5_digest_79 (by decide) ?_
  refine lv_ladd hx hb dX5_digest_80 ?_
  refine lv_topl (fun y24 ey24 => ?_)
  obtain rfl : y24 = 6964241384807 := ey24.trans (by decide +kernel)
  refine lv_aload_n hx hb dX5_digest_81 rfl (lv_at hl 5 rfl) ?_
  refine lv_aload hx hb dX5_digest_82 (lv_at hl 0 rfl) ?_
  have hPc := hP.sub (ws' := [(h2, .inr (3, [.int 0, .ref gde, .int 0])), (h0, .inr (9, [.int 0, .ref h1, .ref h2, .ref z0, .int 0, .int 0, .int 0]))]) [6, 8] rfl
  have hDc := hD.sub (ws' := [(h2, .inr (3, [.int 0, .ref gde, .int 0])), (h0, .inr (9, [.int 0, .ref h1, .ref h2, .ref z0, .int 0, .int 0, .int 0]))]) [6, 8] (by decide) rfl
  have hKc := hK.sub (tys' := []) [] rfl
  have hFc := va_free (wc := [(h2, .inr (3, [.int 0, .ref gde, .int 0])), (h0, .inr (9, [.int 0, .ref h1, .ref h2, .ref z0, .int 0, .int 0, .int 0]))]) hD hS hA [6, 8] rfl
  refine va_callr (va_runV (As := [.ref ge5]) (rest := [.long 6964241384807]) ⟨hx, hb, hml, hown, hts⟩ (kx_X5_formOf_0 l dC dI ge5 gea gv5 gva gde gic gi0 h2 h0 h1 z0 H.size) (cwV 1 hts gX5_digest_X5_formOf rfl rfl rfl (by decide +kernel) ⟨Nat.le_of_ble_eq_true rfl, Nat.le_of_ble_eq_true rfl⟩) ⟨fun a U g mk q => by obtain ⟨q0, q1, qP, qK, qD, qG⟩ := q; exact ⟨q0, q1, qP, va_K.moved (u := U) (U := U.calling g mk a) (Vm.Alike.refl U.vm) qK, qD, gv.fb qG⟩, va_recv hKc hPc (ci := 9) (q0 := 1) rfl rfl, fun U hU hW => ⟨rfl, by rw [hU], by rw [hU]; exact hPc, va_K.moved hW.alike hKc, hDc.weaken (fun _ _ _ _ => trivial), gv.pass hW hU hS hFc hG⟩⟩ rfl rfl hl.1 rfl (lv_room (Nat.le_of_ble_eq_true rfl)) dX5_digest_84 ⟨Nat.le_of_ble_eq_true rfl, Nat.le_of_ble_eq_true rfl⟩) hS (fun q _ h => hFc q h) hFc (fun u ra t H1 locs ht hvm hw hB hz1 hk1 hS => ?_)
  obtain ⟨q25, cq26, hra, hP1, hK1, hD1⟩ := hB
  rw [hra]
  rw [ht] at hP1
  have hK1 := va_K.moved hvm.symm hK1
  obtain ⟨hP, hD⟩ := va_join (wr := [(q2, .inl (cq3, 4, .inl (upd (upd (upd (upd (fun _ => 0) 0 0) 1 0) 2 0) 3 0))), (q6, .inl (cq7, 4, .inl (upd (upd (upd (upd (fun _ => 0) 0 0) 1 0) 2 0) 3 0))), (q10, .inl (cq11, 4, .inl (upd (upd (upd (upd (fun _ => 0) 0 0) 1 0) 2 0) 3 0))), (h1, .inl (k0, 4, .inr (.inr (.inr (.inr (va_up (va_up (va_up (va_up (fun _ => none) 0 (some ge5)) 1 (some ge5)) 2 (some ge5)) 3 (some ge5))))))), (q14, .inl (cq15, 4, .inl (upd (upd (upd (upd (fun _ => 0) 0 0) 1 0) 2 0) 3 0))), (q18, .inr (3, [.int 0, .ref gde, .int 0])), (q20, .inl (cq21, 1, .inl (fun _ => 0))), (q23, .inr (3, [.int 0, .ref gde, .int 0]))]) (w1 := [(h2, .inr (3, [.int 0, .ref gde, .int 0])), (h0, .inr (9, [.int 0, .ref h1, .ref h2, .ref z0, .int 0, .int 0, .int 0])), (q25, .inl (cq26, 1, .inl (fun _ => 0)))]) hP hD [6, 8] [0, 1, 2, 3, 4, 5, 7, 9] rfl rfl (by decide) (by decide) hk1 hFc hP1 hD1
  have hK := hK.app (hK1.sub (tys' := [(cq26, .int)]) [0] rfl)
  generalize H1 = H at hP hS ⊢
  have hK : va_K (dC, dI) vwCl [(k0, .object "java/lang/String"), (cq3, .int), (cq7, .int), (cq11, .int), (cq15, .int), (cq21, .int), (cq26, .int)] s := hK
  have hP : va_P (dC, dI) vwCl [(q2, .inl (cq3, 4, .inl (upd (upd (upd (upd (fun _ => 0) 0 0) 1 0) 2 0) 3 0))), (q6, .inl (cq7, 4, .inl (upd (upd (upd (upd (fun _ => 0) 0 0) 1 0) 2 0) 3 0))), (q10, .inl (cq11, 4, .inl (upd (upd (upd (upd (fun _ => 0) 0 0) 1 0) 2 0) 3 0))), (h1, .inl (k0, 4, .inr (.inr (.inr (.inr (va_up (va_up (va_up (va_up (fun _ => none) 0 (some ge5)) 1 (some ge5)) 2 (some ge5)) 3 (some ge5))))))), (q14, .inl (cq15, 4, .inl (upd (upd (upd (upd (fun _ => 0) 0 0) 1 0) 2 0) 3 0))), (q18, .inr (3, [.int 0, .ref gde, .int 0])), (q20, .inl (cq21, 1, .inl (fun _ => 0))), (q23, .inr (3, [.int 0, .ref gde, .int 0])), (h2, .inr (3, [.int 0, .ref gde, .int 0])), (h0, .inr (9, [.int 0, .ref h1, .ref h2, .ref z0, .int 0, .int 0, .int 0])), (q25, .inl (cq26, 1, .inl (fun _ => 0)))] H := hP
  have hD : va_D A [(q2, .inl (cq3, 4, .inl (upd (upd (upd (upd (fun _ => 0) 0 0) 1 0) 2 0) 3 0))), (q6, .inl (cq7, 4, .inl (upd (upd (upd (upd (fun _ => 0) 0 0) 1 0) 2 0) 3 0))), (q10, .inl (cq11, 4, .inl (upd (upd (upd (upd (fun _ => 0) 0 0) 1 0) 2 0) 3 0))), (h1, .inl (k0, 4, .inr (.inr (.inr (.inr (va_up (va_up (va_up (va_up (fun _ => none) 0 (some ge5)) 1 (some ge5)) 2 (some ge5)) 3 (some ge5))))))), (q14, .inl (cq15, 4, .inl (upd (upd (upd (upd (fun _ => 0) 0 0) 1 0) 2 0) 3 0))), (q18, .inr (3, [.int 0, .ref gde, .int 0])), (q20, .inl (cq21, 1, .inl (fun _ => 0))), (q23, .inr (3, [.int 0, .ref gde, .int 0])), (h2, .inr (3, [.int 0, .ref gde, .int 0])), (h0, .inr (9, [.int 0, .ref h1, .ref h2, .ref z0, .int 0, .int 0, .int 0])), (q25, .inl (cq26, 1, .inl (fun _ => 0)))] := hD
  refine W.widen (k := 8) (n := 24) (by omega) (by omega) ?_
  have hPc := hP.sub (ws' := []) [] rfl
  have hDc := hD.sub (ws' := []) [] (by decide) rfl
  have hKc := hK.sub (tys' := []) [] rfl
  have hFc := va_free (wc := []) hD hS hA [] rfl
  refine va_calll (va_runS (As := [.long 6964241384807, .ref ge5]) (rest := []) ⟨hx, hb, hml, hown, hts⟩ (kx_X5_add_2 l dC dI ge5 gea gv5 gva gde gic gi0 H.size) (cwS 2 hts gX5_digest_X5_add rfl rfl rfl (by decide +kernel) ⟨Nat.le_of_ble_eq_true rfl, Nat.le_of_ble_eq_true rfl⟩) ⟨fun a U g mk q => by obtain ⟨q0, q1, qP, qK, qD, qG⟩ := q; exact ⟨q0, q1, qP, va_K.moved (u := U) (U := U.calling g mk a) (Vm.Alike.refl U.vm) qK, qD, gv.fb qG⟩, fun U hU hW => ⟨rfl, by rw [hU], by rw [hU]; exact hPc, va_K.moved hW.alike hKc, hDc.weaken (fun _ _ _ _ => trivial), gv.pass hW hU hS hFc hG⟩⟩ rfl rfl hl.1 rfl (lv_room (Nat.le_of_ble_eq_true rfl)) dX5_digest_87 ⟨Nat.le_of_ble_eq_true rfl, Nat.le_of_ble_eq_true rfl⟩) hS (fun q _ h => hFc q h) hFc (fun r9 u t H1 locs ht hvm hw hB hz1 hk1 hS => ?_)
  obtain rfl := hw
  obtain ⟨hP1, hK1, hD1⟩ := hB
  rw [ht] at hP1
  have hK1 := va_K.moved hvm.symm hK1
  obtain ⟨hP, hD⟩ := va_join (wr := [(q2, .inl (cq3, 4, .inl (upd (upd (upd (upd (fun _ => 0) 0 0) 1 0) 2 0) 3 0))), (q6, .inl (cq7, 4, .inl (upd (upd (upd (upd (fun _ => 0) 0 0) 1 0) 2 0) 3 0))), (q10, .inl (cq11, 4, .inl (upd (upd (upd (upd (fun _ => 0) 0 0) 1 0) 2 0) 3 0))), (h1, .inl (k0, 4, .inr (.inr (.inr (.inr (va_up (va_up (va_up (va_up (fun _ => none) 0 (some ge5)) 1 (some ge5)) 2 (some ge5)) 3 (some ge5))))))), (q14, .inl (cq15, 4, .inl (upd (upd (upd (upd (fun _ => 0) 0 0) 1 0) 2 0) 3 0))), (q18, .inr (3, [.int 0, .ref gde, .int 0])), (q20, .inl (cq21, 1, .inl (fun _ => 0))), (q23, .inr (3, [.int 0, .ref gde, .int 0])), (h2, .inr (3, [.int 0, .ref gde, .int 0])), (h0, .inr (9, [.int 0, .ref h1, .ref h2, .ref z0, .int 0, .int 0, .int 0])), (q25, .inl (cq26, 1, .inl (fun _ => 0)))]) (w1 := []) hP hD [] [0, 1, 2, 3, 4, 5, 6, 7, 8, 9, 10] rfl rfl (by decide) (by decide) hk1 hFc hP1 hD1
  generalize H1 = H at hP hS ⊢
  have hP : va_P (dC, dI) vwCl [(q2, .inl (cq3, 4, .inl (upd (upd (upd (upd (fun _ => 0) 0 0) 1 0) 2 0) 3 0))), (q6, .inl (cq7, 4, .inl (upd (upd (upd (upd (fun _ => 0) 0 0) 1 0) 2 0) 3 0))), (q10, .inl (cq11, 4, .inl (upd (upd (upd (upd (fun _ => 0) 0 0) 1 0) 2 0) 3 0))), (h1, .inl (k0, 4, .inr (.inr (.inr (.inr (va_up (va_up (va_up (va_up (fun _ => none) 0 (some ge5)) 1 (some ge5)) 2 (some ge5)) 3 (some ge5))))))), (q14, .inl (cq15, 4, .inl (upd (upd (upd (upd (fun _ => 0) 0 0) 1 0) 2 0) 3 0))), (q18, .inr (3, [.int 0, .ref gde, .int 0])), (q20, .inl (cq21, 1, .inl (fun _ => 0))), (q23, .inr (3, [.int 0, .ref gde, .int 0])), (h2, .inr (3, [.int 0, .ref gde, .int 0])), (h0, .inr (9, [.int 0, .ref h1, .ref h2, .ref z0, .int 0, .int 0, .int 0])), (q25, .inl (cq26, 1, .inl (fun _ => 0)))] H := hP
  have hD : va_D A [(q2, .inl (cq3, 4, .inl (upd (upd (upd (upd (fun _ => 0) 0 0) 1 0) 2 0) 3 0))), (q6, .inl (cq7, 4, .inl (upd (upd (upd (upd (fun _ => 0) 0 0) 1 0) 2 0) 3 0))), (q10, .inl (cq11, 4, .inl (upd (upd (upd (upd (fun _ => 0) 0 0) 1 0) 2 0) 3 0))), (h1, .inl (k0, 4, .inr (.inr (.inr (.inr (va_up (va_up (va_up (va_up (fun _ => none) 0 (some ge5)) 1 (some ge5)) 2 (some ge5)) 3 (some ge5))))))), (q14, .inl (cq15, 4, .inl (upd (upd (upd (upd (fun _ => 0) 0 0) 1 0) 2 0) 3 0))), (q18, .inr (3, [.int 0, .ref gde, .int 0])), (q20, .inl (cq21, 1, .inl (fun _ => 0))), (q23, .inr (3, [.int 0, .ref gde, .int 0])), (h2, .inr (3, [.int 0, .ref gde, .int 0])), (h0, .inr (9, [.int 0, .ref h1, .ref h2, .ref z0, .int 0, .int 0, .int 0])), (q25, .inl (cq26, 1, .inl (fun _ => 0)))] := hD
  refine lv_lstore_n (lv' := [(1, .long 6964241384807), (6, .ref ge5), (5, .int 1), (4, .int 4), (3, .ref h1), (0, .ref h0)]) hx hb dX5_digest_90 rfl hl (by decide) rfl (fun ls hl => ?_)
  refine lv_iinc (v := 2) (lv' := [(5, .int 2), (1, .long 6964241384807), (6, .ref ge5), (4, .int 4), (3, .ref h1), (0, .ref h0)]) hx hb dX5_digest_91 hl (k := 2) rfl (by decide) (by decide) rfl (fun ls hl => ?_)
  refine lv_goto (tgt := 47) hx hb dX5_digest_94 (by decide) ?_
  refine lv_iload hx hb dX5_digest_47 (lv_at hl 0 rfl) ?_
  refine lv_iload hx hb dX5_digest_49 (lv_at hl 3 rfl) ?_
  refine lv_icmp_ge (tgt := 97) hx hb dX5_digest_51 (by decide) (fun c9 => absurd c9 (by decide)) (fun _ => ?_)
  refine lv_aload_n hx hb dX5_digest_54 rfl (lv_at hl 4 rfl) ?_
  refine lv_iload hx hb dX5_digest_55 (lv_at hl 0 rfl) ?_
  refine va_aldq (D := (dC, dI)) hx hb hK hP 3 0 rfl rfl (by unfold vp_in; decide) dX5_digest_57 ?_
  refine W.eq (g2 := F0 m 58 ls [.ref ge5]) rfl ?_
  refine lv_astore (lv' := [(6, .ref ge5), (5, .int 2), (1, .long 6964241384807), (4, .int 4), (3, .ref h1), (0, .ref h0)]) hx hb dX5_digest_58 hl (by decide) rfl (fun ls hl => ?_)
  refine lv_lload_n hx hb dX5_digest_60 rfl (lv_at hl 2 rfl) ?_
  refine lv_aload hx hb dX5_digest_61 (lv_at hl 0 rfl) ?_
  have hPc := hP.sub (ws' := []) [] rfl
  have hDc := hD.sub (ws' := []) [] (by decide) rfl
  have hKc := hK.sub (tys' := []) [] rfl
  have hFc := va_free (wc := []) hD hS hA [] rfl
  refine va_calll (va_runS (As := [.long 6964241384807, .ref ge5]) (rest := []) ⟨hx, hb, hml, hown, hts⟩ (kx_X5_add_2 l dC dI ge5 gea gv5 gva gde gic gi0 H.size) (cwS 2 hts gX5_digest_X5_add rfl rfl rfl (by decide +kernel) ⟨Nat.le_of_ble_eq_true rfl, Nat.le_of_ble_eq_true rfl⟩) ⟨fun a U g mk q => by obtain ⟨q0, q1, qP, qK, qD, qG⟩ := q; exact ⟨q0, q1, qP, va_K.moved (u := U) (U := U.calling g mk a) (Vm.Alike.refl U.vm) qK, qD, gv.fb qG⟩, fun U hU hW => ⟨rfl, by rw [hU], by rw [hU]; exact hPc, va_K.moved hW.alike hKc, hDc.weaken (fun _ _ _ _ => trivial), gv.pass hW hU hS hFc hG⟩⟩ rfl rfl hl.1 rfl (lv_room (Nat.le_of_ble_eq_true rfl)) dX5_digest_63 ⟨Nat.le_of_ble_eq_true rfl, Nat.le_of_ble_eq_true rfl⟩) hS (fun q _ h => hFc q h) hFc (fun r9 u t H1 locs ht hvm hw hB hz1 hk1 hS => ?_)
  obtain rfl := hw
  obtain ⟨hP1, hK1, hD1⟩ := hB
  rw [ht] at hP1
  have hK1 := va_K.moved hvm.symm hK1
  obtain ⟨hP, hD⟩ := va_join (wr := [(q2, .inl (cq3, 4, .inl (upd (upd (upd (upd (fun _ => 0) 0 0) 1 0) 2 0) 3 0))), (q6, .inl (cq7, 4, .inl (upd (upd (upd (upd (fun _ => 0) 0 0) 1 0) 2 0) 3 0))), (q10, .inl (cq11, 4, .inl (upd (upd (upd (upd (fun _ => 0) 0 0) 1 0) 2 0) 3 0))), (h1, .inl (k0, 4, .inr (.inr (.inr (.inr (va_up (va_up (va_up (va_up (fun _ => none) 0 (some ge5)) 1 (some ge5)) 2 (some ge5)) 3 (some ge5))))))), (q14, .inl (cq15, 4, .inl (upd (upd (upd (upd (fun _ => 0) 0 0) 1 0) 2 0) 3 0))), (q18, .inr (3, [.int 0, .ref gde, .int 0])), (q20, .inl (cq21, 1, .inl (fun _ => 0))), (q23, .inr (3, [.int 0, .ref gde, .int 0])), (h2, .inr (3, [.int 0, .ref gde, .int 0])), (h0, .inr (9, [.int 0, .ref h1, .ref h2, .ref z0, .int 0, .int 0, .int 0])), (q25, .inl (cq26, 1, .inl (fun _ => 0)))]) (w1 := []) hP hD [] [0, 1, 2, 3, 4, 5, 6, 7, 8, 9, 10] rfl rfl (by decide) (by decide) hk1 hFc hP1 hD1
  generalize H1 = H at hP hS ⊢
  have hP : va_P (dC, dI) vwCl [(q2, .inl (cq3, 4, .inl (upd (upd (upd (upd (fun _ => 0) 0 0) 1 0) 2 0) 3 0))), (q6, .inl (cq7, 4, .inl (upd (upd (upd (upd (fun _ => 0) 0 0) 1 0) 2 0) 3 0))), (q10, .inl (cq11, 4, .inl (upd (upd (upd (upd (fun _ => 0) 0 0) 1 0) 2 0) 3 0))), (h1, .inl (k0, 4, .inr (.inr (.inr (.inr (va_up (va_up (va_up (va_up (fun _ => none) 0 (some ge5)) 1 (some ge5)) 2 (some ge5)) 3 (some ge5))))))), (q14, .inl (cq15, 4, .inl (upd (upd (upd (upd (fun _ => 0) 0 0) 1 0) 2 0) 3 0))), (q18, .inr (3, [.int 0, .ref gde, .int 0])), (q20, .inl (cq21, 1, .inl (fun _ => 0))), (q23, .inr (3, [.int 0, .ref gde, .int 0])), (h2, .inr (3, [.int 0, .ref gde, .int 0])), (h0, .inr (9, [.int 0, .ref h1, .ref h2, .ref z0, .int 0, .int 0, .int 0])), (q25, .inl (cq26, 1, .inl (fun _ => 0)))] H := hP
  have hD : va_D A [(q2, .inl (cq3, 4, .inl (upd (upd (upd (upd (fun _ => 0) 0 0) 1 0) 2 0) 3 0))), (q6, .inl (cq7, 4, .inl (upd (upd (upd (upd (fun _ => 0) 0 0) 1 0) 2 0) 3 0))), (q10, .inl (cq11, 4, .inl (upd (upd (upd (upd (fun _ => 0) 0 0) 1 0) 2 0) 3 0))), (h1, .inl (k0, 4, .inr (.inr (.inr (.inr (va_up (va_up (va_up (va_up (fun _ => none) 0 (some ge5)) 1 (some ge5)) 2 (some ge5)) 3 (some ge5))))))), (q14, .inl (cq15, 4, .inl (upd (upd (upd (upd (fun _ => 0) 0 0) 1 0) 2 0) 3 0))), (q18, .inr (3, [.int 0, .ref gde, .int 0])), (q20, .inl (cq21, 1, .inl (fun _ => 0))), (q23, .inr (3, [.int 0, .ref gde, .int 0])), (h2, .inr (3, [.int 0, .ref gde, .int 0])), (h0, .inr (9, [.int 0, .ref h1, .ref h2, .ref z0, .int 0, .int 0, .int 0])), (q25, .inl (cq26, 1, .inl (fun _ => 0)))] := hD
  refine lv_ldc2 (v := 31) hx hb hown (hts (.constantLong RX5 212 31) (by decide +kernel)) dX5_digest_66 ?_
  refine lv_lmul hx hb dX5_digest_69 ?_
  refine lv_topl (fun y27 ey27 => ?_)
  obtain rfl : y27 = 215891482929017 := ey27.trans (by decide +kernel)
  refine lv_aload_n hx hb dX5_digest_70 rfl (lv_at hl 5 rfl) ?_
  refine lv_aload hx hb dX5_digest_71 (lv_at hl 0 rfl) ?_
  have hPc := hP.sub (ws' := [(h0, .inr (9, [.int 0, .ref h1, .ref h2, .ref z0, .int 0, .int 0, .int 0]))]) [9] rfl
  have hDc := hD.sub (ws' := [(h0, .inr (9, [.int 0, .ref h1, .ref h2, .ref z0, .int 0, .int 0, .int 0]))]) [9] (by decide) rfl
  have hKc := hK.sub (tys' := []) [] rfl
  have hFc := va_free (wc := [(h0, .inr (9, [.int 0, .ref h1, .ref h2, .ref z0, .int 0, .int 0, .int 0]))]) hD hS hA [9] rfl
  refine va_callr (va_runV (As := [.ref ge5]) (rest := [.long 215891482929017]) ⟨hx, hb, hml, hown, hts⟩ (kx_X5_spotsOf_0 l dC dI ge5 gea gv5 gva gde gic gi0 h0 h1 h2 z0 H.size) (cwV 1 hts gX5_digest_X5_spotsOf rfl rfl rfl (by decide +kernel) ⟨Nat.le_of_ble_eq_true rfl, Nat.le_of_ble_eq_true rfl⟩) ⟨fun a U g mk q => by obtain ⟨q0, q1, qP, qK, qD, qG⟩ := q; exact ⟨q0, q1, qP, va_K.moved (u := U) (U := U.calling g mk a) (Vm.Alike.refl U.vm) qK, qD, gv.fb qG⟩, va_recv hKc hPc (ci := 9) (q0 := 0) rfl rfl, fun U hU hW => ⟨rfl, by rw [hU], by rw [hU]; exact hPc, va_K.moved hW.alike hKc, hDc.weaken (fun _ _ _ _ => trivial), gv.pass hW hU hS hFc hG⟩⟩ rfl rfl hl.1 rfl (lv_room (Nat.le_of_ble_eq_true rfl)) dX5_digest_73 ⟨Nat.le_of_ble_eq_true rfl, Nat.le_of_ble_eq_true rfl⟩) hS (fun q _ h => hFc q h) hFc (fun u ra t H1 locs ht hvm hw hB hz1 hk1 hS => ?_)
  obtain ⟨q28, hra, hP1, hK1, hD1⟩ := hB
  rw [hra]
  rw [ht] at hP1
  have hK1 := va_K.moved hvm.symm hK1
  obtain ⟨hP, hD⟩ := va_join (wr := [(q2, .inl (cq3, 4, .inl (upd (upd (upd (upd (fun _ => 0) 0 0) 1 0) 2 0) 3 0))), (q6, .inl (cq7, 4, .inl (upd (upd (upd (upd (fun _ => 0) 0 0) 1 0) 2 0) 3 0))), (q10, .inl (cq11, 4, .inl (upd (upd (upd (upd (fun _ => 0) 0 0) 1 0) 2 0) 3 0))), (h1, .inl (k0, 4, .inr (.inr (.inr (.inr (va_up (va_up (va_up (va_up (fun _ => none) 0 (some ge5)) 1 (some ge5)) 2 (some ge5)) 3 (some ge5))))))), (q14, .inl (cq15, 4, .inl (upd (upd (upd (upd (fun _ => 0) 0 0) 1 0) 2 0) 3 0))), (q18, .inr (3, [.int 0, .ref gde, .int 0])), (q20, .inl (cq21, 1, .inl (fun _ => 0))), (q23, .inr (3, [.int 0, .ref gde, .int 0])), (h2, .inr (3, [.int 0, .ref gde, .int 0])), (q25, .inl (cq26, 1, .inl (fun _ => 0)))]) (w1 := [(h0, .inr (9, [.int 0, .ref h1, .ref h2, .ref z0, .int 0, .int 0, .int 0])), (q28, .inr (3, [.int 0, .ref gde, .int 0]))]) hP hD [9] [0, 1, 2, 3, 4, 5, 6, 7, 8, 10] rfl rfl (by decide) (by decide) hk1 hFc hP1 hD1
  generalize H1 = H at hP hS ⊢
  have hP : va_P (dC, dI) vwCl [(q2, .inl (cq3, 4, .inl (upd (upd (upd (upd (fun _ => 0) 0 0) 1 0) 2 0) 3 0))), (q6, .inl (cq7, 4, .inl (upd (upd (upd (upd (fun _ => 0) 0 0) 1 0) 2 0) 3 0))), (q10, .inl (cq11, 4, .inl (upd (upd (upd (upd (fun _ => 0) 0 0) 1 0) 2 0) 3 0))), (h1, .inl (k0, 4, .inr (.inr (.inr (.inr (va_up (va_up (va_up (va_up (fun _ => none) 0 (some ge5)) 1 (some ge5)) 2 (some ge5)) 3 (some ge5))))))), (q14, .inl (cq15, 4, .inl (upd (upd (upd (upd (fun _ => 0) 0 0) 1 0) 2 0) 3 0))), (q18, .inr (3, [.int 0, .ref gde, .int 0])), (q20, .inl (cq21, 1, .inl (fun _ => 0))), (q23, .inr (3, [.int 0, .ref gde, .int 0])), (h2, .inr (3, [.int 0, .ref gde, .int 0])), (q25, .inl (cq26, 1, .inl (fun _ => 0))), (h0, .inr (9, [.int 0, .ref h1, .ref h2, .ref z0, .int 0, .int 0, .int 0])), (q28, .inr (3, [.int 0, .ref gde, .int 0]))] H := hP
  have hD : va_D A [(q2, .inl (cq3, 4, .inl (upd (upd (upd (upd (fun _ => 0) 0 0) 1 0) 2 0) 3 0))), (q6, .inl (cq7, 4, .inl (upd (upd (upd (upd (fun _ => 0) 0 0) 1 0) 2 0) 3 0))), (q10, .inl (cq11, 4, .inl (upd (upd (upd (upd (fun _ => 0) 0 0) 1 0) 2 0) 3 0))), (h1, .inl (k0, 4, .inr (.inr (.inr (.inr (va_up (va_up (va_up (va_up (fun _ => none) 0 (some ge5)) 1 (some ge5)) 2 (some ge5)) 3 (some ge5))))))), (q14, .inl (cq15, 4, .inl (upd (upd (upd (upd (fun _ => 0) 0 0) 1 0) 2 0) 3 0))), (q18, .inr (3, [.int 0, .ref gde, .int 0])), (q20, .inl (cq21, 1, .inl (fun _ => 0))), (q23, .inr (3, [.int 0, .ref gde, .int 0])), (h2, .inr (3, [.int 0, .ref gde, .int 0])), (q25, .inl (cq26, 1, .inl (fun _ => 0))), (h0, .inr (9, [.int 0, .ref h1, .ref h2, .ref z0, .int 0, .int 0, .int 0])), (q28, .inr (3, [.int 0, .ref gde, .int 0]))] := hD
  refine W.widen (k := 9) (n := 27) (by omega) (by omega) ?_
  have hPc := hP.sub (ws' := [(q28, .inr (3, [.int 0, .ref gde, .int 0]))]) [11] rfl
  have hDc := hD.sub (ws' := [(q28, .inr (3, [.int 0, .ref gde, .int 0]))]) [11] (by decide) rfl
  have hKc := hK.sub (tys' := []) [] rfl
  have hFc := va_free (wc := [(q28, .inr (3, [.int 0, .ref gde, .int 0]))]) hD hS hA [11] rfl
  refine va_calli (va_runV (As := []) (rest := [.long 215891482929017]) ⟨hx, hb, hml, hown, hts⟩ (kx_Jx4a65c_size_8abf5_1 l dC dI ge5 gea gv5 gva gde gic gi0 q28 H.size) (cwV 0 hts gX5_digest_Jx4a65c_size_8abf5 rfl rfl rfl (by decide +kernel) ⟨Nat.le_of_ble_eq_true rfl, Nat.le_of_ble_eq_true rfl⟩) ⟨fun a U g mk q => by obtain ⟨q0, q1, qP, qK, qD, qG⟩ := q; exact ⟨q0, q1, qP, va_K.moved (u := U) (U := U.calling g mk a) (Vm.Alike.refl U.vm) qK, qD, gv.fb qG⟩, va_recv hKc hPc (ci := 3) (q0 := 0) rfl rfl, fun U hU hW => ⟨rfl, by rw [hU], by rw [hU]; exact hPc, va_K.moved hW.alike hKc, hDc.weaken (fun _ _ _ _ => trivial), gv.pass hW hU hS hFc hG⟩⟩ rfl rfl hl.1 rfl (lv_room (Nat.le_of_ble_eq_true rfl)) dX5_digest_76 ⟨Nat.le_of_ble_eq_true rfl, Nat.le_of_ble_eq_true rfl⟩) hS (fun q _ h => hFc q h) hFc (fun r9 u t H1 locs ht hvm hw hB hz1 hk1 hS => ?_)
  obtain rfl := hw
  obtain ⟨hP1, hK1, hD1⟩ := hB
  rw [ht] at hP1
  have hK1 := va_K.moved hvm.symm hK1
  obtain ⟨hP, hD⟩ := va_join (wr := [(q2, .inl (cq3, 4, .inl (upd (upd (upd (upd (fun _ => 0) 0 0) 1 0) 2 0) 3 0))), (q6, .inl (cq7, 4, .inl (upd (upd (upd (upd (fun _ => 0) 0 0) 1 0) 2 0) 3 0))), (q10, .inl (cq11, 4, .inl (upd (upd (upd (upd (fun _ => 0) 0 0) 1 0) 2 0) 3 0))), (h1, .inl (k0, 4, .inr (.inr (.inr (.inr (va_up (va_up (va_up (va_up (fun _ => none) 0 (some ge5)) 1 (some ge5)) 2 (some ge5)) 3 (some ge5))))))), (q14, .inl (cq15, 4, .inl (upd (upd (upd (upd (fun _ => 0) 0 0) 1 0) 2 0) 3 0))), (q18, .inr (3, [.int 0, .ref gde, .int 0])), (q20, .inl (cq21, 1, .inl (fun _ => 0))), (q23, .inr (3, [.int 0, .ref gde, .int 0])), (h2, .inr (3, [.int 0, .ref gde, .int 0])), (q25, .inl (cq26, 1, .inl (fun _ => 0))), (h0, .inr (9, [.int 0, .ref h1, .ref h2, .ref z0, .int 0, .int 0, .int 0]))]) (w1 := [(q28, .inr (3, [.int 0, .ref gde, .int 0]))]) hP hD [11] [0, 1, 2, 3, 4, 5, 6, 7, 8, 9, 10] rfl rfl (by decide) (by decide) hk1 hFc hP1 hD1
  generalize H1 = H at hP hS ⊢
  have hP : va_P (dC, dI) vwCl [(q2, .inl (cq3, 4, .inl (upd (upd (upd (upd (fun _ => 0) 0 0) 1 0) 2 0) 3 0))), (q6, .inl (cq7, 4, .inl (upd (upd (upd (upd (fun _ => 0) 0 0) 1 0) 2 0) 3 0))), (q10, .inl (cq11, 4, .inl (upd (upd (upd (upd (fun _ => 0) 0 0) 1 0) 2 0) 3 0))), (h1, .inl (k0, 4, .inr (.inr (.inr (.inr (va_up (va_up (va_up (va_up (fun _ => none) 0 (some ge5)) 1 (some ge5)) 2 (some ge5)) 3 (some ge5))))))), (q14, .inl (cq15, 4, .inl (upd (upd (upd (upd (fun _ => 0) 0 0) 1 0) 2 0) 3 0))), (q18, .inr (3, [.int 0, .ref gde, .int 0])), (q20, .inl (cq21, 1, .inl (fun _ => 0))), (q23, .inr (3, [.int 0, .ref gde, .int 0])), (h2, .inr (3, [.int 0, .ref gde, .int 0])), (q25, .inl (cq26, 1, .inl (fun _ => 0))), (h0, .inr (9, [.int 0, .ref h1, .ref h2, .ref z0, .int 0, .int 0, .int 0])), (q28, .inr (3, [.int 0, .ref gde, .int 0]))] H := hP
  have hD : va_D A [(q2, .inl (cq3, 4, .inl (upd (upd (upd (upd (fun _ => 0) 0 0) 1 0) 2 0) 3 0))), (q6, .inl (cq7, 4, .inl (upd (upd (upd (upd (fun _ => 0) 0 0) 1 0) 2 0) 3 0))), (q10, .inl (cq11, 4, .inl (upd (upd (upd (upd (fun _ => 0) 0 0) 1 0) 2 0) 3 0))), (h1, .inl (k0, 4, .inr (.inr (.inr (.inr (va_up (va_up (va_up (va_up (fun _ => none) 0 (some ge5)) 1 (some ge5)) 2 (some ge5)) 3 (some ge5))))))), (q14, .inl (cq15, 4, .inl (upd (upd (upd (upd (fun _ => 0) 0 0) 1 0) 2 0) 3 0))), (q18, .inr (3, [.int 0, .ref gde, .int 0])), (q20, .inl (cq21, 1, .inl (fun _ => 0))), (q23, .inr (3, [.int 0, .ref gde, .int 0])), (h2, .inr (3, [.int 0, .ref gde, .int 0])), (q25, .inl (cq26, 1, .inl (fun _ => 0))), (h0, .inr (9, [.int 0, .ref h1, .ref h2, .ref z0, .int 0, .int 0, .int 0])), (q28, .inr (3, [.int 0, .ref gde, .int 0]))] := hD
  refine lv_i2l (v := 0) hx hb dX5_digest_79 (by decide) ?_
  refine lv_ladd hx hb dX5_digest_80 ?_
  refine lv_topl (fun y29 ey29 => ?_)
  obtain rfl : y29 = 215891482929017 := ey29.trans (by decide +kernel)
  refine lv_aload_n hx hb dX5_digest_81 rfl (lv_at hl 5 rfl) ?_
  refine lv_aload hx hb dX5_digest_82 (lv_at hl 0 rfl) ?_
  have hPc := hP.sub (ws' := [(h2, .inr (3, [.int 0, .ref gde, .int 0])), (h0, .inr (9, [.int 0, .ref h1, .ref h2, .ref z0, .int 0, .int 0, .int 0]))]) [8, 10] rfl
  have hDc := hD.sub (ws' := [(h2, .inr (3, [.int 0, .ref gde, .int 0])), (h0, .inr (9, [.int 0, .ref h1, .ref h2, .ref z0, .int 0, .int 0, .int 0]))]) [8, 10] (by decide) rfl
  have hKc := hK.sub (tys' := []) [] rfl
  have hFc := va_free (wc := [(h2, .inr (3, [.int 0, .ref gde, .int 0])), (h0, .inr (9, [.int 0, .ref h1, .ref h2, .ref z0, .int 0, .int 0, .int 0]))]) hD hS hA [8, 10] rfl
  refine va_callr (va_runV (As := [.ref ge5]) (rest := [.long 215891482929017]) ⟨hx, hb, hml, hown, hts⟩ (kx_X5_formOf_0 l dC dI ge5 gea gv5 gva gde gic gi0 h2 h0 h1 z0 H.size) (cwV 1 hts gX5_digest_X5_formOf rfl rfl rfl (by decide +kernel) ⟨Nat.le_of_ble_eq_true rfl, Nat.le_of_ble_eq_true rfl⟩) ⟨fun a U g mk q => by obtain ⟨q0, q1, qP, qK, qD, qG⟩ := q; exact ⟨q0, q1, qP, va_K.moved (u := U) (U := U.calling g mk a) (Vm.Alike.refl U.vm) qK, qD, gv.fb qG⟩, va_recv hKc hPc (ci := 9) (q0 := 1) rfl rfl, fun U hU hW => ⟨rfl, by rw [hU], by rw [hU]; exact hPc, va_K.moved hW.alike hKc, hDc.weaken (fun _ _ _ _ => trivial), gv.pass hW hU hS hFc hG⟩⟩ rfl rfl hl.1 rfl (lv_room (Nat.le_of_ble_eq_true rfl)) dX5_digest_84 ⟨Nat.le_of_ble_eq_true rfl, Nat.le_of_ble_eq_true rfl⟩) hS (fun q _ h => hFc q h) hFc (fun u ra t H1 locs ht hvm hw hB hz1 hk1 hS => ?_)
  obtain ⟨q30, cq31, hra, hP1, hK1, hD1⟩ := hB
  rw [hra]
  rw [ht] at hP1
  have hK1 := va_K.moved hvm.symm hK1
  obtain ⟨hP, hD⟩ := va_join (wr := [(q2, .inl (cq3, 4, .inl (upd (upd (upd (upd (fun _ => 0) 0 0) 1 0) 2 0) 3 0))), (q6, .inl (cq7, 4, .inl (upd (upd (upd (upd (fun _ => 0) 0 0) 1 0) 2 0) 3 0))), (q10, .inl (cq11, 4, .inl (upd (upd (upd (upd (fun _ => 0) 0 0) 1 0) 2 0) 3 0))), (h1, .inl (k0, 4, .inr (.inr (.inr (.inr (va_up (va_up (va_up (va_up (fun _ => none) 0 (some ge5)) 1 (some ge5)) 2 (some ge5)) 3 (some ge5))))))), (q14, .inl (cq15, 4, .inl (upd (upd (upd (upd (fun _ => 0) 0 0) 1 0) 2 0) 3 0))), (q18, .inr (3, [.int 0, .ref gde, .int 0])), (q20, .inl (cq21, 1, .inl (fun _ => 0))), (q23, .inr (3, [.int 0, .ref gde, .int 0])), (q25, .inl (cq26, 1, .inl (fun _ => 0))), (q28, .inr (3, [.int 0, .ref gde, .int 0]))]) (w1 := [(h2, .inr (3, [.int 0, .ref gde, .int 0])), (h0, .inr (9, [.int 0, .ref h1, .ref h2, .ref z0, .int 0, .int 0, .int 0])), (q30, .inl (cq31, 1, .inl (fun _ => 0)))]) hP hD [8, 10] [0, 1, 2, 3, 4, 5, 6, 7, 9, 11] rfl rfl (by decide) (by decide) hk1 hFc hP1 hD1
  have hK := hK.app (hK1.sub (tys' := [(cq31, .int)]) [0] rfl)
  generalize H1 = H at hP hS ⊢
  have hK : va_K (dC, dI) vwCl [(k0, .object "java/lang/String"), (cq3, .int), (cq7, .int), (cq11, .int), (cq15, .int), (cq21, .int), (cq26, .int), (cq31, .int)] s := hK
  have hP : va_P (dC, dI) vwCl [(q2, .inl (cq3, 4, .inl (upd (upd (upd (upd (fun _ => 0) 0 0) 1 0) 2 0) 3 0))), (q6, .inl (cq7, 4, .inl (upd (upd (upd (upd (fun _ => 0) 0 0) 1 0) 2 0) 3 0))), (q10, .inl (cq11, 4, .inl (upd (upd (upd (upd (fun _ => 0) 0 0) 1 0) 2 0) 3 0))), (h1, .inl (k0, 4, .inr (.inr (.inr (.inr (va_up (va_up (va_up (va_up (fun _ => none) 0 (some ge5)) 1 (some ge5)) 2 (some ge5)) 3 (some ge5))))))), (q14, .inl (cq15, 4, .inl (upd (upd (upd (upd (fun _ => 0) 0 0) 1 0) 2 0) 3 0))), (q18, .inr (3, [.int 0, .ref gde, .int 0])), (q20, .inl (cq21, 1, .inl (fun _ => 0))), (q23, .inr (3, [.int 0, .ref gde, .int 0])), (q25, .inl (cq26, 1, .inl (fun _ => 0))), (q28, .inr (3, [.int 0, .ref gde, .int 0])), (h2, .inr (3, [.int 0, .ref gde, .int 0])), (h0, .inr (9, [.int 0, .ref h1, .ref h2, .ref z0, .int 0, .int 0, .int 0])), (q30, .inl (cq31, 1, .inl (fun _ => 0)))] H := hP
  have hD : va_D A [(q2, .inl (cq3, 4, .inl (upd (upd (upd (upd (fun _ => 0) 0 0) 1 0) 2 0) 3 0))), (q6, .inl (cq7, 4, .inl (upd (upd (upd (upd (fun _ => 0) 0 0) 1 0) 2 0) 3 0))), (q10, .inl (cq11, 4, .inl (upd (upd (upd (upd (fun _ => 0) 0 0) 1 0) 2 0) 3 0))), (h1, .inl (k0, 4, .inr (.inr (.inr (.inr (va_up (va_up (va_up (va_up (fun _ => none) 0 (some ge5)) 1 (some ge5)) 2 (some ge5)) 3 (some ge5))))))), (q14, .inl (cq15, 4, .inl (upd (upd (upd (upd (fun _ => 0) 0 0) 1 0) 2 0) 3 0))), (q18, .inr (3, [.int 0, .ref gde, .int 0])), (q20, .inl (cq21, 1, .inl (fun _ => 0))), (q23, .inr (3, [.int 0, .ref gde, .int 0])), (q25, .inl (cq26, 1, .inl (fun _ => 0))), (q28, .inr (3, [.int 0, .ref gde, .int 0])), (h2, .inr (3, [.int 0, .ref gde, .int 0])), (h0, .inr (9, [.int 0, .ref h1, .ref h2, .ref z0, .int 0, .int 0, .int 0])), (q30, .inl (cq31, 1, .inl (fun _ => 0)))] := hD
  refine W.widen (k := 10) (n := 28) (by omega) (by omega) ?_
  have hPc := hP.sub (ws' := []) [] rfl
  have hDc := hD.sub (ws' := []) [] (by decide) rfl
  have hKc := hK.sub (tys' := []) [] rfl
  have hFc := va_free (wc := []) hD hS hA [] rfl
  refine va_calll (va_runS (As := [.long 215891482929017, .ref ge5]) (rest := []) ⟨hx, hb, hml, hown, hts⟩ (kx_X5_add_3 l dC dI ge5 gea gv5 gva gde gic gi0 H.size) (cwS 2 hts gX5_digest_X5_add rfl rfl rfl (by decide +kernel) ⟨Nat.le_of_ble_eq_true rfl, Nat.le_of_ble_eq_true rfl⟩) ⟨fun a U g mk q => by obtain ⟨q0, q1, qP, qK, qD, qG⟩ := q; exact ⟨q0, q1, qP, va_K.moved (u := U) (U := U.calling g mk a) (Vm.Alike.refl U.vm) qK, qD, gv.fb qG⟩, fun U hU hW => ⟨rfl, by rw [hU], by rw [hU]; exact hPc, va_K.moved hW.alike hKc, hDc.weaken (fun _ _ _ _ => trivial), gv.pass hW hU hS hFc hG⟩⟩ rfl rfl hl.1 rfl (lv_room (Nat.le_of_ble_eq_true rfl)) dX5_digest_87 ⟨Nat.le_of_ble_eq_true rfl, Nat.le_of_ble_eq_true rfl⟩) hS (fun q _ h => hFc q h) hFc (fun r9 u t H1 locs ht hvm hw hB hz1 hk1 hS => ?_)
  obtain rfl := hw
  obtain ⟨hP1, hK1, hD1⟩ := hB
  rw [ht] at hP1
  have hK1 := va_K.moved hvm.symm hK1
  obtain ⟨hP, hD⟩ := va_join (wr := [(q2, .inl (cq3, 4, .inl (upd (upd (upd (upd (fun _ => 0) 0 0) 1 0) 2 0) 3 0))), (q6, .inl (cq7, 4, .inl (upd (upd (upd (upd (fun _ => 0) 0 0) 1 0) 2 0) 3 0))), (q10, .inl (cq11, 4, .inl (upd (upd (upd (upd (fun _ => 0) 0 0) 1 0) 2 0) 3 0))), (h1, .inl (k0, 4, .inr (.inr (.inr (.inr (va_up (va_up (va_up (va_up (fun _ => none) 0 (some ge5)) 1 (some ge5)) 2 (some ge5)) 3 (some ge5))))))), (q14, .inl (cq15, 4, .inl (upd (upd (upd (upd (fun _ => 0) 0 0) 1 0) 2 0) 3 0))), (q18, .inr (3, [.int 0, .ref gde, .int 0])), (q20, .inl (cq21, 1, .inl (fun _ => 0))), (q23, .inr (3, [.int 0, .ref gde, .int 0])), (q25, .inl (cq26, 1, .inl (fun _ => 0))), (q28, .inr (3, [.int 0, .ref gde, .int 0])), (h2, .inr (3, [.int 0, .ref gde, .int 0])), (h0, .inr (9, [.int 0, .ref h1, .ref h2, .ref z0, .int 0, .int 0, .int 0])), (q30, .inl (cq31, 1, .inl (fun _ => 0)))]) (w1 := []) hP hD [] [0, 1, 2, 3, 4, 5, 6, 7, 8, 9, 10, 11, 12] rfl rfl (by decide) (by decide) hk1 hFc hP1 hD1
  generalize H1 = H at hP hS ⊢
  have hP : va_P (dC, dI) vwCl [(q2, .inl (cq3, 4, .inl (upd (upd (upd (upd (fun _ => 0) 0 0) 1 0) 2 0) 3 0))), (q6, .inl (cq7, 4, .inl (upd (upd (upd (upd (fun _ => 0) 0 0) 1 0) 2 0) 3 0))), (q10, .inl (cq11, 4, .inl (upd (upd (upd (upd (fun _ => 0) 0 0) 1 0) 2 0) 3 0))), (h1, .inl (k0, 4, .inr (.inr (.inr (.inr (va_up (va_up (va_up (va_up (fun _ => none) 0 (some ge5)) 1 (some ge5)) 2 (some ge5)) 3 (some ge5))))))), (q14, .inl (cq15, 4, .inl (upd (upd (upd (upd (fun _ => 0) 0 0) 1 0) 2 0) 3 0))), (q18, .inr (3, [.int 0, .ref gde, .int 0])), (q20, .inl (cq21, 1, .inl (fun _ => 0))), (q23, .inr (3, [.int 0, .ref gde, .int 0])), (q25, .inl (cq26, 1, .inl (fun _ => 0))), (q28, .inr (3, [.int 0, .ref gde, .int 0])), (h2, .inr (3, [.int 0, .ref gde, .int 0])), (h0, .inr (9, [.int 0, .ref h1, .ref h2, .ref z0, .int 0, .int 0, .int 0])), (q30, .inl (cq31, 1, .inl (fun _ => 0)))] H := hP
  have hD : va_D A [(q2, .inl (cq3, 4, .inl (upd (upd (upd (upd (fun _ => 0) 0 0) 1 0) 2 0) 3 0))), (q6, .inl (cq7, 4, .inl (upd (upd (upd (upd (fun _ => 0) 0 0) 1 0) 2 0) 3 0))), (q10, .inl (cq11, 4, .inl (upd (upd (upd (upd (fun _ => 0) 0 0) 1 0) 2 0) 3 0))), (h1, .inl (k0, 4, .inr (.inr (.inr (.inr (va_up (va_up (va_up (va_up (fun _ => none) 0 (some ge5)) 1 (some ge5)) 2 (some ge5)) 3 (some ge5))))))), (q14, .inl (cq15, 4, .inl (upd (upd (upd (upd (fun _ => 0) 0 0) 1 0) 2 0) 3 0))), (q18, .inr (3, [.int 0, .ref gde, .int 0])), (q20, .inl (cq21, 1, .inl (fun _ => 0))), (q23, .inr (3, [.int 0, .ref gde, .int 0])), (q25, .inl (cq26, 1, .inl (fun _ => 0))), (q28, .inr (3, [.int 0, .ref gde, .int 0])), (h2, .inr (3, [.int 0, .ref gde, .int 0])), (h0, .inr (9, [.int 0, .ref h1, .ref h2, .ref z0, .int 0, .int 0, .int 0])), (q30, .inl (cq31, 1, .inl (fun _ => 0)))] := hD
  refine lv_lstore_n (lv' := [(1, .long 215891482929017), (6, .ref ge5), (5, .int 2), (4, .int 4), (3, .ref h1), (0, .ref h0)]) hx hb dX5_digest_90 rfl hl (by decide) rfl (fun ls hl => ?_)
  refine lv_iinc (v := 3) (lv' := [(5, .int 3), (1, .long 215891482929017), (6, .ref ge5), (4, .int 4), (3, .ref h1), (0, .ref h0)]) hx hb dX5_digest_91 hl (k := 2) rfl (by decide) (by decide) rfl (fun ls hl => ?_)
  refine lv_goto (tgt := 47) hx hb dX5_digest_94 (by decide) ?_
  refine lv_iload hx hb dX5_digest_47 (lv_at hl 0 rfl) ?_
  refine lv_iload hx hb dX5_digest_49 (lv_at hl 3 rfl) ?_
  refine lv_icmp_ge (tgt := 97) hx hb dX5_digest_51 (by decide) (fun c9 => absurd c9 (by decide)) (fun _ => ?_)
  refine lv_aload_n hx hb dX5_digest_54 rfl (lv_at hl 4 rfl) ?_
  refine lv_iload hx hb dX5_digest_55 (lv_at hl 0 rfl) ?_
  refine va_aldq (D := (dC, dI)) hx hb hK hP 3 0 rfl rfl (by unfold vp_in; decide) dX5_digest_57 ?_
  refine W.eq (g2 := F0 m 58 ls [.ref ge5]) rfl ?_
  refine lv_astore (lv' := [(6, .ref ge5), (5, .int 3), (1, .long 215891482929017), (4, .int 4), (3, .ref h1), (0, .ref h0)]) hx hb dX5_digest_58 hl (by decide) rfl (fun ls hl => ?_)
  refine lv_lload_n hx hb dX5_digest_60 rfl (lv_at hl 2 rfl) ?_
  refine lv_aload hx hb dX5_digest_61 (lv_at hl 0 rfl) ?_
  have hPc := hP.sub (ws' := []) [] rfl
  have hDc := hD.sub (ws' := []) [] (by decide) rfl
  have hKc := hK.sub (tys' := []) [] rfl
  have hFc := va_free (wc := []) hD hS hA [] rfl
  refine va_calll (va_runS (As := [.long 215891482929017, .ref ge5]) (rest := []) ⟨hx, hb, hml, hown, hts⟩ (kx_X5_add_3 l dC dI ge5 gea gv5 gva gde gic gi0 H.size) (cwS 2 hts gX5_digest_X5_add rfl rfl rfl (by decide +kernel) ⟨Nat.le_of_ble_eq_true rfl, Nat.le_of_ble_eq_true rfl⟩) ⟨fun a U g mk q => by obtain ⟨q0, q1, qP, qK, qD, qG⟩ := q; exact ⟨q0, q1, qP, va_K.moved (u := U) (U := U.calling g mk a) (Vm.Alike.refl U.vm) qK, qD, gv.fb qG⟩, fun U hU hW => ⟨rfl, by rw [hU], by rw [hU]; exact hPc, va_K.moved hW.alike hKc, hDc.weaken (fun _ _ _ _ => trivial), gv.pass hW hU hS hFc hG⟩⟩ rfl rfl hl.1 rfl (lv_room (Nat.le_of_ble_eq_true rfl)) dX5_digest_63 ⟨Nat.le_of_ble_eq_true rfl, Nat.le_of_ble_eq_true rfl⟩) hS (fun q _ h => hFc q h) hFc (fun r9 u t H1 locs ht hvm hw hB hz1 hk1 hS => ?_)
  obtain rfl := hw
  obtain ⟨hP1, hK1, hD1⟩ := hB
  rw [ht] at hP1
  have hK1 := va_K.moved hvm.symm hK1
  obtain ⟨hP, hD⟩ := va_join (wr := [(q2, .inl (cq3, 4, .inl (upd (upd (upd (upd (fun _ => 0) 0 0) 1 0) 2 0) 3 0))), (q6, .inl (cq7, 4, .inl (upd (upd (upd (upd (fun _ => 0) 0 0) 1 0) 2 0) 3 0))), (q10, .inl (cq11, 4, .inl (upd (upd (upd (upd (fun _ => 0) 0 0) 1 0) 2 0) 3 0))), (h1, .inl (k0, 4, .inr (.inr (.inr (.inr (va_up (va_up (va_up (va_up (fun _ => none) 0 (some ge5)) 1 (some ge5)) 2 (some ge5)) 3 (some ge5))))))), (q14, .inl (cq15, 4, .inl (upd (upd (upd (upd (fun _ => 0) 0 0) 1 0) 2 0) 3 0))), (q18, .inr (3, [.int 0, .ref gde, .int 0])), (q20, .inl (cq21, 1, .inl (fun _ => 0))), (q23, .inr (3, [.int 0, .ref gde, .int 0])), (q25, .inl (cq26, 1, .inl (fun _ => 0))), (q28, .inr (3, [.int 0, .ref gde, .int 0])), (h2, .inr (3, [.int 0, .ref gde, .int 0])), (h0, .inr (9, [.int 0, .ref h1, .ref h2, .ref z0, .int 0, .int 0, .int 0])), (q30, .inl (cq31, 1, .inl (fun _ => 0)))]) (w1 := []) hP hD [] [0, 1, 2, 3, 4, 5, 6, 7, 8, 9, 10, 11, 12] rfl rfl (by decide) (by decide) hk1 hFc hP1 hD1
  generalize H1 = H at hP hS ⊢
  have hP : va_P (dC, dI) vwCl [(q2, .inl (cq3, 4, .inl (upd (upd (upd (upd (fun _ => 0) 0 0) 1 0) 2 0) 3 0))), (q6, .inl (cq7, 4, .inl (upd (upd (upd (upd (fun _ => 0) 0 0) 1 0) 2 0) 3 0))), (q10, .inl (cq11, 4, .inl (upd (upd (upd (upd (fun _ => 0) 0 0) 1 0) 2 0) 3 0))), (h1, .inl (k0, 4, .inr (.inr (.inr (.inr (va_up (va_up (va_up (va_up (fun _ => none) 0 (some ge5)) 1 (some ge5)) 2 (some ge5)) 3 (some ge5))))))), (q14, .inl (cq15, 4, .inl (upd (upd (upd (upd (fun _ => 0) 0 0) 1 0) 2 0) 3 0))), (q18, .inr (3, [.int 0, .ref gde, .int 0])), (q20, .inl (cq21, 1, .inl (fun _ => 0))), (q23, .inr (3, [.int 0, .ref gde, .int 0])), (q25, .inl (cq26, 1, .inl (fun _ => 0))), (q28, .inr (3, [.int 0, .ref gde, .int 0])), (h2, .inr (3, [.int 0, .ref gde, .int 0])), (h0, .inr (9, [.int 0, .ref h1, .ref h2, .ref z0, .int 0, .int 0, .int 0])), (q30, .inl (cq31, 1, .inl (fun _ => 0)))] H := hP
  have hD : va_D A [(q2, .inl (cq3, 4, .inl (upd (upd (upd (upd (fun _ => 0) 0 0) 1 0) 2 0) 3 0))), (q6, .inl (cq7, 4, .inl (upd (upd (upd (upd (fun _ => 0) 0 0) 1 0) 2 0) 3 0))), (q10, .inl (cq11, 4, .inl (upd (upd (upd (upd (fun _ => 0) 0 0) 1 0) 2 0) 3 0))), (h1, .inl (k0, 4, .inr (.inr (.inr (.inr (va_up (va_up (va_up (va_up (fun _ => none) 0 (some ge5)) 1 (some ge5)) 2 (some ge5)) 3 (some ge5))))))), (q14, .inl (cq15, 4, .inl (upd (upd (upd (upd (fun _ => 0) 0 0) 1 0) 2 0) 3 0))), (q18, .inr (3, [.int 0, .ref gde, .int 0])), (q20, .inl (cq21, 1, .inl (fun _ => 0))), (q23, .inr (3, [.int 0, .ref gde, .int 0])), (q25, .inl (cq26, 1, .inl (fun _ => 0))), (q28, .inr (3, [.int 0, .ref gde, .int 0])), (h2, .inr (3, [.int 0, .ref gde, .int 0])), (h0, .inr (9, [.int 0, .ref h1, .ref h2, .ref z0, .int 0, .int 0, .int 0])), (q30, .inl (cq31, 1, .inl (fun _ => 0)))] := hD
  refine lv_ldc2 (v := 31) hx hb hown (hts (.constantLong RX5 212 31) (by decide +kernel)) dX5_digest_66 ?_
  refine lv_lmul hx hb dX5_digest_69 ?_
  refine lv_topl (fun y32 ey32 => ?_)
  obtain rfl : y32 = 6692635970799527 := ey32.trans (by decide +kernel)
  refine lv_aload_n hx hb dX5_digest_70 rfl (lv_at hl 5 rfl) ?_
  refine lv_aload hx hb dX5_digest_71 (lv_at hl 0 rfl) ?_
  have hPc := hP.sub (ws' := [(h0, .inr (9, [.int 0, .ref h1, .ref h2, .ref z0, .int 0, .int 0, .int 0]))]) [11] rfl
  have hDc := hD.sub (ws' := [(h0, .inr (9, [.int 0, .ref h1, .ref h2, .ref z0, .int 0, .int 0, .int 0]))]) [11] (by decide) rfl
  have hKc := hK.sub (tys' := []) [] rfl
  have hFc := va_free (wc := [(h0, .inr (9, [.int 0, .ref h1, .ref h2, .ref z0, .int 0, .int 0, .int 0]))]) hD hS hA [11] rfl
  refine va_callr (va_runV (As := [.ref ge5]) (rest := [.long 6692635970799527]) ⟨hx, hb, hml, hown, hts⟩ (kx_X5_spotsOf_0 l dC dI ge5 gea gv5 gva gde gic gi0 h0 h1 h2 z0 H.size) (cwV 1 hts gX5_digest_X5_spotsOf rfl rfl rfl (by decide +kernel) ⟨Nat.le_of_ble_eq_true rfl, Nat.le_of_ble_eq_true rfl⟩) ⟨fun a U g mk q => by obtain ⟨q0, q1, qP, qK, qD, qG⟩ := q; exact ⟨q0, q1, qP, va_K.moved (u := U) (U := U.calling g mk a) (Vm.Alike.refl U.vm) qK, qD, gv.fb qG⟩, va_recv hKc hPc (ci := 9) (q0 := 0) rfl rfl, fun U hU hW => ⟨rfl, by rw [hU], by rw [hU]; exact hPc, va_K.moved hW.alike hKc, hDc.weaken (fun _ _ _ _ => trivial), gv.pass hW hU hS hFc hG⟩⟩ rfl rfl hl.1 rfl (lv_room (Nat.le_of_ble_eq_true rfl)) dX5_digest_73 ⟨Nat.le_of_ble_eq_true rfl, Nat.le_of_ble_eq_true rfl⟩) hS (fun q _ h => hFc q h) hFc (fun u ra t H1 locs ht hvm hw hB hz1 hk1 hS => ?_)
  obtain ⟨q33, hra, hP1, hK1, hD1⟩ := hB
  rw [hra]
  rw [ht] at hP1
  have hK1 := va_K.moved hvm.symm hK1
  obtain ⟨hP, hD⟩ := va_join (wr := [(q2, .inl (cq3, 4, .inl (upd (upd (upd (upd (fun _ => 0) 0 0) 1 0) 2 0) 3 0))), (q6, .inl (cq7, 4, .inl (upd (upd (upd (upd (fun _ => 0) 0 0) 1 0) 2 0) 3 0))), (q10, .inl (cq11, 4, .inl (upd (upd (upd (upd (fun _ => 0) 0 0) 1 0) 2 0) 3 0))), (h1, .inl (k0, 4, .inr (.inr (.inr (.inr (va_up (va_up (va_up (va_up (fun _ => none) 0 (some ge5)) 1 (some ge5)) 2 (some ge5)) 3 (some ge5))))))), (q14, .inl (cq15, 4, .inl (upd (upd (upd (upd (fun _ => 0) 0 0) 1 0) 2 0) 3 0))), (q18, .inr (3, [.int 0, .ref gde, .int 0])), (q20, .inl (cq21, 1, .inl (fun _ => 0))), (q23, .inr (3, [.int 0, .ref gde, .int 0])), (q25, .inl (cq26, 1, .inl (fun _ => 0))), (q28, .inr (3, [.int 0, .ref gde, .int 0])), (h2, .inr (3, [.int 0, .ref gde, .int 0])), (q30, .inl (cq31, 1, .inl (fun _ => 0)))]) (w1 := [(h0, .inr (9, [.int 0, .ref h1, .ref h2, .ref z0, .int 0, .int 0, .int 0])), (q33, .inr (3, [.int 0, .ref gde, .int 0]))]) hP hD [11] [0, 1, 2, 3, 4, 5, 6, 7, 8, 9, 10, 12] rfl rfl (by decide) (by decide) hk1 hFc hP1 hD1
  generalize H1 = H at hP hS ⊢
  have hP : va_P (dC, dI) vwCl [(q2, .inl (cq3, 4, .inl (upd (upd (upd (upd (fun _ => 0) 0 0) 1 0) 2 0) 3 0))), (q6, .inl (cq7, 4, .inl (upd (upd (upd (upd (fun _ => 0) 0 0) 1 0) 2 0) 3 0))), (q10, .inl (cq11, 4, .inl (upd (upd (upd (upd (fun _ => 0) 0 0) 1 0) 2 0) 3 0))), (h1, .inl (k0, 4, .inr (.inr (.inr (.inr (va_up (va_up (va_up (va_up (fun _ => none) 0 (some ge5)) 1 (some ge5)) 2 (some ge5)) 3 (some ge5))))))), (q14, .inl (cq15, 4, .inl (upd (upd (upd (upd (fun _ => 0) 0 0) 1 0) 2 0) 3 0))), (q18, .inr (3, [.int 0, .ref gde, .int 0])), (q20, .inl (cq21, 1, .inl (fun _ => 0))), (q23, .inr (3, [.int 0, .ref gde, .int 0])), (q25, .inl (cq26, 1, .inl (fun _ => 0))), (q28, .inr (3, [.int 0, .ref gde, .int 0])), (h2, .inr (3, [.int 0, .ref gde, .int 0])), (q30, .inl (cq31, 1, .inl (fun _ => 0))), (h0, .inr (9, [.int 0, .ref h1, .ref h2, .ref z0, .int 0, .int 0, .int 0])), (q33, .inr (3, [.int 0, .ref gde, .int 0]))] H := hP
  have hD : va_D A [(q2, .inl (cq3, 4, .inl (upd (upd (upd (upd (fun _ => 0) 0 0) 1 0) 2 0) 3 0))), (q6, .inl (cq7, 4, .inl (upd (upd (upd (upd (fun _ => 0) 0 0) 1 0) 2 0) 3 0))), (q10, .inl (cq11, 4, .inl (upd (upd (upd (upd (fun _ => 0) 0 0) 1 0) 2 0) 3 0))), (h1, .inl (k0, 4, .inr (.inr (.inr (.inr (va_up (va_up (va_up (va_up (fun _ => none) 0 (some ge5)) 1 (some ge5)) 2 (some ge5)) 3 (some ge5))))))), (q14, .inl (cq15, 4, .inl (upd (upd (upd (upd (fun _ => 0) 0 0) 1 0) 2 0) 3 0))), (q18, .inr (3, [.int 0, .ref gde, .int 0])), (q20, .inl (cq21, 1, .inl (fun _ => 0))), (q23, .inr (3, [.int 0, .ref gde, .int 0])), (q25, .inl (cq26, 1, .inl (fun _ => 0))), (q28, .inr (3, [.int 0, .ref gde, .int 0])), (h2, .inr (3, [.int 0, .ref gde, .int 0])), (q30, .inl (cq31, 1, .inl (fun _ => 0))), (h0, .inr (9, [.int 0, .ref h1, .ref h2, .ref z0, .int 0, .int 0, .int 0])), (q33, .inr (3, [.int 0, .ref gde, .int 0]))] := hD
  refine W.widen (k := 11) (n := 31) (by omega) (by omega) ?_
  have hPc := hP.sub (ws' := [(q33, .inr (3, [.int 0, .ref gde, .int 0]))]) [13] rfl
  have hDc := hD.sub (ws' := [(q33, .inr (3, [.int 0, .ref gde, .int 0]))]) [13] (by decide) rfl
  have hKc := hK.sub (tys' := []) [] rfl
  have hFc := va_free (wc := [(q33, .inr (3, [.int 0, .ref gde, .int 0]))]) hD hS hA [13] rfl
  refine va_calli (va_runV (As := []) (rest := [.long 6692635970799527]) ⟨hx, hb, hml, hown, hts⟩ (kx_Jx4a65c_size_8abf5_1 l dC dI ge5 gea gv5 gva gde gic gi0 q33 H.size) (cwV 0 hts gX5_digest_Jx4a65c_size_8abf5 rfl rfl rfl (by decide +kernel) ⟨Nat.le_of_ble_eq_true rfl, Nat.le_of_ble_eq_true rfl⟩) ⟨fun a U g mk q => by obtain ⟨q0, q1, qP, qK, qD, qG⟩ := q; exact ⟨q0, q1, qP, va_K.moved (u := U) (U := U.calling g mk a) (Vm.Alike.refl U.vm) qK, qD, gv.fb qG⟩, va_recv hKc hPc (ci := 3) (q0 := 0) rfl rfl, fun U hU hW => ⟨rfl, by rw [hU], by rw [hU]; exact hPc, va_K.moved hW.alike hKc, hDc.weaken (fun _ _ _ _ => trivial), gv.pass hW hU hS hFc hG⟩⟩ rfl rfl hl.1 rfl (lv_room (Nat.le_of_ble_eq_true rfl)) dX5_digest_76 ⟨Nat.le_of_ble_eq_true rfl, Nat.le_of_ble_eq_true rfl⟩) hS (fun q _ h => hFc q h) hFc (fun r9 u t H1 locs ht hvm hw hB hz1 hk1 hS => ?_)
  obtain rfl := hw
  obtain ⟨hP1, hK1, hD1⟩ := hB
  rw [ht] at hP1
  have hK1 := va_K.moved hvm.symm hK1
  obtain ⟨hP, hD⟩ := va_join (wr := [(q2, .inl (cq3, 4, .inl (upd (upd (upd (upd (fun _ => 0) 0 0) 1 0) 2 0) 3 0))), (q6, .inl (cq7, 4, .inl (upd (upd (upd (upd (fun _ => 0) 0 0) 1 0) 2 0) 3 0))), (q10, .inl (cq11, 4, .inl (upd (upd (upd (upd (fun _ => 0) 0 0) 1 0) 2 0) 3 0))), (h1, .inl (k0, 4, .inr (.inr (.inr (.inr (va_up (va_up (va_up (va_up (fun _ => none) 0 (some ge5)) 1 (some ge5)) 2 (some ge5)) 3 (some ge5))))))), (q14, .inl (cq15, 4, .inl (upd (upd (upd (upd (fun _ => 0) 0 0) 1 0) 2 0) 3 0))), (q18, .inr (3, [.int 0, .ref gde, .int 0])), (q20, .inl (cq21, 1, .inl (fun _ => 0))), (q23, .inr (3, [.int 0, .ref gde, .int 0])), (q25, .inl (cq26, 1, .inl (fun _ => 0))), (q28, .inr (3, [.int 0, .ref gde, .int 0])), (h2, .inr (3, [.int 0, .ref gde, .int 0])), (q30, .inl (cq31, 1, .inl (fun _ => 0))), (h0, .inr (9, [.int 0, .ref h1, .ref h2, .ref z0, .int 0, .int 0, .int 0]))]) (w1 := [(q33, .inr (3, [.int 0, .ref gde, .int 0]))]) hP hD [13] [0, 1, 2, 3, 4, 5, 6, 7, 8, 9, 10, 11, 12] rfl rfl (by decide) (by decide) hk1 hFc hP1 hD1
  generalize H1 = H at hP hS ⊢
  have hP : va_P (dC, dI) vwCl [(q2, .inl (cq3, 4, .inl (upd (upd (upd (upd (fun _ => 0) 0 0) 1 0) 2 0) 3 0))), (q6, .inl (cq7, 4, .inl (upd (upd (upd (upd (fun _ => 0) 0 0) 1 0) 2 0) 3 0))), (q10, .inl (cq11, 4, .inl (upd (upd (upd (upd (fun _ => 0) 0 0) 1 0) 2 0) 3 0))), (h1, .inl (k0, 4, .inr (.inr (.inr (.inr (va_up (va_up (va_up (va_up (fun _ => none) 0 (some ge5)) 1 (some ge5)) 2 (some ge5)) 3 (some ge5))))))), (q14, .inl (cq15, 4, .inl (upd (upd (upd (upd (fun _ => 0) 0 0) 1 0) 2 0) 3 0))), (q18, .inr (3, [.int 0, .ref gde, .int 0])), (q20, .inl (cq21, 1, .inl (fun _ => 0))), (q23, .inr (3, [.int 0, .ref gde, .int 0])), (q25, .inl (cq26, 1, .inl (fun _ => 0))), (q28, .inr (3, [.int 0, .ref gde, .int 0])), (h2, .inr (3, [.int 0, .ref gde, .int 0])), (q30, .inl (cq31, 1, .inl (fun _ => 0))), (h0, .inr (9, [.int 0, .ref h1, .ref h2, .ref z0, .int 0, .int 0, .int 0])), (q33, .inr (3, [.int 0, .ref gde, .int 0]))] H := hP
  have hD : va_D A [(q2, .inl (cq3, 4, .inl (upd (upd (upd (upd (fun _ => 0) 0 0) 1 0) 2 0) 3 0))), (q6, .inl (cq7, 4, .inl (upd (upd (upd (upd (fun _ => 0) 0 0) 1 0) 2 0) 3 0))), (q10, .inl (cq11, 4, .inl (upd (upd (upd (upd (fun _ => 0) 0 0) 1 0) 2 0) 3 0))), (h1, .inl (k0, 4, .inr (.inr (.inr (.inr (va_up (va_up (va_up (va_up (fun _ => none) 0 (some ge5)) 1 (some ge5)) 2 (some ge5)) 3 (some ge5))))))), (q14, .inl (cq15, 4, .inl (upd (upd (upd (upd (fun _ => 0) 0 0) 1 0) 2 0) 3 0))), (q18, .inr (3, [.int 0, .ref gde, .int 0])), (q20, .inl (cq21, 1, .inl (fun _ => 0))), (q23, .inr (3, [.int 0, .ref gde, .int 0])), (q25, .inl (cq26, 1, .inl (fun _ => 0))), (q28, .inr (3, [.int 0, .ref gde, .int 0])), (h2, .inr (3, [.int 0, .ref gde, .int 0])), (q30, .inl (cq31, 1, .inl (fun _ => 0))), (h0, .inr (9, [.int 0, .ref h1, .ref h2, .ref z0, .int 0, .int 0, .int 0])), (q33, .inr (3, [.int 0, .ref gde, .int 0]))] := hD
  refine lv_i2l (v := 0) hx hb dX5_digest_79 (by decide) ?_
  refine lv_ladd hx hb dX5_digest_80 ?_
  refine lv_topl (fun y34 ey34 => ?_)
  obtain rfl : y34 = 6692635970799527 := ey34.trans (by decide +kernel)
  refine lv_aload_n hx hb dX5_digest_81 rfl (lv_at hl 5 rfl) ?_
  refine lv_aload hx hb dX5_digest_82 (lv_at hl 0 rfl) ?_
  have hPc := hP.sub (ws' := [(h2, .inr (3, [.int 0, .ref gde, .int 0])), (h0, .inr (9, [.int 0, .ref h1, .ref h2, .ref z0, .int 0, .int 0, .int 0]))]) [10, 12] rfl
  have hDc := hD.sub (ws' := [(h2, .inr (3, [.int 0, .ref gde, .int 0])), (h0, .inr (9, [.int 0, .ref h1, .ref h2, .ref z0, .int 0, .int 0, .int 0]))]) [10, 12] (by decide) rfl
  have hKc := hK.sub (tys' := []) [] rfl
  have hFc := va_free (wc := [(h2, .inr (3, [.int 0, .ref gde, .int 0])), (h0, .inr (9, [.int 0, .ref h1, .ref h2, .ref z0, .int 0, .int 0, .int 0]))]) hD hS hA [10, 12] rfl
  refine va_callr (va_runV (As := [.ref ge5]) (rest := [.long 6692635970799527]) ⟨hx, hb, hml, hown, hts⟩ (kx_X5_formOf_0 l dC dI ge5 gea gv5 gva gde gic gi0 h2 h0 h1 z0 H.size) (cwV 1 hts gX5_digest_X5_formOf rfl rfl rfl (by decide +kernel) ⟨Nat.le_of_ble_eq_true rfl, Nat.le_of_ble_eq_true rfl⟩) ⟨fun a U g mk q => by obtain ⟨q0, q1, qP, qK, qD, qG⟩ := q; exact ⟨q0, q1, qP, va_K.moved (u := U) (U := U.calling g mk a) (Vm.Alike.refl U.vm) qK, qD, gv.fb qG⟩, va_recv hKc hPc (ci := 9) (q0 := 1) rfl rfl, fun U hU hW => ⟨rfl, by rw [hU], by rw [hU]; exact hPc, va_K.moved hW.alike hKc, hDc.weaken (fun _ _ _ _ => trivial), gv.pass hW hU hS hFc hG⟩⟩ rfl rfl hl.1 rfl (lv_room (Nat.le_of_ble_eq_true rfl)) dX5_digest_84 ⟨Nat.le_of_ble_eq_true rfl, Nat.le_of_ble_eq_true rfl⟩) hS (fun q _ h => hFc q h) hFc (fun u ra t H1 locs ht hvm hw hB hz1 hk1 hS => ?_)
  obtain ⟨q35, cq36, hra, hP1, hK1, hD1⟩ := hB
  rw [hra]
  rw [ht] at hP1
  have hK1 := va_K.moved hvm.symm hK1
  obtain ⟨hP, hD⟩ := va_join (wr := [(q2, .inl (cq3, 4, .inl (upd (upd (upd (upd (fun _ => 0) 0 0) 1 0) 2 0) 3 0))), (q6, .inl (cq7, 4, .inl (upd (upd (upd (upd (fun _ => 0) 0 0) 1 0) 2 0) 3 0))), (q10, .inl (cq11, 4, .inl (upd (upd (upd (upd (fun _ => 0) 0 0) 1 0) 2 0) 3 0))), (h1, .inl (k0, 4, .inr (.inr (.inr (.inr (va_up (va_up (va_up (va_up (fun _ => none) 0 (some ge5)) 1 (some ge5)) 2 (some ge5)) 3 (some ge5))))))), (q14, .inl (cq15, 4, .inl (upd (upd (upd (upd (fun _ => 0) 0 0) 1 0) 2 0) 3 0))), (q18, .inr (3, [.int 0, .ref gde, .int 0])), (q20, .inl (cq21, 1, .inl (fun _ => 0))), (q23, .inr (3, [.int 0, .ref gde, .int 0])), (q25, .inl (cq26, 1, .inl (fun _ => 0))), (q28, .inr (3, [.int 0, .ref gde, .int 0])), (q30, .inl (cq31, 1, .inl (fun _ => 0))), (q33, .inr (3, [.int 0, .ref gde, .int 0]))]) (w1 := [(h2, .inr (3, [.int 0, .ref gde, .int 0])), (h0, .inr (9, [.int 0, .ref h1, .ref h2, .ref z0, .int 0, .int 0, .int 0])), (q35, .inl (cq36, 1, .inl (fun _ => 0)))]) hP hD [10, 12] [0, 1, 2, 3, 4, 5, 6, 7, 8, 9, 11, 13] rfl rfl (by decide) (by decide) hk1 hFc hP1 hD1
  have hK := hK.app (hK1.sub (tys' := [(cq36, .int)]) [0] rfl)
  generalize H1 = H at hP hS ⊢
  have hK : va_K (dC, dI) vwCl [(k0, .object "java/lang/String"), (cq3, .int), (cq7, .int), (cq11, .int), (cq15, .int), (cq21, .int), (cq26, .int), (cq31, .int), (cq36, .int)] s := hK
  have hP : va_P (dC, dI) vwCl [(q2, .inl (cq3, 4, .inl (upd (upd (upd (upd (fun _ => 0) 0 0) 1 0) 2 0) 3 0))), (q6, .inl (cq7, 4, .inl (upd (upd (upd (upd (fun _ => 0) 0 0) 1 0) 2 0) 3 0))), (q10, .inl (cq11, 4, .inl (upd (upd (upd (upd (fun _ => 0) 0 0) 1 0) 2 0) 3 0))), (h1, .inl (k0, 4, .inr (.inr (.inr (.inr (va_up (va_up (va_up (va_up (fun _ => none) 0 (some ge5)) 1 (some ge5)) 2 (some ge5)) 3 (some ge5))))))), (q14, .inl (cq15, 4, .inl (upd (upd (upd (upd (fun _ => 0) 0 0) 1 0) 2 0) 3 0))), (q18, .inr (3, [.int 0, .ref gde, .int 0])), (q20, .inl (cq21, 1, .inl (fun _ => 0))), (q23, .inr (3, [.int 0, .ref gde, .int 0])), (q25, .inl (cq26, 1, .inl (fun _ => 0))), (q28, .inr (3, [.int 0, .ref gde, .int 0])), (q30, .inl (cq31, 1, .inl (fun _ => 0))), (q33, .inr (3, [.int 0, .ref gde, .int 0])), (h2, .inr (3, [.int 0, .ref gde, .int 0])), (h0, .inr (9, [.int 0, .ref h1, .ref h2, .ref z0, .int 0, .int 0, .int 0])), (q35, .inl (cq36, 1, .inl (fun _ => 0)))] H := hP
  have hD : va_D A [(q2, .inl (cq3, 4, .inl (upd (upd (upd (upd (fun _ => 0) 0 0) 1 0) 2 0) 3 0))), (q6, .inl (cq7, 4, .inl (upd (upd (upd (upd (fun _ => 0) 0 0) 1 0) 2 0) 3 0))), (q10, .inl (cq11, 4, .inl (upd (upd (upd (upd (fun _ => 0) 0 0) 1 0) 2 0) 3 0))), (h1, .inl (k0, 4, .inr (.inr (.inr (.inr (va_up (va_up (va_up (va_up (fun _ => none) 0 (some ge5)) 1 (some ge5)) 2 (some ge5)) 3 (some ge5))))))), (q14, .inl (cq15, 4, .inl (upd (upd (upd (upd (fun _ => 0) 0 0) 1 0) 2 0) 3 0))), (q18, .inr (3, [.int 0, .ref gde, .int 0])), (q20, .inl (cq21, 1, .inl (fun _ => 0))), (q23, .inr (3, [.int 0, .ref gde, .int 0])), (q25, .inl (cq26, 1, .inl (fun _ => 0))), (q28, .inr (3, [.int 0, .ref gde, .int 0])), (q30, .inl (cq31, 1, .inl (fun _ => 0))), (q33, .inr (3, [.int 0, .ref gde, .int 0])), (h2, .inr (3, [.int 0, .ref gde, .int 0])), (h0, .inr (9, [.int 0, .ref h1, .ref h2, .ref z0, .int 0, .int 0, .int 0])), (q35, .inl (cq36, 1, .inl (fun _ => 0)))] := hD
  refine W.widen (k := 12) (n := 32) (by omega) (by omega) ?_
  have hPc := hP.sub (ws' := []) [] rfl
  have hDc := hD.sub (ws' := []) [] (by decide) rfl
  have hKc := hK.sub (tys' := []) [] rfl
  have hFc := va_free (wc := []) hD hS hA [] rfl
  refine va_calll (va_runS (As := [.long 6692635970799527, .ref ge5]) (rest := []) ⟨hx, hb, hml, hown, hts⟩ (kx_X5_add_4 l dC dI ge5 gea gv5 gva gde gic gi0 H.size) (cwS 2 hts gX5_digest_X5_add rfl rfl rfl (by decide +kernel) ⟨Nat.le_of_ble_eq_true rfl, Nat.le_of_ble_eq_true rfl⟩) ⟨fun a U g mk q => by obtain ⟨q0, q1, qP, qK, qD, qG⟩ := q; exact ⟨q0, q1, qP, va_K.moved (u := U) (U := U.calling g mk a) (Vm.Alike.refl U.vm) qK, qD, gv.fb qG⟩, fun U hU hW => ⟨rfl, by rw [hU], by rw [hU]; exact hPc, va_K.moved hW.alike hKc, hDc.weaken (fun _ _ _ _ => trivial), gv.pass hW hU hS hFc hG⟩⟩ rfl rfl hl.1 rfl (lv_room (Nat.le_of_ble_eq_true rfl)) dX5_digest_87 ⟨Nat.le_of_ble_eq_true rfl, Nat.le_of_ble_eq_true rfl⟩) hS (fun q _ h => hFc q h) hFc (fun r9 u t H1 locs ht hvm hw hB hz1 hk1 hS => ?_)
  obtain rfl := hw
  obtain ⟨hP1, hK1, hD1⟩ := hB
  rw [ht] at hP1
  have hK1 := va_K.moved hvm.symm hK1
  obtain ⟨hP, hD⟩ := va_join (wr := [(q2, .inl (cq3, 4, .inl (upd (upd (upd (upd (fun _ => 0) 0 0) 1 0) 2 0) 3 0))), (q6, .inl (cq7, 4, .inl (upd (upd (upd (upd (fun _ => 0) 0 0) 1 0) 2 0) 3 0))), (q10, .inl (cq11, 4, .inl (upd (upd (upd (upd (fun _ => 0) 0 0) 1 0) 2 0) 3 0))), (h1, .inl (k0, 4, .inr (.inr (.inr (.inr (va_up (va_up (va_up (va_up (fun _ => none) 0 (some ge5)) 1 (some ge5)) 2 (some ge5)) 3 (some ge5))))))), (q14, .inl (cq15, 4, .inl (upd (upd (upd (upd (fun _ => 0) 0 0) 1 0) 2 0) 3 0))), (q18, .inr (3, [.int 0, .ref gde, .int 0])), (q20, .inl (cq21, 1, .inl (fun _ => 0))), (q23, .inr (3, [.int 0, .ref gde, .int 0])), (q25, .inl (cq26, 1, .inl (fun _ => 0))), (q28, .inr (3, [.int 0, .ref gde, .int 0])), (q30, .inl (cq31, 1, .inl (fun _ => 0))), (q33, .inr (3, [.int 0, .ref gde, .int 0])), (h2, .inr (3, [.int 0, .ref gde, .int 0])), (h0, .inr (9, [.int 0, .ref h1, .ref h2, .ref z0, .int 0, .int 0, .int 0])), (q35, .inl (cq36, 1, .inl (fun _ => 0)))]) (w1 := []) hP hD [] [0, 1, 2, 3, 4, 5, 6, 7, 8, 9, 10, 11, 12, 13, 14] rfl rfl (by decide) (by decide) hk1 hFc hP1 hD1
  generalize H1 = H at hP hS ⊢
  have hP : va_P (dC, dI) vwCl [(q2, .inl (cq3, 4, .inl (upd (upd (upd (upd (fun _ => 0) 0 0) 1 0) 2 0) 3 0))), (q6, .inl (cq7, 4, .inl (upd (upd (upd (upd (fun _ => 0) 0 0) 1 0) 2 0) 3 0))), (q10, .inl (cq11, 4, .inl (upd (upd (upd (upd (fun _ => 0) 0 0) 1 0) 2 0) 3 0))), (h1, .inl (k0, 4, .inr (.inr (.inr (.inr (va_up (va_up (va_up (va_up (fun _ => none) 0 (some ge5)) 1 (some ge5)) 2 (some ge5)) 3 (some ge5))))))), (q14, .inl (cq15, 4, .inl (upd (upd (upd (upd (fun _ => 0) 0 0) 1 0) 2 0) 3 0))), (q18, .inr (3, [.int 0, .ref gde, .int 0])), (q20, .inl (cq21, 1, .inl (fun _ => 0))), (q23, .inr (3, [.int 0, .ref gde, .int 0])), (q25, .inl (cq26, 1, .inl (fun _ => 0))), (q28, .inr (3, [.int 0, .ref gde, .int 0])), (q30, .inl (cq31, 1, .inl (fun _ => 0))), (q33, .inr (3, [.int 0, .ref gde, .int 0])), (h2, .inr (3, [.int 0, .ref gde, .int 0])), (h0, .inr (9, [.int 0, .ref h1, .ref h2, .ref z0, .int 0, .int 0, .int 0])), (q35, .inl (cq36, 1, .inl (fun _ => 0)))] H := hP
  have hD : va_D A [(q2, .inl (cq3, 4, .inl (upd (upd (upd (upd (fun _ => 0) 0 0) 1 0) 2 0) 3 0))), (q6, .inl (cq7, 4, .inl (upd (upd (upd (upd (fun _ => 0) 0 0) 1 0) 2 0) 3 0))), (q10, .inl (cq11, 4, .inl (upd (upd (upd (upd (fun _ => 0) 0 0) 1 0) 2 0) 3 0))), (h1, .inl (k0, 4, .inr (.inr (.inr (.inr (va_up (va_up (va_up (va_up (fun _ => none) 0 (some ge5)) 1 (some ge5)) 2 (some ge5)) 3 (some ge5))))))), (q14, .inl (cq15, 4, .inl (upd (upd (upd (upd (fun _ => 0) 0 0) 1 0) 2 0) 3 0))), (q18, .inr (3, [.int 0, .ref gde, .int 0])), (q20, .inl (cq21, 1, .inl (fun _ => 0))), (q23, .inr (3, [.int 0, .ref gde, .int 0])), (q25, .inl (cq26, 1, .inl (fun _ => 0))), (q28, .inr (3, [.int 0, .ref gde, .int 0])), (q30, .inl (cq31, 1, .inl (fun _ => 0))), (q33, .inr (3, [.int 0, .ref gde, .int 0])), (h2, .inr (3, [.int 0, .ref gde, .int 0])), (h0, .inr (9, [.int 0, .ref h1, .ref h2, .ref z0, .int 0, .int 0, .int 0])), (q35, .inl (cq36, 1, .inl (fun _ => 0)))] := hD
  refine lv_lstore_n (lv' := [(1, .long 6692635970799527), (6, .ref ge5), (5, .int 3), (4, .int 4), (3, .ref h1), (0, .ref h0)]) hx hb dX5_digest_90 rfl hl (by decide) rfl (fun ls hl => ?_)
  refine lv_iinc (v := 4) (lv' := [(5, .int 4), (1, .long 6692635970799527), (6, .ref ge5), (4, .int 4), (3, .ref h1), (0, .ref h0)]) hx hb dX5_digest_91 hl (k := 2) rfl (by decide) (by decide) rfl (fun ls hl => ?_)
  refine lv_goto (tgt := 47) hx hb dX5_digest_94 (by decide) ?_
  refine lv_iload hx hb dX5_digest_47 (lv_at hl 0 rfl) ?_
  refine lv_iload hx hb dX5_digest_49 (lv_at hl 3 rfl) ?_
  refine lv_icmp_ge (tgt := 97) hx hb dX5_digest_51 (by decide) (fun _ => ?_) (fun c9 => absurd (by decide) c9)
  refine lv_iconst (v := 0) hx hb dX5_digest_97 (by decide) ?_
  refine lv_istore_n (lv' := [(3, .int 0), (5, .int 4), (1, .long 6692635970799527), (6, .ref ge5), (4, .int 4), (0, .ref h0)]) hx hb dX5_digest_98 rfl hl (by decide) rfl (fun ls hl => ?_)
  refine lv_iload_n hx hb dX5_digest_99 rfl (lv_at hl 0 rfl) ?_
  refine lv_aload_n hx hb dX5_digest_100 rfl (lv_at hl 5 rfl) ?_
  refine va_get (D := (dC, dI)) (ci := 9) (v := .ref h2) (C := RX5) (T := TX5) (N := 7) hx hb hts (by decide +kernel) hown hK hP 13 rfl rfl 2 (by decide) (hts (.fieldLink RX5 20 "RewriteropeModel" "lefts" "Ljava/util/ArrayList;") (by decide +kernel)) (fun _ h9 => h9) rfl dX5_digest_101 ?_
  have hPc := hP.sub (ws' := [(h2, .inr (3, [.int 0, .ref gde, .int 0]))]) [12] rfl
  have hDc := hD.sub (ws' := [(h2, .inr (3, [.int 0, .ref gde, .int 0]))]) [12] (by decide) rfl
  have hKc := hK.sub (tys' := []) [] rfl
  have hFc := va_free (wc := [(h2, .inr (3, [.int 0, .ref gde, .int 0]))]) hD hS hA [12] rfl
  refine va_calli (va_runV (As := []) (rest := [.int 0]) ⟨hx, hb, hml, hown, hts⟩ (kx_Jx4a65c_size_8abf5_1 l dC dI ge5 gea gv5 gva gde gic gi0 h2 H.size) (cwV 0 hts gX5_digest_Jx4a65c_size_8abf5 rfl rfl rfl (by decide +kernel) ⟨Nat.le_of_ble_eq_true rfl, Nat.le_of_ble_eq_true rfl⟩) ⟨fun a U g mk q => by obtain ⟨q0, q1, qP, qK, qD, qG⟩ := q; exact ⟨q0, q1, qP, va_K.moved (u := U) (U := U.calling g mk a) (Vm.Alike.refl U.vm) qK, qD, gv.fb qG⟩, va_recv hKc hPc (ci := 3) (q0 := 0) rfl rfl, fun U hU hW => ⟨rfl, by rw [hU], by rw [hU]; exact hPc, va_K.moved hW.alike hKc, hDc.weaken (fun _ _ _ _ => trivial), gv.pass hW hU hS hFc hG⟩⟩ rfl rfl hl.1 rfl (lv_room (Nat.le_of_ble_eq_true rfl)) dX5_digest_104 ⟨Nat.le_of_ble_eq_true rfl, Nat.le_of_ble_eq_true rfl⟩) hS (fun q _ h => hFc q h) hFc (fun r9 u t H1 locs ht hvm hw hB hz1 hk1 hS => ?_)
  obtain rfl := hw
  obtain ⟨hP1, hK1, hD1⟩ := hB
  rw [ht] at hP1
  have hK1 := va_K.moved hvm.symm hK1
  obtain ⟨hP, hD⟩ := va_join (wr := [(q2, .inl (cq3, 4, .inl (upd (upd (upd (upd (fun _ => 0) 0 0) 1 0) 2 0) 3 0))), (q6, .inl (cq7, 4, .inl (upd (upd (upd (upd (fun _ => 0) 0 0) 1 0) 2 0) 3 0))), (q10, .inl (cq11, 4, .inl (upd (upd (upd (upd (fun _ => 0) 0 0) 1 0) 2 0) 3 0))), (h1, .inl (k0, 4, .inr (.inr (.inr (.inr (va_up (va_up (va_up (va_up (fun _ => none) 0 (some ge5)) 1 (some ge5)) 2 (some ge5)) 3 (some ge5))))))), (q14, .inl (cq15, 4, .inl (upd (upd (upd (upd (fun _ => 0) 0 0) 1 0) 2 0) 3 0))), (q18, .inr (3, [.int 0, .ref gde, .int 0])), (q20, .inl (cq21, 1, .inl (fun _ => 0))), (q23, .inr (3, [.int 0, .ref gde, .int 0])), (q25, .inl (cq26, 1, .inl (fun _ => 0))), (q28, .inr (3, [.int 0, .ref gde, .int 0])), (q30, .inl (cq31, 1, .inl (fun _ => 0))), (q33, .inr (3, [.int 0, .ref gde, .int 0])), (h0, .inr (9, [.int 0, .ref h1, .ref h2, .ref z0, .int 0, .int 0, .int 0])), (q35, .inl (cq36, 1, .inl (fun _ => 0)))]) (w1 := [(h2, .inr (3, [.int 0, .ref gde, .int 0]))]) hP hD [12] [0, 1, 2, 3, 4, 5, 6, 7, 8, 9, 10, 11, 13, 14] rfl rfl (by decide) (by decide) hk1 hFc hP1 hD1
  generalize H1 = H at hP hS ⊢
  have hP : va_P (dC, dI) vwCl [(q2, .inl (cq3, 4, .inl (upd (upd (upd (upd (fun _ => 0) 0 0) 1 0) 2 0) 3 0))), (q6, .inl (cq7, 4, .inl (upd (upd (upd (upd (fun _ => 0) 0 0) 1 0) 2 0) 3 0))), (q10, .inl (cq11, 4, .inl (upd (upd (upd (upd (fun _ => 0) 0 0) 1 0) 2 0) 3 0))), (h1, .inl (k0, 4, .inr (.inr (.inr (.inr (va_up (va_up (va_up (va_up (fun _ => none) 0 (some ge5)) 1 (some ge5)) 2 (some ge5)) 3 (some ge5))))))), (q14, .inl (cq15, 4, .inl (upd (upd (upd (upd (fun _ => 0) 0 0) 1 0) 2 0) 3 0))), (q18, .inr (3, [.int 0, .ref gde, .int 0])), (q20, .inl (cq21, 1, .inl (fun _ => 0))), (q23, .inr (3, [.int 0, .ref gde, .int 0])), (q25, .inl (cq26, 1, .inl (fun _ => 0))), (q28, .inr (3, [.int 0, .ref gde, .int 0])), (q30, .inl (cq31, 1, .inl (fun _ => 0))), (q33, .inr (3, [.int 0, .ref gde, .int 0])), (h0, .inr (9, [.int 0, .ref h1, .ref h2, .ref z0, .int 0, .int 0, .int 0])), (q35, .inl (cq36, 1, .inl (fun _ => 0))), (h2, .inr (3, [.int 0, .ref gde, .int 0]))] H := hP
  have hD : va_D A [(q2, .inl (cq3, 4, .inl (upd (upd (upd (upd (fun _ => 0) 0 0) 1 0) 2 0) 3 0))), (q6, .inl (cq7, 4, .inl (upd (upd (upd (upd (fun _ => 0) 0 0) 1 0) 2 0) 3 0))), (q10, .inl (cq11, 4, .inl (upd (upd (upd (upd (fun _ => 0) 0 0) 1 0) 2 0) 3 0))), (h1, .inl (k0, 4, .inr (.inr (.inr (.inr (va_up (va_up (va_up (va_up (fun _ => none) 0 (some ge5)) 1 (some ge5)) 2 (some ge5)) 3 (some ge5))))))), (q14, .inl (cq15, 4, .inl (upd (upd (upd (upd (fun _ => 0) 0 0) 1 0) 2 0) 3 0))), (q18, .inr (3, [.int 0, .ref gde, .int 0])), (q20, .inl (cq21, 1, .inl (fun _ => 0))), (q23, .inr (3, [.int 0, .ref gde, .int 0])), (q25, .inl (cq26, 1, .inl (fun _ => 0))), (q28, .inr (3, [.int 0, .ref gde, .int 0])), (q30, .inl (cq31, 1, .inl (fun _ => 0))), (q33, .inr (3, [.int 0, .ref gde, .int 0])), (h0, .inr (9, [.int 0, .ref h1, .ref h2, .ref z0, .int 0, .int 0, .int 0])), (q35, .inl (cq36, 1, .inl (fun _ => 0))), (h2, .inr (3, [.int 0, .ref gde, .int 0]))] := hD
  refine lv_icmp_ge (tgt := 126) hx hb dX5_digest_107 (by decide) (fun _ => ?_) (fun c9 => absurd (by decide) c9)
  refine lv_lload_n hx hb dX5_digest_126 rfl (lv_at hl 2 rfl) ?_
  refine lv_ldc2 (v := 31) hx hb hown (hts (.constantLong RX5 212 31) (by decide +kernel)) dX5_digest_127 ?_
  refine lv_lmul hx hb dX5_digest_130 ?_
  refine lv_topl (fun y37 ey37 => ?_)
  obtain rfl : y37 = 207471715094785337 := ey37.trans (by decide +kernel)
  refine lv_aload_n hx hb dX5_digest_131 rfl (lv_at hl 5 rfl) ?_
  have hPc := hP.sub (ws' := [(h0, .inr (9, [.int 0, .ref h1, .ref h2, .ref z0, .int 0, .int 0, .int 0])), (h2, .inr (3, [.int 0, .ref gde, .int 0]))]) [12, 14] rfl
  have hDc := hD.sub (ws' := [(h0, .inr (9, [.int 0, .ref h1, .ref h2, .ref z0, .int 0, .int 0, .int 0])), (h2, .inr (3, [.int 0, .ref gde, .int 0]))]) [12, 14] (by decide) rfl
  have hKc := hK.sub (tys' := []) [] rfl
  have hFc := va_free (wc := [(h0, .inr (9, [.int 0, .ref h1, .ref h2, .ref z0, .int 0, .int 0, .int 0])), (h2, .inr (3, [.int 0, .ref gde, .int 0]))]) hD hS hA [12, 14] rfl
  refine va_calli (va_runV (As := []) (rest := [.long 207471715094785337]) ⟨hx, hb, hml, hown, hts⟩ (kx_X5_areAllFalling_0 l dC dI ge5 gea gv5 gva gde gic gi0 h0 h2 h1 z0 H.size) (cwV 0 hts gX5_digest_X5_areAllFalling rfl rfl rfl (by decide +kernel) ⟨Nat.le_of_ble_eq_true rfl, Nat.le_of_ble_eq_true rfl⟩) ⟨fun a U g mk q => by obtain ⟨q0, q1, qP, qK, qD, qG⟩ := q; exact ⟨q0, q1, qP, va_K.moved (u := U) (U := U.calling g mk a) (Vm.Alike.refl U.vm) qK, qD, gv.fb qG⟩, va_recv hKc hPc (ci := 9) (q0 := 0) rfl rfl, fun U hU hW => ⟨rfl, by rw [hU], by rw [hU]; exact hPc, va_K.moved hW.alike hKc, hDc.weaken (fun _ _ _ _ => trivial), gv.pass hW hU hS hFc hG⟩⟩ rfl rfl hl.1 rfl (lv_room (Nat.le_of_ble_eq_true rfl)) dX5_digest_132 ⟨Nat.le_of_ble_eq_true rfl, Nat.le_of_ble_eq_true rfl⟩) hS (fun q _ h => hFc q h) hFc (fun r9 u t H1 locs ht hvm hw hB hz1 hk1 hS => ?_)
  obtain rfl := hw
  obtain ⟨hP1, hK1, hD1⟩ := hB
  rw [ht] at hP1
  have hK1 := va_K.moved hvm.symm hK1
  obtain ⟨hP, hD⟩ := va_join (wr := [(q2, .inl (cq3, 4, .inl (upd (upd (upd (upd (fun _ => 0) 0 0) 1 0) 2 0) 3 0))), (q6, .inl (cq7, 4, .inl (upd (upd (upd (upd (fun _ => 0) 0 0) 1 0) 2 0) 3 0))), (q10, .inl (cq11, 4, .inl (upd (upd (upd (upd (fun _ => 0) 0 0) 1 0) 2 0) 3 0))), (h1, .inl (k0, 4, .inr (.inr (.inr (.inr (va_up (va_up (va_up (va_up (fun _ => none) 0 (some ge5)) 1 (some ge5)) 2 (some ge5)) 3 (some ge5))))))), (q14, .inl (cq15, 4, .inl (upd (upd (upd (upd (fun _ => 0) 0 0) 1 0) 2 0) 3 0))), (q18, .inr (3, [.int 0, .ref gde, .int 0])), (q20, .inl (cq21, 1, .inl (fun _ => 0))), (q23, .inr (3, [.int 0, .ref gde, .int 0])), (q25, .inl (cq26, 1, .inl (fun _ => 0))), (q28, .inr (3, [.int 0, .ref gde, .int 0])), (q30, .inl (cq31, 1, .inl (fun _ => 0))), (q33, .inr (3, [.int 0, .ref gde, .int 0])), (q35, .inl (cq36, 1, .inl (fun _ => 0)))]) (w1 := [(h0, .inr (9, [.int 0, .ref h1, .ref h2, .ref z0, .int 0, .int 0, .int 0])), (h2, .inr (3, [.int 0, .ref gde, .int 0]))]) hP hD [12, 14] [0, 1, 2, 3, 4, 5, 6, 7, 8, 9, 10, 11, 13] rfl rfl (by decide) (by decide) hk1 hFc hP1 hD1
  generalize H1 = H at hP hS ⊢
  have hP : va_P (dC, dI) vwCl [(q2, .inl (cq3, 4, .inl (upd (upd (upd (upd (fun _ => 0) 0 0) 1 0) 2 0) 3 0))), (q6, .inl (cq7, 4, .inl (upd (upd (upd (upd (fun _ => 0) 0 0) 1 0) 2 0) 3 0))), (q10, .inl (cq11, 4, .inl (upd (upd (upd (upd (fun _ => 0) 0 0) 1 0) 2 0) 3 0))), (h1, .inl (k0, 4, .inr (.inr (.inr (.inr (va_up (va_up (va_up (va_up (fun _ => none) 0 (some ge5)) 1 (some ge5)) 2 (some ge5)) 3 (some ge5))))))), (q14, .inl (cq15, 4, .inl (upd (upd (upd (upd (fun _ => 0) 0 0) 1 0) 2 0) 3 0))), (q18, .inr (3, [.int 0, .ref gde, .int 0])), (q20, .inl (cq21, 1, .inl (fun _ => 0))), (q23, .inr (3, [.int 0, .ref gde, .int 0])), (q25, .inl (cq26, 1, .inl (fun _ => 0))), (q28, .inr (3, [.int 0, .ref gde, .int 0])), (q30, .inl (cq31, 1, .inl (fun _ => 0))), (q33, .inr (3, [.int 0, .ref gde, .int 0])), (q35, .inl (cq36, 1, .inl (fun _ => 0))), (h0, .inr (9, [.int 0, .ref h1, .ref h2, .ref z0, .int 0, .int 0, .int 0])), (h2, .inr (3, [.int 0, .ref gde, .int 0]))] H := hP
  have hD : va_D A [(q2, .inl (cq3, 4, .inl (upd (upd (upd (upd (fun _ => 0) 0 0) 1 0) 2 0) 3 0))), (q6, .inl (cq7, 4, .inl (upd (upd (upd (upd (fun _ => 0) 0 0) 1 0) 2 0) 3 0))), (q10, .inl (cq11, 4, .inl (upd (upd (upd (upd (fun _ => 0) 0 0) 1 0) 2 0) 3 0))), (h1, .inl (k0, 4, .inr (.inr (.inr (.inr (va_up (va_up (va_up (va_up (fun _ => none) 0 (some ge5)) 1 (some ge5)) 2 (some ge5)) 3 (some ge5))))))), (q14, .inl (cq15, 4, .inl (upd (upd (upd (upd (fun _ => 0) 0 0) 1 0) 2 0) 3 0))), (q18, .inr (3, [.int 0, .ref gde, .int 0])), (q20, .inl (cq21, 1, .inl (fun _ => 0))), (q23, .inr (3, [.int 0, .ref gde, .int 0])), (q25, .inl (cq26, 1, .inl (fun _ => 0))), (q28, .inr (3, [.int 0, .ref gde, .int 0])), (q30, .inl (cq31, 1, .inl (fun _ => 0))), (q33, .inr (3, [.int 0, .ref gde, .int 0])), (q35, .inl (cq36, 1, .inl (fun _ => 0))), (h0, .inr (9, [.int 0, .ref h1, .ref h2, .ref z0, .int 0, .int 0, .int 0])), (h2, .inr (3, [.int 0, .ref gde, .int 0]))] := hD
  have hPc := hP.sub (ws' := []) [] rfl
  have hDc := hD.sub (ws' := []) [] (by decide) rfl
  have hKc := hK.sub (tys' := []) [] rfl
  have hFc := va_free (wc := []) hD hS hA [] rfl
  refine va_calli (va_runS (As := [.int 1]) (rest := [.long 207471715094785337]) ⟨hx, hb, hml, hown, hts⟩ (kx_X5_one_0 l dC dI H.size) (cwS 1 hts gX5_digest_X5_one rfl rfl rfl (by decide +kernel) ⟨Nat.le_of_ble_eq_true rfl, Nat.le_of_ble_eq_true rfl⟩) ⟨fun a U g mk q => by obtain ⟨q0, q1, qP, qK, qD⟩ := q; exact ⟨q0, q1, qP, va_K.moved (u := U) (U := U.calling g mk a) (Vm.Alike.refl U.vm) qK, qD⟩, fun U hU hW => ⟨rfl, by rw [hU], by rw [hU]; exact hPc, va_K.moved hW.alike hKc, hDc.weaken (fun _ _ _ _ => trivial)⟩⟩ rfl rfl hl.1 rfl (lv_room (Nat.le_of_ble_eq_true rfl)) dX5_digest_135 ⟨Nat.le_of_ble_eq_true rfl, Nat.le_of_ble_eq_true rfl⟩) hS (fun q _ h => hFc q h) hFc (fun r9 u t H1 locs ht hvm hw hB hz1 hk1 hS => ?_)
  obtain rfl := hw
  obtain ⟨hP1, hK1, hD1⟩ := hB
  rw [ht] at hP1
  have hK1 := va_K.moved hvm.symm hK1
  obtain ⟨hP, hD⟩ := va_join (wr := [(q2, .inl (cq3, 4, .inl (upd (upd (upd (upd (fun _ => 0) 0 0) 1 0) 2 0) 3 0))), (q6, .inl (cq7, 4, .inl (upd (upd (upd (upd (fun _ => 0) 0 0) 1 0) 2 0) 3 0))), (q10, .inl (cq11, 4, .inl (upd (upd (upd (upd (fun _ => 0) 0 0) 1 0) 2 0) 3 0))), (h1, .inl (k0, 4, .inr (.inr (.inr (.inr (va_up (va_up (va_up (va_up (fun _ => none) 0 (some ge5)) 1 (some ge5)) 2 (some ge5)) 3 (some ge5))))))), (q14, .inl (cq15, 4, .inl (upd (upd (upd (upd (fun _ => 0) 0 0) 1 0) 2 0) 3 0))), (q18, .inr (3, [.int 0, .ref gde, .int 0])), (q20, .inl (cq21, 1, .inl (fun _ => 0))), (q23, .inr (3, [.int 0, .ref gde, .int 0])), (q25, .inl (cq26, 1, .inl (fun _ => 0))), (q28, .inr (3, [.int 0, .ref gde, .int 0])), (q30, .inl (cq31, 1, .inl (fun _ => 0))), (q33, .inr (3, [.int 0, .ref gde, .int 0])), (q35, .inl (cq36, 1, .inl (fun _ => 0))), (h0, .inr (9, [.int 0, .ref h1, .ref h2, .ref z0, .int 0, .int 0, .int 0])), (h2, .inr (3, [.int 0, .ref gde, .int 0]))]) (w1 := []) hP hD [] [0, 1, 2, 3, 4, 5, 6, 7, 8, 9, 10, 11, 12, 13, 14] rfl rfl (by decide) (by decide) hk1 hFc hP1 hD1
  generalize H1 = H at hP hS ⊢
  have hP : va_P (dC, dI) vwCl [(q2, .inl (cq3, 4, .inl (upd (upd (upd (upd (fun _ => 0) 0 0) 1 0) 2 0) 3 0))), (q6, .inl (cq7, 4, .inl (upd (upd (upd (upd (fun _ => 0) 0 0) 1 0) 2 0) 3 0))), (q10, .inl (cq11, 4, .inl (upd (upd (upd (upd (fun _ => 0) 0 0) 1 0) 2 0) 3 0))), (h1, .inl (k0, 4, .inr (.inr (.inr (.inr (va_up (va_up (va_up (va_up (fun _ => none) 0 (some ge5)) 1 (some ge5)) 2 (some ge5)) 3 (some ge5))))))), (q14, .inl (cq15, 4, .inl (upd (upd (upd (upd (fun _ => 0) 0 0) 1 0) 2 0) 3 0))), (q18, .inr (3, [.int 0, .ref gde, .int 0])), (q20, .inl (cq21, 1, .inl (fun _ => 0))), (q23, .inr (3, [.int 0, .ref gde, .int 0])), (q25, .inl (cq26, 1, .inl (fun _ => 0))), (q28, .inr (3, [.int 0, .ref gde, .int 0])), (q30, .inl (cq31, 1, .inl (fun _ => 0))), (q33, .inr (3, [.int 0, .ref gde, .int 0])), (q35, .inl (cq36, 1, .inl (fun _ => 0))), (h0, .inr (9, [.int 0, .ref h1, .ref h2, .ref z0, .int 0, .int 0, .int 0])), (h2, .inr (3, [.int 0, .ref gde, .int 0]))] H := hP
  have hD : va_D A [(q2, .inl (cq3, 4, .inl (upd (upd (upd (upd (fun _ => 0) 0 0) 1 0) 2 0) 3 0))), (q6, .inl (cq7, 4, .inl (upd (upd (upd (upd (fun _ => 0) 0 0) 1 0) 2 0) 3 0))), (q10, .inl (cq11, 4, .inl (upd (upd (upd (upd (fun _ => 0) 0 0) 1 0) 2 0) 3 0))), (h1, .inl (k0, 4, .inr (.inr (.inr (.inr (va_up (va_up (va_up (va_up (fun _ => none) 0 (some ge5)) 1 (some ge5)) 2 (some ge5)) 3 (some ge5))))))), (q14, .inl (cq15, 4, .inl (upd (upd (upd (upd (fun _ => 0) 0 0) 1 0) 2 0) 3 0))), (q18, .inr (3, [.int 0, .ref gde, .int 0])), (q20, .inl (cq21, 1, .inl (fun _ => 0))), (q23, .inr (3, [.int 0, .ref gde, .int 0])), (q25, .inl (cq26, 1, .inl (fun _ => 0))), (q28, .inr (3, [.int 0, .ref gde, .int 0])), (q30, .inl (cq31, 1, .inl (fun _ => 0))), (q33, .inr (3, [.int 0, .ref gde, .int 0])), (q35, .inl (cq36, 1, .inl (fun _ => 0))), (h0, .inr (9, [.int 0, .ref h1, .ref h2, .ref z0, .int 0, .int 0, .int 0])), (h2, .inr (3, [.int 0, .ref gde, .int 0]))] := hD
  refine lv_i2l (v := 1) hx hb dX5_digest_138 (by decide) ?_
  refine lv_ladd hx hb dX5_digest_139 ?_
  refine lv_topl (fun y38 ey38 => ?_)
  obtain rfl : y38 = 207471715094785338 := ey38.trans (by decide +kernel)
  refine lv_lstore_n (lv' := [(1, .long 207471715094785338), (3, .int 0), (5, .int 4), (6, .ref ge5), (4, .int 4), (0, .ref h0)]) hx hb dX5_digest_140 rfl hl (by decide) rfl (fun ls hl => ?_)
  refine lv_lload_n hx hb dX5_digest_141 rfl (lv_at hl 0 rfl) ?_
  refine lv_ldc2 (v := 31) hx hb hown (hts (.constantLong RX5 212 31) (by decide +kernel)) dX5_digest_142 ?_
  refine lv_lmul hx hb dX5_digest_145 ?_
  refine lv_topl (fun y39 ey39 => ?_)
  obtain rfl : y39 = 6431623167938345478 := ey39.trans (by decide +kernel)
  refine lv_aload_n hx hb dX5_digest_146 rfl (lv_at hl 5 rfl) ?_
  have hPc := hP.sub (ws' := [(h0, .inr (9, [.int 0, .ref h1, .ref h2, .ref z0, .int 0, .int 0, .int 0])), (h2, .inr (3, [.int 0, .ref gde, .int 0]))]) [13, 14] rfl
  have hDc := hD.sub (ws' := [(h0, .inr (9, [.int 0, .ref h1, .ref h2, .ref z0, .int 0, .int 0, .int 0])), (h2, .inr (3, [.int 0, .ref gde, .int 0]))]) [13, 14] (by decide) rfl
  have hKc := hK.sub (tys' := []) [] rfl
  have hFc := va_free (wc := [(h0, .inr (9, [.int 0, .ref h1, .ref h2, .ref z0, .int 0, .int 0, .int 0])), (h2, .inr (3, [.int 0, .ref gde, .int 0]))]) hD hS hA [13, 14] rfl
  refine va_callr (va_runV (As := []) (rest := [.long 6431623167938345478]) ⟨hx, hb, hml, hown, hts⟩ (kx_X5_allPeaks_0 l dC dI ge5 gea gv5 gva gde gic gi0 h0 h2 h1 z0 H.size) (cwV 0 hts gX5_digest_X5_allPeaks rfl rfl rfl (by decide +kernel) ⟨Nat.le_of_ble_eq_true rfl, Nat.le_of_ble_eq_true rfl⟩) ⟨fun a U g mk q => by obtain ⟨q0, q1, qP, qK, qD, qG⟩ := q; exact ⟨q0, q1, qP, va_K.moved (u := U) (U := U.calling g mk a) (Vm.Alike.refl U.vm) qK, qD, gv.fb qG⟩, va_recv hKc hPc (ci := 9) (q0 := 0) rfl rfl, fun U hU hW => ⟨rfl, by rw [hU], by rw [hU]; exact hPc, va_K.moved hW.alike hKc, hDc.weaken (fun _ _ _ _ => trivial), gv.pass hW hU hS hFc hG⟩⟩ rfl rfl hl.1 rfl (lv_room (Nat.le_of_ble_eq_true rfl)) dX5_digest_147 ⟨Nat.le_of_ble_eq_true rfl, Nat.le_of_ble_eq_true rfl⟩) hS (fun q _ h => hFc q h) hFc (fun u ra t H1 locs ht hvm hw hB hz1 hk1 hS => ?_)
  obtain ⟨q40, hra, hP1, hK1, hD1⟩ := hB
  rw [hra]
  rw [ht] at hP1
  have hK1 := va_K.moved hvm.symm hK1
  obtain ⟨hP, hD⟩ := va_join (wr := [(q2, .inl (cq3, 4, .inl (upd (upd (upd (upd (fun _ => 0) 0 0) 1 0) 2 0) 3 0))), (q6, .inl (cq7, 4, .inl (upd (upd (upd (upd (fun _ => 0) 0 0) 1 0) 2 0) 3 0))), (q10, .inl (cq11, 4, .inl (upd (upd (upd (upd (fun _ => 0) 0 0) 1 0) 2 0) 3 0))), (h1, .inl (k0, 4, .inr (.inr (.inr (.inr (va_up (va_up (va_up (va_up (fun _ => none) 0 (some ge5)) 1 (some ge5)) 2 (some ge5)) 3 (some ge5))))))), (q14, .inl (cq15, 4, .inl (upd (upd (upd (upd (fun _ => 0) 0 0) 1 0) 2 0) 3 0))), (q18, .inr (3, [.int 0, .ref gde, .int 0])), (q20, .inl (cq21, 1, .inl (fun _ => 0))), (q23, .inr (3, [.int 0, .ref gde, .int 0])), (q25, .inl (cq26, 1, .inl (fun _ => 0))), (q28, .inr (3, [.int 0, .ref gde, .int 0])), (q30, .inl (cq31, 1, .inl (fun _ => 0))), (q33, .inr (3, [.int 0, .ref gde, .int 0])), (q35, .inl (cq36, 1, .inl (fun _ => 0)))]) (w1 := [(h0, .inr (9, [.int 0, .ref h1, .ref h2, .ref z0, .int 0, .int 0, .int 0])), (h2, .inr (3, [.int 0, .ref gde, .int 0])), (q40, .inr (3, [.int 0, .ref gde, .int 0]))]) hP hD [13, 14] [0, 1, 2, 3, 4, 5, 6, 7, 8, 9, 10, 11, 12] rfl rfl (by decide) (by decide) hk1 hFc hP1 hD1
  generalize H1 = H at hP hS ⊢
  have hP : va_P (dC, dI) vwCl [(q2, .inl (cq3, 4, .inl (upd (upd (upd (upd (fun _ => 0) 0 0) 1 0) 2 0) 3 0))), (q6, .inl (cq7, 4, .inl (upd (upd (upd (upd (fun _ => 0) 0 0) 1 0) 2 0) 3 0))), (q10, .inl (cq11, 4, .inl (upd (upd (upd (upd (fun _ => 0) 0 0) 1 0) 2 0) 3 0))), (h1, .inl (k0, 4, .inr (.inr (.inr (.inr (va_up (va_up (va_up (va_up (fun _ => none) 0 (some ge5)) 1 (some ge5)) 2 (some ge5)) 3 (some ge5))))))), (q14, .inl (cq15, 4, .inl (upd (upd (upd (upd (fun _ => 0) 0 0) 1 0) 2 0) 3 0))), (q18, .inr (3, [.int 0, .ref gde, .int 0])), (q20, .inl (cq21, 1, .inl (fun _ => 0))), (q23, .inr (3, [.int 0, .ref gde, .int 0])), (q25, .inl (cq26, 1, .inl (fun _ => 0))), (q28, .inr (3, [.int 0, .ref gde, .int 0])), (q30, .inl (cq31, 1, .inl (fun _ => 0))), (q33, .inr (3, [.int 0, .ref gde, .int 0])), (q35, .inl (cq36, 1, .inl (fun _ => 0))), (h0, .inr (9, [.int 0, .ref h1, .ref h2, .ref z0, .int 0, .int 0, .int 0])), (h2, .inr (3, [.int 0, .ref gde, .int 0])), (q40, .inr (3, [.int 0, .ref gde, .int 0]))] H := hP
  have hD : va_D A [(q2, .inl (cq3, 4, .inl (upd (upd (upd (upd (fun _ => 0) 0 0) 1 0) 2 0) 3 0))), (q6, .inl (cq7, 4, .inl (upd (upd (upd (upd (fun _ => 0) 0 0) 1 0) 2 0) 3 0))), (q10, .inl (cq11, 4, .inl (upd (upd (upd (upd (fun _ => 0) 0 0) 1 0) 2 0) 3 0))), (h1, .inl (k0, 4, .inr (.inr (.inr (.inr (va_up (va_up (va_up (va_up (fun _ => none) 0 (some ge5)) 1 (some ge5)) 2 (some ge5)) 3 (some ge5))))))), (q14, .inl (cq15, 4, .inl (upd (upd (upd (upd (fun _ => 0) 0 0) 1 0) 2 0) 3 0))), (q18, .inr (3, [.int 0, .ref gde, .int 0])), (q20, .inl (cq21, 1, .inl (fun _ => 0))), (q23, .inr (3, [.int 0, .ref gde, .int 0])), (q25, .inl (cq26, 1, .inl (fun _ => 0))), (q28, .inr (3, [.int 0, .ref gde, .int 0])), (q30, .inl (cq31, 1, .inl (fun _ => 0))), (q33, .inr (3, [.int 0, .ref gde, .int 0])), (q35, .inl (cq36, 1, .inl (fun _ => 0))), (h0, .inr (9, [.int 0, .ref h1, .ref h2, .ref z0, .int 0, .int 0, .int 0])), (h2, .inr (3, [.int 0, .ref gde, .int 0])), (q40, .inr (3, [.int 0, .ref gde, .int 0]))] := hD
  refine W.widen (k := 13) (n := 35) (by omega) (by omega) ?_
  have hPc := hP.sub (ws' := [(q40, .inr (3, [.int 0, .ref gde, .int 0]))]) [15] rfl
  have hDc := hD.sub (ws' := [(q40, .inr (3, [.int 0, .ref gde, .int 0]))]) [15] (by decide) rfl
  have hKc := hK.sub (tys' := []) [] rfl
  have hFc := va_free (wc := [(q40, .inr (3, [.int 0, .ref gde, .int 0]))]) hD hS hA [15] rfl
  refine va_calli (va_runV (As := []) (rest := [.long 6431623167938345478]) ⟨hx, hb, hml, hown, hts⟩ (kx_Jx4a65c_size_8abf5_1 l dC dI ge5 gea gv5 gva gde gic gi0 q40 H.size) (cwV 0 hts gX5_digest_Jx4a65c_size_8abf5 rfl rfl rfl (by decide +kernel) ⟨Nat.le_of_ble_eq_true rfl, Nat.le_of_ble_eq_true rfl⟩) ⟨fun a U g mk q => by obtain ⟨q0, q1, qP, qK, qD, qG⟩ := q; exact ⟨q0, q1, qP, va_K.moved (u := U) (U := U.calling g mk a) (Vm.Alike.refl U.vm) qK, qD, gv.fb qG⟩, va_recv hKc hPc (ci := 3) (q0 := 0) rfl rfl, fun U hU hW => ⟨rfl, by rw [hU], by rw [hU]; exact hPc, va_K.moved hW.alike hKc, hDc.weaken (fun _ _ _ _ => trivial), gv.pass hW hU hS hFc hG⟩⟩ rfl rfl hl.1 rfl (lv_room (Nat.le_of_ble_eq_true rfl)) dX5_digest_150 ⟨Nat.le_of_ble_eq_true rfl, Nat.le_of_ble_eq_true rfl⟩) hS (fun q _ h => hFc q h) hFc (fun r9 u t H1 locs ht hvm hw hB hz1 hk1 hS => ?_)
  obtain rfl := hw
  obtain ⟨hP1, hK1, hD1⟩ := hB
  rw [ht] at hP1
  have hK1 := va_K.moved hvm.symm hK1
  obtain ⟨hP, hD⟩ := va_join (wr := [(q2, .inl (cq3, 4, .inl (upd (upd (upd (upd (fun _ => 0) 0 0) 1 0) 2 0) 3 0))), (q6, .inl (cq7, 4, .inl (upd (upd (upd (upd (fun _ => 0) 0 0) 1 0) 2 0) 3 0))), (q10, .inl (cq11, 4, .inl (upd (upd (upd (upd (fun _ => 0) 0 0) 1 0) 2 0) 3 0))), (h1, .inl (k0, 4, .inr (.inr (.inr (.inr (va_up (va_up (va_up (va_up (fun _ => none) 0 (some ge5)) 1 (some ge5)) 2 (some ge5)) 3 (some ge5))))))), (q14, .inl (cq15, 4, .inl (upd (upd (upd (upd (fun _ => 0) 0 0) 1 0) 2 0) 3 0))), (q18, .inr (3, [.int 0, .ref gde, .int 0])), (q20, .inl (cq21, 1, .inl (fun _ => 0))), (q23, .inr (3, [.int 0, .ref gde, .int 0])), (q25, .inl (cq26, 1, .inl (fun _ => 0))), (q28, .inr (3, [.int 0, .ref gde, .int 0])), (q30, .inl (cq31, 1, .inl (fun _ => 0))), (q33, .inr (3, [.int 0, .ref gde, .int 0])), (q35, .inl (cq36, 1, .inl (fun _ => 0))), (h0, .inr (9, [.int 0, .ref h1, .ref h2, .ref z0, .int 0, .int 0, .int 0])), (h2, .inr (3, [.int 0, .ref gde, .int 0]))]) (w1 := [(q40, .inr (3, [.int 0, .ref gde, .int 0]))]) hP hD [15] [0, 1, 2, 3, 4, 5, 6, 7, 8, 9, 10, 11, 12, 13, 14] rfl rfl (by decide) (by decide) hk1 hFc hP1 hD1
  generalize H1 = H at hP hS ⊢
  have hP : va_P (dC, dI) vwCl [(q2, .inl (cq3, 4, .inl (upd (upd (upd (upd (fun _ => 0) 0 0) 1 0) 2 0) 3 0))), (q6, .inl (cq7, 4, .inl (upd (upd (upd (upd (fun _ => 0) 0 0) 1 0) 2 0) 3 0))), (q10, .inl (cq11, 4, .inl (upd (upd (upd (upd (fun _ => 0) 0 0) 1 0) 2 0) 3 0))), (h1, .inl (k0, 4, .inr (.inr (.inr (.inr (va_up (va_up (va_up (va_up (fun _ => none) 0 (some ge5)) 1 (some ge5)) 2 (some ge5)) 3 (some ge5))))))), (q14, .inl (cq15, 4, .inl (upd (upd (upd (upd (fun _ => 0) 0 0) 1 0) 2 0) 3 0))), (q18, .inr (3, [.int 0, .ref gde, .int 0])), (q20, .inl (cq21, 1, .inl (fun _ => 0))), (q23, .inr (3, [.int 0, .ref gde, .int 0])), (q25, .inl (cq26, 1, .inl (fun _ => 0))), (q28, .inr (3, [.int 0, .ref gde, .int 0])), (q30, .inl (cq31, 1, .inl (fun _ => 0))), (q33, .inr (3, [.int 0, .ref gde, .int 0])), (q35, .inl (cq36, 1, .inl (fun _ => 0))), (h0, .inr (9, [.int 0, .ref h1, .ref h2, .ref z0, .int 0, .int 0, .int 0])), (h2, .inr (3, [.int 0, .ref gde, .int 0])), (q40, .inr (3, [.int 0, .ref gde, .int 0]))] H := hP
  have hD : va_D A [(q2, .inl (cq3, 4, .inl (upd (upd (upd (upd (fun _ => 0) 0 0) 1 0) 2 0) 3 0))), (q6, .inl (cq7, 4, .inl (upd (upd (upd (upd (fun _ => 0) 0 0) 1 0) 2 0) 3 0))), (q10, .inl (cq11, 4, .inl (upd (upd (upd (upd (fun _ => 0) 0 0) 1 0) 2 0) 3 0))), (h1, .inl (k0, 4, .inr (.inr (.inr (.inr (va_up (va_up (va_up (va_up (fun _ => none) 0 (some ge5)) 1 (some ge5)) 2 (some ge5)) 3 (some ge5))))))), (q14, .inl (cq15, 4, .inl (upd (upd (upd (upd (fun _ => 0) 0 0) 1 0) 2 0) 3 0))), (q18, .inr (3, [.int 0, .ref gde, .int 0])), (q20, .inl (cq21, 1, .inl (fun _ => 0))), (q23, .inr (3, [.int 0, .ref gde, .int 0])), (q25, .inl (cq26, 1, .inl (fun _ => 0))), (q28, .inr (3, [.int 0, .ref gde, .int 0])), (q30, .inl (cq31, 1, .inl (fun _ => 0))), (q33, .inr (3, [.int 0, .ref gde, .int 0])), (q35, .inl (cq36, 1, .inl (fun _ => 0))), (h0, .inr (9, [.int 0, .ref h1, .ref h2, .ref z0, .int 0, .int 0, .int 0])), (h2, .inr (3, [.int 0, .ref gde, .int 0])), (q40, .inr (3, [.int 0, .ref gde, .int 0]))] := hD
  refine lv_i2l (v := 0) hx hb dX5_digest_153 (by decide) ?_
  refine lv_ladd hx hb dX5_digest_154 ?_
  refine lv_topl (fun y41 ey41 => ?_)
  obtain rfl : y41 = 6431623167938345478 := ey41.trans (by decide +kernel)
  refine lv_lstore_n (lv' := [(1, .long 6431623167938345478), (3, .int 0), (5, .int 4), (6, .ref ge5), (4, .int 4), (0, .ref h0)]) hx hb dX5_digest_155 rfl hl (by decide) rfl (fun ls hl => ?_)
  refine lv_lload_n hx hb dX5_digest_156 rfl (lv_at hl 0 rfl) ?_
  refine lv_ldc2 (v := 31) hx hb hown (hts (.constantLong RX5 212 31) (by decide +kernel)) dX5_digest_157 ?_
  refine lv_lmul hx hb dX5_digest_160 ?_
  refine lv_topl (fun y42 ey42 => ?_)
  obtain rfl : y42 = (-3533866604716357958) := ey42.trans (by decide +kernel)
  refine lv_aload_n hx hb dX5_digest_161 rfl (lv_at hl 5 rfl) ?_
  have hPc := hP.sub (ws' := [(h0, .inr (9, [.int 0, .ref h1, .ref h2, .ref z0, .int 0, .int 0, .int 0])), (h2, .inr (3, [.int 0, .ref gde, .int 0]))]) [13, 14] rfl
  have hDc := hD.sub (ws' := [(h0, .inr (9, [.int 0, .ref h1, .ref h2, .ref z0, .int 0, .int 0, .int 0])), (h2, .inr (3, [.int 0, .ref gde, .int 0]))]) [13, 14] (by decide) rfl
  have hKc := hK.sub (tys' := []) [] rfl
  have hFc := va_free (wc := [(h0, .inr (9, [.int 0, .ref h1, .ref h2, .ref z0, .int 0, .int 0, .int 0])), (h2, .inr (3, [.int 0, .ref gde, .int 0]))]) hD hS hA [13, 14] rfl
  refine va_calli (va_runV (As := []) (rest := [.long (-3533866604716357958)]) ⟨hx, hb, hml, hown, hts⟩ (kx_X5_unmetNow_0 l dC dI ge5 gea gv5 gva gde gic gi0 h0 h2 h1 z0 H.size) (cwV 0 hts gX5_digest_X5_unmetNow rfl rfl rfl (by decide +kernel) ⟨Nat.le_of_ble_eq_true rfl, Nat.le_of_ble_eq_true rfl⟩) ⟨fun a U g mk q => by obtain ⟨q0, q1, qP, qK, qD, qG⟩ := q; exact ⟨q0, q1, qP, va_K.moved (u := U) (U := U.calling g mk a) (Vm.Alike.refl U.vm) qK, qD, gv.fb qG⟩, va_recv hKc hPc (ci := 9) (q0 := 0) rfl rfl, fun U hU hW => ⟨rfl, by rw [hU], by rw [hU]; exact hPc, va_K.moved hW.alike hKc, hDc.weaken (fun _ _ _ _ => trivial), gv.pass hW hU hS hFc hG⟩⟩ rfl rfl hl.1 rfl (lv_room (Nat.le_of_ble_eq_true rfl)) dX5_digest_162 ⟨Nat.le_of_ble_eq_true rfl, Nat.le_of_ble_eq_true rfl⟩) hS (fun q _ h => hFc q h) hFc (fun r9 u t H1 locs ht hvm hw hB hz1 hk1 hS => ?_)
  obtain rfl := hw
  obtain ⟨q43, hP1, hK1, hD1⟩ := hB
  rw [ht] at hP1
  have hK1 := va_K.moved hvm.symm hK1
  obtain ⟨hP, hD⟩ := va_join (wr := [(q2, .inl (cq3, 4, .inl (upd (upd (upd (upd (fun _ => 0) 0 0) 1 0) 2 0) 3 0))), (q6, .inl (cq7, 4, .inl (upd (upd (upd (upd (fun _ => 0) 0 0) 1 0) 2 0) 3 0))), (q10, .inl (cq11, 4, .inl (upd (upd (upd (upd (fun _ => 0) 0 0) 1 0) 2 0) 3 0))), (h1, .inl (k0, 4, .inr (.inr (.inr (.inr (va_up (va_up (va_up (va_up (fun _ => none) 0 (some ge5)) 1 (some ge5)) 2 (some ge5)) 3 (some ge5))))))), (q14, .inl (cq15, 4, .inl (upd (upd (upd (upd (fun _ => 0) 0 0) 1 0) 2 0) 3 0))), (q18, .inr (3, [.int 0, .ref gde, .int 0])), (q20, .inl (cq21, 1, .inl (fun _ => 0))), (q23, .inr (3, [.int 0, .ref gde, .int 0])), (q25, .inl (cq26, 1, .inl (fun _ => 0))), (q28, .inr (3, [.int 0, .ref gde, .int 0])), (q30, .inl (cq31, 1, .inl (fun _ => 0))), (q33, .inr (3, [.int 0, .ref gde, .int 0])), (q35, .inl (cq36, 1, .inl (fun _ => 0))), (q40, .inr (3, [.int 0, .ref gde, .int 0]))]) (w1 := [(h0, .inr (9, [.int 0, .ref h1, .ref h2, .ref z0, .int 0, .int 0, .int 0])), (h2, .inr (3, [.int 0, .ref gde, .int 0])), (q43, .inr (3, [.int 0, .ref gde, .int 0]))]) hP hD [13, 14] [0, 1, 2, 3, 4, 5, 6, 7, 8, 9, 10, 11, 12, 15] rfl rfl (by decide) (by decide) hk1 hFc hP1 hD1
  generalize H1 = H at hP hS ⊢
  have hP : va_P (dC, dI) vwCl [(q2, .inl (cq3, 4, .inl (upd (upd (upd (upd (fun _ => 0) 0 0) 1 0) 2 0) 3 0))), (q6, .inl (cq7, 4, .inl (upd (upd (upd (upd (fun _ => 0) 0 0) 1 0) 2 0) 3 0))), (q10, .inl (cq11, 4, .inl (upd (upd (upd (upd (fun _ => 0) 0 0) 1 0) 2 0) 3 0))), (h1, .inl (k0, 4, .inr (.inr (.inr (.inr (va_up (va_up (va_up (va_up (fun _ => none) 0 (some ge5)) 1 (some ge5)) 2 (some ge5)) 3 (some ge5))))))), (q14, .inl (cq15, 4, .inl (upd (upd (upd (upd (fun _ => 0) 0 0) 1 0) 2 0) 3 0))), (q18, .inr (3, [.int 0, .ref gde, .int 0])), (q20, .inl (cq21, 1, .inl (fun _ => 0))), (q23, .inr (3, [.int 0, .ref gde, .int 0])), (q25, .inl (cq26, 1, .inl (fun _ => 0))), (q28, .inr (3, [.int 0, .ref gde, .int 0])), (q30, .inl (cq31, 1, .inl (fun _ => 0))), (q33, .inr (3, [.int 0, .ref gde, .int 0])), (q35, .inl (cq36, 1, .inl (fun _ => 0))), (q40, .inr (3, [.int 0, .ref gde, .int 0])), (h0, .inr (9, [.int 0, .ref h1, .ref h2, .ref z0, .int 0, .int 0, .int 0])), (h2, .inr (3, [.int 0, .ref gde, .int 0])), (q43, .inr (3, [.int 0, .ref gde, .int 0]))] H := hP
  have hD : va_D A [(q2, .inl (cq3, 4, .inl (upd (upd (upd (upd (fun _ => 0) 0 0) 1 0) 2 0) 3 0))), (q6, .inl (cq7, 4, .inl (upd (upd (upd (upd (fun _ => 0) 0 0) 1 0) 2 0) 3 0))), (q10, .inl (cq11, 4, .inl (upd (upd (upd (upd (fun _ => 0) 0 0) 1 0) 2 0) 3 0))), (h1, .inl (k0, 4, .inr (.inr (.inr (.inr (va_up (va_up (va_up (va_up (fun _ => none) 0 (some ge5)) 1 (some ge5)) 2 (some ge5)) 3 (some ge5))))))), (q14, .inl (cq15, 4, .inl (upd (upd (upd (upd (fun _ => 0) 0 0) 1 0) 2 0) 3 0))), (q18, .inr (3, [.int 0, .ref gde, .int 0])), (q20, .inl (cq21, 1, .inl (fun _ => 0))), (q23, .inr (3, [.int 0, .ref gde, .int 0])), (q25, .inl (cq26, 1, .inl (fun _ => 0))), (q28, .inr (3, [.int 0, .ref gde, .int 0])), (q30, .inl (cq31, 1, .inl (fun _ => 0))), (q33, .inr (3, [.int 0, .ref gde, .int 0])), (q35, .inl (cq36, 1, .inl (fun _ => 0))), (q40, .inr (3, [.int 0, .ref gde, .int 0])), (h0, .inr (9, [.int 0, .ref h1, .ref h2, .ref z0, .int 0, .int 0, .int 0])), (h2, .inr (3, [.int 0, .ref gde, .int 0])), (q43, .inr (3, [.int 0, .ref gde, .int 0]))] := hD
  refine W.widen (k := 14) (n := 38) (by omega) (by omega) ?_
  refine lv_i2l (v := (-1)) hx hb dX5_digest_165 (by decide) ?_
  refine lv_ladd hx hb dX5_digest_166 ?_
  refine lv_topl (fun y44 ey44 => ?_)
  obtain rfl : y44 = (-3533866604716357959) := ey44.trans (by decide +kernel)
  refine lv_lstore_n (lv' := [(1, .long (-3533866604716357959)), (3, .int 0), (5, .int 4), (6, .ref ge5), (4, .int 4), (0, .ref h0)]) hx hb dX5_digest_167 rfl hl (by decide) rfl (fun ls hl => ?_)
  refine lv_lload_n hx hb dX5_digest_168 rfl (lv_at hl 0 rfl) ?_
  refine lv_ldc2 (v := 31) hx hb hown (hts (.constantLong RX5 212 31) (by decide +kernel)) dX5_digest_169 ?_
  refine lv_lmul hx hb dX5_digest_172 ?_
  refine lv_topl (fun y45 ey45 => ?_)
  obtain rfl : y45 = 1130599696050212967 := ey45.trans (by decide +kernel)
  refine lv_lconst (v := 1) hx hb dX5_digest_173 (by decide) ?_
  refine lv_ladd hx hb dX5_digest_174 ?_
  refine lv_topl (fun y46 ey46 => ?_)
  obtain rfl : y46 = 1130599696050212968 := ey46.trans (by decide +kernel)
  have hP := hP.sub (ws' := [(h0, .inr (9, [.int 0, .ref h1, .ref h2, .ref z0, .int 0, .int 0, .int 0])), (h1, .inl (k0, 4, .inr (.inr (.inr (.inr (va_up (va_up (va_up (va_up (fun _ => none) 0 (some ge5)) 1 (some ge5)) 2 (some ge5)) 3 (some ge5))))))), (h2, .inr (3, [.int 0, .ref gde, .int 0])), (q2, .inl (cq3, 4, .inl (upd (upd (upd (upd (fun _ => 0) 0 0) 1 0) 2 0) 3 0))), (q6, .inl (cq7, 4, .inl (upd (upd (upd (upd (fun _ => 0) 0 0) 1 0) 2 0) 3 0))), (q10, .inl (cq11, 4, .inl (upd (upd (upd (upd (fun _ => 0) 0 0) 1 0) 2 0) 3 0))), (q14, .inl (cq15, 4, .inl (upd (upd (upd (upd (fun _ => 0) 0 0) 1 0) 2 0) 3 0))), (q18, .inr (3, [.int 0, .ref gde, .int 0])), (q20, .inl (cq21, 1, .inl (fun _ => 0))), (q23, .inr (3, [.int 0, .ref gde, .int 0])), (q25, .inl (cq26, 1, .inl (fun _ => 0))), (q28, .inr (3, [.int 0, .ref gde, .int 0])), (q30, .inl (cq31, 1, .inl (fun _ => 0))), (q33, .inr (3, [.int 0, .ref gde, .int 0])), (q35, .inl (cq36, 1, .inl (fun _ => 0))), (q40, .inr (3, [.int 0, .ref gde, .int 0])), (q43, .inr (3, [.int 0, .ref gde, .int 0]))]) [14, 3, 15, 0, 1, 2, 4, 5, 6, 7, 8, 9, 10, 11, 12, 13, 16] rfl
  have hD := hD.sub (ws' := [(h0, .inr (9, [.int 0, .ref h1, .ref h2, .ref z0, .int 0, .int 0, .int 0])), (h1, .inl (k0, 4, .inr (.inr (.inr (.inr (va_up (va_up (va_up (va_up (fun _ => none) 0 (some ge5)) 1 (some ge5)) 2 (some ge5)) 3 (some ge5))))))), (h2, .inr (3, [.int 0, .ref gde, .int 0])), (q2, .inl (cq3, 4, .inl (upd (upd (upd (upd (fun _ => 0) 0 0) 1 0) 2 0) 3 0))), (q6, .inl (cq7, 4, .inl (upd (upd (upd (upd (fun _ => 0) 0 0) 1 0) 2 0) 3 0))), (q10, .inl (cq11, 4, .inl (upd (upd (upd (upd (fun _ => 0) 0 0) 1 0) 2 0) 3 0))), (q14, .inl (cq15, 4, .inl (upd (upd (upd (upd (fun _ => 0) 0 0) 1 0) 2 0) 3 0))), (q18, .inr (3, [.int 0, .ref gde, .int 0])), (q20, .inl (cq21, 1, .inl (fun _ => 0))), (q23, .inr (3, [.int 0, .ref gde, .int 0])), (q25, .inl (cq26, 1, .inl (fun _ => 0))), (q28, .inr (3, [.int 0, .ref gde, .int 0])), (q30, .inl (cq31, 1, .inl (fun _ => 0))), (q33, .inr (3, [.int 0, .ref gde, .int 0])), (q35, .inl (cq36, 1, .inl (fun _ => 0))), (q40, .inr (3, [.int 0, .ref gde, .int 0])), (q43, .inr (3, [.int 0, .ref gde, .int 0]))]) [14, 3, 15, 0, 1, 2, 4, 5, 6, 7, 8, 9, 10, 11, 12, 13, 16] (by decide) rfl
  have hP := hP.sub (ws' := [(h0, .inr (9, [.int 0, .ref h1, .ref h2, .ref z0, .int 0, .int 0, .int 0]))]) [0] rfl
  have hD := hD.sub (ws' := [(h0, .inr (9, [.int 0, .ref h1, .ref h2, .ref z0, .int 0, .int 0, .int 0]))]) [0] (by decide) rfl
  exact W.lret (v := 1130599696050212968) hx hb hr (fun t ht hW => ⟨⟨1130599696050212968, (), rfl, rfl, q2, q6, q10, q14, q18, q20, q23, q25, q28, q30, q33, q35, q40, q43, cq3, cq7, cq11, cq15, cq21, cq26, cq31, cq36, by rw [ht]; exact hP, va_K.moved hW.alike hK, hD⟩, hS.F ht⟩) hS.2.2 dX5_digest_175
