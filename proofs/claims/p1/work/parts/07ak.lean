set_option maxHeartbeats 8000000 in
set_option maxRecDepth 100000 in
theorem kx_X5_type_h110 {l : Launch} {dC : Nat → ClassId} {dI : Nat → Nat → Nat} {ge5 gea gv5 gva gde gic gi0 : Nat} {h0 h1 h2 h3 h4 z0 z1 : Nat} {k0 k1 k2 : ClassId} {rp l1 l2 l3 l4 l5 R v : Int32} {p : Program} {e : Env} {s : State} {m : MethodId} {args : Array Value} {below : List Frame} {meth : Method} {c : Code} {A : Nat → Prop} {H : Heap} {locs : List Loc} {ls : Array Slot} {f0 : Nat → Int32} (f0_t : sb_Fit f0) (hR : kz_ty rp 1 0 [l2, l3, l4, l5] = (R, v)) (hx : p.tables.exec = Jvm.exec) (hb : c.code = cX5_type) (hr : meth.sig.returnType = some .int) (hml : c.maxLocals = 14) (hown : s.vm.findClass RX5 = some m.cls) (hts : ∀ w ∈ wsX5_type, w.before args s = true) (hlocks : meth.locks = false) (hA : ∀ q : Nat, s.heap.size ≤ q → A q) (hG : gv ge5 gea gv5 gva gde gic gi0 A s s.heap) (hS : va_S A s.heap H locs) (hK : va_K (dC, dI) vwCl [(k0, .object "java/lang/String"), (k1, .int), (k2, .byte)] s) (hP : va_P (dC, dI) vwCl [(h0, .inr (9, [.int 0, .ref h1, .ref z0, .ref z1, .int 0, .int 0, .int 0])), (h1, .inl (k0, 4, .inr (.inr (.inr (.inr (va_up (va_up (va_up (va_up (fun _ => none) 0 (some ge5)) 1 (some ge5)) 2 (some ge5)) 3 (some ge5))))))), (h2, .inl (k1, 5, .inl (upd (upd (upd (upd (upd (fun _ => 0) 0 l1) 1 l2) 2 l3) 3 l4) 4 l5))), (h3, .inr (0, [.ref h4, .int 0, .int 0, .int 0])), (h4, .inl (k2, 1, .inl f0))] H) (hD : va_D A [(h0, .inr (9, [.int 0, .ref h1, .ref z0, .ref z1, .int 0, .int 0, .int 0])), (h1, .inl (k0, 4, .inr (.inr (.inr (.inr (va_up (va_up (va_up (va_up (fun _ => none) 0 (some ge5)) 1 (some ge5)) 2 (some ge5)) 3 (some ge5))))))), (h2, .inl (k1, 5, .inl (upd (upd (upd (upd (upd (fun _ => 0) 0 l1) 1 l2) 2 l3) 3 l4) 4 l5))), (h3, .inr (0, [.ref h4, .int 0, .int 0, .int 0])), (h4, .inl (k2, 1, .inl f0))]) (hl : lv_has ls 14 [(0, .ref h0), (1, .int rp), (7, .ref h2), (8, .int 0), (9, .ref h3), (10, .ref h2), (11, .int 5), (12, .int 1)]) : W p l e (headSpec wsX5_type ({ frames := 6, cells := 25, slots := 169, locals := 171 })).room s m args below meth c H locs 5 30 (MQ below (va_Qi (fun (r : Int32) (_ : Unit) => r = R) (fun (_ : Unit) (t : State) => va_P (dC, dI) vwCl [(h0, .inr (9, [.int v, .ref h1, .ref z0, .ref z1, .int 0, .int 0, .int 0]))] t.heap ∧ va_K (dC, dI) vwCl [(k0, .object "java/lang/String")] t ∧ va_D A [(h0, .inr (9, [.int v, .ref h1, .ref z0, .ref z1, .int 0, .int 0, .int 0]))]) A) args s 25 169 A) (F0 m 47 ls []) := by
  obtain ⟨⟨g_AO_Text, g_AO_String, g_AO_Object, g_nm_RX1_20, g_nm_RX0_17, g_nm_RX3_31, g_nm_RX2_44, g_nm_RL_121, g_nf_RL_13, g_nf_RL_47, g_ca_IO, g_ca_IA, g_ca_IS, g_ca_IntObj, g_ca_StrObj, g_de_RT, g_de_EX, g_de_TH, g_nc_IA_IO, g_nc_IS_IO, g_nc_IS_IA⟩, ⟨g_s3, g_s5, g_sa, g_x278, g_x280, g_x282, g_x284, g_x286, g_x180, g_x238, g_x250⟩, ⟨g_o5, g_c5, g_v5, g_t5, g_oa, g_ca, g_va, g_ta, g_zc, g_zd, g_td, g_zf, g_zU, g_zN, g_zh, g_zk, g_tk, g_oi, g_vi⟩⟩ := id hG
  have a9 := Int32.le_toInt l2
  have b9 := Int32.toInt_lt l2
  rcases kz_cls l2 with r9 | rfl | rfl | rfl | rfl | rfl | r9
  · have l2_l : ((-2147483648) : Int) ≤ l2.toInt := by omega
    have l2_u : l2.toInt ≤ ((-2) : Int) := by omega
    have hR : kz_ty rp 1 1 [l3, l4, l5] = (R, v) := (kz_ty_b (by omega)).symm.trans hR
    refine lv_iload hx hb dX5_type_47 (lv_at hl 7 rfl) ?_
    refine lv_iload hx hb dX5_type_49 (lv_at hl 6 rfl) ?_
    refine lv_icmp_ge (tgt := 124) hx hb dX5_type_51 (by decide) (fun c9 => absurd c9 (by decide)) (fun _ => ?_)
    refine lv_aload hx hb dX5_type_54 (lv_at hl 5 rfl) ?_
    refine lv_iload hx hb dX5_type_56 (lv_at hl 7 rfl) ?_
    refine va_iald (D := (dC, dI)) hx hb hK hP 2 1 rfl rfl (by unfold vp_in; decide) dX5_type_58 ?_
    refine W.eq (g2 := F0 m 59 ls [.int l2]) rfl ?_
    refine lv_istore (lv' := [(13, .int l2), (0, .ref h0), (1, .int rp), (7, .ref h2), (8, .int 0), (9, .ref h3), (10, .ref h2), (11, .int 5), (12, .int 1)]) hx hb dX5_type_59 hl (by decide) rfl (fun ls hl => ?_)
    refine lv_iload hx hb dX5_type_61 (lv_at hl 4 rfl) ?_
    refine lv_iload hx hb dX5_type_63 (lv_at hl 0 rfl) ?_
    refine lv_iconst (v := (-1)) hx hb dX5_type_65 (by decide) ?_
    refine lv_iconst (v := 3) hx hb dX5_type_66 (by decide) ?_
    have hPc := hP.sub (ws' := []) [] rfl
    have hDc := hD.sub (ws' := []) [] (by decide) rfl
    have hKc := hK.sub (tys' := []) [] rfl
    have hFc := va_free (wc := []) hD hS hA [] rfl
    refine va_calli (va_runS (As := [.int l2, .int (-1), .int 3]) (rest := [.int 0]) ⟨hx, hb, hml, hown, hts⟩ (kx_X5_isIn_3 l dC dI H.size l2 l2_l l2_u) (cwS 3 hts gX5_type_X5_isIn rfl rfl rfl (by decide +kernel) ⟨Nat.le_of_ble_eq_true rfl, Nat.le_of_ble_eq_true rfl⟩) ⟨fun a U g mk q => by obtain ⟨q0, q1, qP, qK, qD⟩ := q; exact ⟨q0, q1, qP, va_K.moved (u := U) (U := U.calling g mk a) (Vm.Alike.refl U.vm) qK, qD⟩, fun U hU hW => ⟨rfl, by rw [hU], by rw [hU]; exact hPc, va_K.moved hW.alike hKc, hDc.weaken (fun _ _ _ _ => trivial)⟩⟩ rfl rfl hl.1 rfl (lv_room (Nat.le_of_ble_eq_true rfl)) dX5_type_67 ⟨Nat.le_of_ble_eq_true rfl, Nat.le_of_ble_eq_true rfl⟩) hS (fun q _ h => hFc q h) hFc (fun r9 u t H1 locs ht hvm hw hB hz1 hk1 hS => ?_)
    obtain rfl := hw
    obtain ⟨hP1, hK1, hD1⟩ := hB
    rw [ht] at hP1
    have hK1 := va_K.moved hvm.symm hK1
    obtain ⟨hP, hD⟩ := va_join (wr := [(h0, .inr (9, [.int 0, .ref h1, .ref z0, .ref z1, .int 0, .int 0, .int 0])), (h1, .inl (k0, 4, .inr (.inr (.inr (.inr (va_up (va_up (va_up (va_up (fun _ => none) 0 (some ge5)) 1 (some ge5)) 2 (some ge5)) 3 (some ge5))))))), (h2, .inl (k1, 5, .inl (upd (upd (upd (upd (upd (fun _ => 0) 0 l1) 1 l2) 2 l3) 3 l4) 4 l5))), (h3, .inr (0, [.ref h4, .int 0, .int 0, .int 0])), (h4, .inl (k2, 1, .inl f0))]) (w1 := []) hP hD [] [0, 1, 2, 3, 4] rfl rfl (by decide) (by decide) hk1 hFc hP1 hD1
    generalize H1 = H at hP hS ⊢
    have hP : va_P (dC, dI) vwCl [(h0, .inr (9, [.int 0, .ref h1, .ref z0, .ref z1, .int 0, .int 0, .int 0])), (h1, .inl (k0, 4, .inr (.inr (.inr (.inr (va_up (va_up (va_up (va_up (fun _ => none) 0 (some ge5)) 1 (some ge5)) 2 (some ge5)) 3 (some ge5))))))), (h2, .inl (k1, 5, .inl (upd (upd (upd (upd (upd (fun _ => 0) 0 l1) 1 l2) 2 l3) 3 l4) 4 l5))), (h3, .inr (0, [.ref h4, .int 0, .int 0, .int 0])), (h4, .inl (k2, 1, .inl f0))] H := hP
    have hD : va_D A [(h0, .inr (9, [.int 0, .ref h1, .ref z0, .ref z1, .int 0, .int 0, .int 0])), (h1, .inl (k0, 4, .inr (.inr (.inr (.inr (va_up (va_up (va_up (va_up (fun _ => none) 0 (some ge5)) 1 (some ge5)) 2 (some ge5)) 3 (some ge5))))))), (h2, .inl (k1, 5, .inl (upd (upd (upd (upd (upd (fun _ => 0) 0 l1) 1 l2) 2 l3) 3 l4) 4 l5))), (h3, .inr (0, [.ref h4, .int 0, .int 0, .int 0])), (h4, .inl (k2, 1, .inl f0))] := hD
    refine lv_if_ne (tgt := 77) hx hb dX5_type_70 (by decide) (fun c9 => absurd (by decide) c9) (fun _ => ?_)
    refine lv_iconst (v := 1) hx hb dX5_type_73 (by decide) ?_
    refine lv_goto (tgt := 78) hx hb dX5_type_74 (by decide) ?_
    refine lv_ior hx hb dX5_type_78 ?_
    refine lv_topi (fun y101 ey101 => ?_)
    obtain rfl : y101 = 1 := ey101.trans (by decide)
    refine lv_istore (lv' := [(8, .int 1), (13, .int l2), (0, .ref h0), (1, .int rp), (7, .ref h2), (9, .ref h3), (10, .ref h2), (11, .int 5), (12, .int 1)]) hx hb dX5_type_79 hl (by decide) rfl (fun ls hl => ?_)
    refine lv_iload hx hb dX5_type_81 (lv_at hl 1 rfl) ?_
    refine lv_iconst (v := 0) hx hb dX5_type_83 (by decide) ?_
    refine lv_iconst (v := 3) hx hb dX5_type_84 (by decide) ?_
    have hPc := hP.sub (ws' := []) [] rfl
    have hDc := hD.sub (ws' := []) [] (by decide) rfl
    have hKc := hK.sub (tys' := []) [] rfl
    have hFc := va_free (wc := []) hD hS hA [] rfl
    refine va_calli (va_runS (As := [.int l2, .int 0, .int 3]) (rest := []) ⟨hx, hb, hml, hown, hts⟩ (kx_X5_isIn_4 l dC dI H.size l2 l2_l l2_u) (cwS 3 hts gX5_type_X5_isIn rfl rfl rfl (by decide +kernel) ⟨Nat.le_of_ble_eq_true rfl, Nat.le_of_ble_eq_true rfl⟩) ⟨fun a U g mk q => by obtain ⟨q0, q1, qP, qK, qD⟩ := q; exact ⟨q0, q1, qP, va_K.moved (u := U) (U := U.calling g mk a) (Vm.Alike.refl U.vm) qK, qD⟩, fun U hU hW => ⟨rfl, by rw [hU], by rw [hU]; exact hPc, va_K.moved hW.alike hKc, hDc.weaken (fun _ _ _ _ => trivial)⟩⟩ rfl rfl hl.1 rfl (lv_room (Nat.le_of_ble_eq_true rfl)) dX5_type_85 ⟨Nat.le_of_ble_eq_true rfl, Nat.le_of_ble_eq_true rfl⟩) hS (fun q _ h => hFc q h) hFc (fun r9 u t H1 locs ht hvm hw hB hz1 hk1 hS => ?_)
    obtain rfl := hw
    obtain ⟨hP1, hK1, hD1⟩ := hB
    rw [ht] at hP1
    have hK1 := va_K.moved hvm.symm hK1
    obtain ⟨hP, hD⟩ := va_join (wr := [(h0, .inr (9, [.int 0, .ref h1, .ref z0, .ref z1, .int 0, .int 0, .int 0])), (h1, .inl (k0, 4, .inr (.inr (.inr (.inr (va_up (va_up (va_up (va_up (fun _ => none) 0 (some ge5)) 1 (some ge5)) 2 (some ge5)) 3 (some ge5))))))), (h2, .inl (k1, 5, .inl (upd (upd (upd (upd (upd (fun _ => 0) 0 l1) 1 l2) 2 l3) 3 l4) 4 l5))), (h3, .inr (0, [.ref h4, .int 0, .int 0, .int 0])), (h4, .inl (k2, 1, .inl f0))]) (w1 := []) hP hD [] [0, 1, 2, 3, 4] rfl rfl (by decide) (by decide) hk1 hFc hP1 hD1
    generalize H1 = H at hP hS ⊢
    have hP : va_P (dC, dI) vwCl [(h0, .inr (9, [.int 0, .ref h1, .ref z0, .ref z1, .int 0, .int 0, .int 0])), (h1, .inl (k0, 4, .inr (.inr (.inr (.inr (va_up (va_up (va_up (va_up (fun _ => none) 0 (some ge5)) 1 (some ge5)) 2 (some ge5)) 3 (some ge5))))))), (h2, .inl (k1, 5, .inl (upd (upd (upd (upd (upd (fun _ => 0) 0 l1) 1 l2) 2 l3) 3 l4) 4 l5))), (h3, .inr (0, [.ref h4, .int 0, .int 0, .int 0])), (h4, .inl (k2, 1, .inl f0))] H := hP
    have hD : va_D A [(h0, .inr (9, [.int 0, .ref h1, .ref z0, .ref z1, .int 0, .int 0, .int 0])), (h1, .inl (k0, 4, .inr (.inr (.inr (.inr (va_up (va_up (va_up (va_up (fun _ => none) 0 (some ge5)) 1 (some ge5)) 2 (some ge5)) 3 (some ge5))))))), (h2, .inl (k1, 5, .inl (upd (upd (upd (upd (upd (fun _ => 0) 0 l1) 1 l2) 2 l3) 3 l4) 4 l5))), (h3, .inr (0, [.ref h4, .int 0, .int 0, .int 0])), (h4, .inl (k2, 1, .inl f0))] := hD
    refine lv_if_eq (tgt := 118) hx hb dX5_type_88 (by decide) (fun _ => ?_) (fun c9 => absurd (by decide) c9)
    refine lv_iinc (v := 2) (lv' := [(12, .int 2), (8, .int 1), (13, .int l2), (0, .ref h0), (1, .int rp), (7, .ref h2), (9, .ref h3), (10, .ref h2), (11, .int 5)]) hx hb dX5_type_118 hl (k := 8) rfl (by decide) (by decide) rfl (fun ls hl => ?_)
    refine lv_goto (tgt := 47) hx hb dX5_type_121 (by decide) ?_
    have hP := hP.sub (ws' := [(h0, .inr (9, [.int 0, .ref h1, .ref z0, .ref z1, .int 0, .int 0, .int 0])), (h1, .inl (k0, 4, .inr (.inr (.inr (.inr (va_up (va_up (va_up (va_up (fun _ => none) 0 (some ge5)) 1 (some ge5)) 2 (some ge5)) 3 (some ge5))))))), (h2, .inl (k1, 5, .inl (upd (upd (upd (upd (upd (fun _ => 0) 0 l1) 1 l2) 2 l3) 3 l4) 4 l5))), (h3, .inr (0, [.ref h4, .int 0, .int 0, .int 0])), (h4, .inl (k2, 1, .inl f0))]) [0, 1, 2, 3, 4] rfl
    have hD := hD.sub (ws' := [(h0, .inr (9, [.int 0, .ref h1, .ref z0, .ref z1, .int 0, .int 0, .int 0])), (h1, .inl (k0, 4, .inr (.inr (.inr (.inr (va_up (va_up (va_up (va_up (fun _ => none) 0 (some ge5)) 1 (some ge5)) 2 (some ge5)) 3 (some ge5))))))), (h2, .inl (k1, 5, .inl (upd (upd (upd (upd (upd (fun _ => 0) 0 l1) 1 l2) 2 l3) 3 l4) 4 l5))), (h3, .inr (0, [.ref h4, .int 0, .int 0, .int 0])), (h4, .inl (k2, 1, .inl f0))]) [0, 1, 2, 3, 4] (by decide) rfl
    have hK := hK.sub (tys' := [(k0, .object "java/lang/String"), (k1, .int), (k2, .byte)]) [0, 1, 2] rfl
    have hl := lv_sub hl [3, 4, 5, 1, 6, 7, 8, 0] (show lv_pick [(12, .int 2), (8, .int 1), (13, .int l2), (0, .ref h0), (1, .int rp), (7, .ref h2), (9, .ref h3), (10, .ref h2), (11, .int 5)] [3, 4, 5, 1, 6, 7, 8, 0] = [(0, .ref h0), (1, .int rp), (7, .ref h2), (8, .int 1), (9, .ref h3), (10, .ref h2), (11, .int 5), (12, .int 2)] from rfl)
    exact kx_X5_type_h211 f0_t hR hx hb hr hml hown hts hlocks hA hG hS hK hP hD hl
  · have hR : kz_ty rp 1 0 [l3, l4, l5] = (R, v) := kz_ty_n.symm.trans hR
    refine lv_iload hx hb dX5_type_47 (lv_at hl 7 rfl) ?_
    refine lv_iload hx hb dX5_type_49 (lv_at hl 6 rfl) ?_
    refine lv_icmp_ge (tgt := 124) hx hb dX5_type_51 (by decide) (fun c9 => absurd c9 (by decide)) (fun _ => ?_)
    refine lv_aload hx hb dX5_type_54 (lv_at hl 5 rfl) ?_
    refine lv_iload hx hb dX5_type_56 (lv_at hl 7 rfl) ?_
    refine va_iald (D := (dC, dI)) hx hb hK hP 2 1 rfl rfl (by unfold vp_in; decide) dX5_type_58 ?_
    refine W.eq (g2 := F0 m 59 ls [.int (-1)]) rfl ?_
    refine lv_istore (lv' := [(13, .int (-1)), (0, .ref h0), (1, .int rp), (7, .ref h2), (8, .int 0), (9, .ref h3), (10, .ref h2), (11, .int 5), (12, .int 1)]) hx hb dX5_type_59 hl (by decide) rfl (fun ls hl => ?_)
    refine lv_iload hx hb dX5_type_61 (lv_at hl 4 rfl) ?_
    refine lv_iload hx hb dX5_type_63 (lv_at hl 0 rfl) ?_
    refine lv_iconst (v := (-1)) hx hb dX5_type_65 (by decide) ?_
    refine lv_iconst (v := 3) hx hb dX5_type_66 (by decide) ?_
    have hPc := hP.sub (ws' := []) [] rfl
    have hDc := hD.sub (ws' := []) [] (by decide) rfl
    have hKc := hK.sub (tys' := []) [] rfl
    have hFc := va_free (wc := []) hD hS hA [] rfl
    refine va_calli (va_runS (As := [.int (-1), .int (-1), .int 3]) (rest := [.int 0]) ⟨hx, hb, hml, hown, hts⟩ (kx_X5_isIn_5 l dC dI H.size) (cwS 3 hts gX5_type_X5_isIn rfl rfl rfl (by decide +kernel) ⟨Nat.le_of_ble_eq_true rfl, Nat.le_of_ble_eq_true rfl⟩) ⟨fun a U g mk q => by obtain ⟨q0, q1, qP, qK, qD⟩ := q; exact ⟨q0, q1, qP, va_K.moved (u := U) (U := U.calling g mk a) (Vm.Alike.refl U.vm) qK, qD⟩, fun U hU hW => ⟨rfl, by rw [hU], by rw [hU]; exact hPc, va_K.moved hW.alike hKc, hDc.weaken (fun _ _ _ _ => trivial)⟩⟩ rfl rfl hl.1 rfl (lv_room (Nat.le_of_ble_eq_true rfl)) dX5_type_67 ⟨Nat.le_of_ble_eq_true rfl, Nat.le_of_ble_eq_true rfl⟩) hS (fun q _ h => hFc q h) hFc (fun r9 u t H1 locs ht hvm hw hB hz1 hk1 hS => ?_)
    obtain rfl := hw
    obtain ⟨hP1, hK1, hD1⟩ := hB
    rw [ht] at hP1
    have hK1 := va_K.moved hvm.symm hK1
    obtain ⟨hP, hD⟩ := va_join (wr := [(h0, .inr (9, [.int 0, .ref h1, .ref z0, .ref z1, .int 0, .int 0, .int 0])), (h1, .inl (k0, 4, .inr (.inr (.inr (.inr (va_up (va_up (va_up (va_up (fun _ => none) 0 (some ge5)) 1 (some ge5)) 2 (some ge5)) 3 (some ge5))))))), (h2, .inl (k1, 5, .inl (upd (upd (upd (upd (upd (fun _ => 0) 0 l1) 1 (-1)) 2 l3) 3 l4) 4 l5))), (h3, .inr (0, [.ref h4, .int 0, .int 0, .int 0])), (h4, .inl (k2, 1, .inl f0))]) (w1 := []) hP hD [] [0, 1, 2, 3, 4] rfl rfl (by decide) (by decide) hk1 hFc hP1 hD1
    generalize H1 = H at hP hS ⊢
    have hP : va_P (dC, dI) vwCl [(h0, .inr (9, [.int 0, .ref h1, .ref z0, .ref z1, .int 0, .int 0, .int 0])), (h1, .inl (k0, 4, .inr (.inr (.inr (.inr (va_up (va_up (va_up (va_up (fun _ => none) 0 (some ge5)) 1 (some ge5)) 2 (some ge5)) 3 (some ge5))))))), (h2, .inl (k1, 5, .inl (upd (upd (upd (upd (upd (fun _ => 0) 0 l1) 1 (-1)) 2 l3) 3 l4) 4 l5))), (h3, .inr (0, [.ref h4, .int 0, .int 0, .int 0])), (h4, .inl (k2, 1, .inl f0))] H := hP
    have hD : va_D A [(h0, .inr (9, [.int 0, .ref h1, .ref z0, .ref z1, .int 0, .int 0, .int 0])), (h1, .inl (k0, 4, .inr (.inr (.inr (.inr (va_up (va_up (va_up (va_up (fun _ => none) 0 (some ge5)) 1 (some ge5)) 2 (some ge5)) 3 (some ge5))))))), (h2, .inl (k1, 5, .inl (upd (upd (upd (upd (upd (fun _ => 0) 0 l1) 1 (-1)) 2 l3) 3 l4) 4 l5))), (h3, .inr (0, [.ref h4, .int 0, .int 0, .int 0])), (h4, .inl (k2, 1, .inl f0))] := hD
    refine lv_if_ne (tgt := 77) hx hb dX5_type_70 (by decide) (fun _ => ?_) (fun c9 => absurd c9 (by decide))
    refine lv_iconst (v := 0) hx hb dX5_type_77 (by decide) ?_
    refine lv_ior hx hb dX5_type_78 ?_
    refine lv_topi (fun y101 ey101 => ?_)
    obtain rfl : y101 = 0 := ey101.trans (by decide)
    refine lv_istore (lv' := [(8, .int 0), (13, .int (-1)), (0, .ref h0), (1, .int rp), (7, .ref h2), (9, .ref h3), (10, .ref h2), (11, .int 5), (12, .int 1)]) hx hb dX5_type_79 hl (by decide) rfl (fun ls hl => ?_)
    refine lv_iload hx hb dX5_type_81 (lv_at hl 1 rfl) ?_
    refine lv_iconst (v := 0) hx hb dX5_type_83 (by decide) ?_
    refine lv_iconst (v := 3) hx hb dX5_type_84 (by decide) ?_
    have hPc := hP.sub (ws' := []) [] rfl
    have hDc := hD.sub (ws' := []) [] (by decide) rfl
    have hKc := hK.sub (tys' := []) [] rfl
    have hFc := va_free (wc := []) hD hS hA [] rfl
    refine va_calli (va_runS (As := [.int (-1), .int 0, .int 3]) (rest := []) ⟨hx, hb, hml, hown, hts⟩ (kx_X5_isIn_6 l dC dI H.size) (cwS 3 hts gX5_type_X5_isIn rfl rfl rfl (by decide +kernel) ⟨Nat.le_of_ble_eq_true rfl, Nat.le_of_ble_eq_true rfl⟩) ⟨fun a U g mk q => by obtain ⟨q0, q1, qP, qK, qD⟩ := q; exact ⟨q0, q1, qP, va_K.moved (u := U) (U := U.calling g mk a) (Vm.Alike.refl U.vm) qK, qD⟩, fun U hU hW => ⟨rfl, by rw [hU], by rw [hU]; exact hPc, va_K.moved hW.alike hKc, hDc.weaken (fun _ _ _ _ => trivial)⟩⟩ rfl rfl hl.1 rfl (lv_room (Nat.le_of_ble_eq_true rfl)) dX5_type_85 ⟨Nat.le_of_ble_eq_true rfl, Nat.le_of_ble_eq_true rfl⟩) hS (fun q _ h => hFc q h) hFc (fun r9 u t H1 locs ht hvm hw hB hz1 hk1 hS => ?_)
    obtain rfl := hw
    obtain ⟨hP1, hK1, hD1⟩ := hB
    rw [ht] at hP1
    have hK1 := va_K.moved hvm.symm hK1
    obtain ⟨hP, hD⟩ := va_join (wr := [(h0, .inr (9, [.int 0, .ref h1, .ref z0, .ref z1, .int 0, .int 0, .int 0])), (h1, .inl (k0, 4, .inr (.inr (.inr (.inr (va_up (va_up (va_up (va_up (fun _ => none) 0 (some ge5)) 1 (some ge5)) 2 (some ge5)) 3 (some ge5))))))), (h2, .inl (k1, 5, .inl (upd (upd (upd (upd (upd (fun _ => 0) 0 l1) 1 (-1)) 2 l3) 3 l4) 4 l5))), (h3, .inr (0, [.ref h4, .int 0, .int 0, .int 0])), (h4, .inl (k2, 1, .inl f0))]) (w1 := []) hP hD [] [0, 1, 2, 3, 4] rfl rfl (by decide) (by decide) hk1 hFc hP1 hD1
    generalize H1 = H at hP hS ⊢
    have hP : va_P (dC, dI) vwCl [(h0, .inr (9, [.int 0, .ref h1, .ref z0, .ref z1, .int 0, .int 0, .int 0])), (h1, .inl (k0, 4, .inr (.inr (.inr (.inr (va_up (va_up (va_up (va_up (fun _ => none) 0 (some ge5)) 1 (some ge5)) 2 (some ge5)) 3 (some ge5))))))), (h2, .inl (k1, 5, .inl (upd (upd (upd (upd (upd (fun _ => 0) 0 l1) 1 (-1)) 2 l3) 3 l4) 4 l5))), (h3, .inr (0, [.ref h4, .int 0, .int 0, .int 0])), (h4, .inl (k2, 1, .inl f0))] H := hP
    have hD : va_D A [(h0, .inr (9, [.int 0, .ref h1, .ref z0, .ref z1, .int 0, .int 0, .int 0])), (h1, .inl (k0, 4, .inr (.inr (.inr (.inr (va_up (va_up (va_up (va_up (fun _ => none) 0 (some ge5)) 1 (some ge5)) 2 (some ge5)) 3 (some ge5))))))), (h2, .inl (k1, 5, .inl (upd (upd (upd (upd (upd (fun _ => 0) 0 l1) 1 (-1)) 2 l3) 3 l4) 4 l5))), (h3, .inr (0, [.ref h4, .int 0, .int 0, .int 0])), (h4, .inl (k2, 1, .inl f0))] := hD
    refine lv_if_eq (tgt := 118) hx hb dX5_type_88 (by decide) (fun _ => ?_) (fun c9 => absurd (by decide) c9)
    refine lv_iinc (v := 2) (lv' := [(12, .int 2), (8, .int 0), (13, .int (-1)), (0, .ref h0), (1, .int rp), (7, .ref h2), (9, .ref h3), (10, .ref h2), (11, .int 5)]) hx hb dX5_type_118 hl (k := 8) rfl (by decide) (by decide) rfl (fun ls hl => ?_)
    refine lv_goto (tgt := 47) hx hb dX5_type_121 (by decide) ?_
    have hP := hP.sub (ws' := [(h0, .inr (9, [.int 0, .ref h1, .ref z0, .ref z1, .int 0, .int 0, .int 0])), (h1, .inl (k0, 4, .inr (.inr (.inr (.inr (va_up (va_up (va_up (va_up (fun _ => none) 0 (some ge5)) 1 (some ge5)) 2 (some ge5)) 3 (some ge5))))))), (h2, .inl (k1, 5, .inl (upd (upd (upd (upd (upd (fun _ => 0) 0 l1) 1 (-1)) 2 l3) 3 l4) 4 l5))), (h3, .inr (0, [.ref h4, .int 0, .int 0, .int 0])), (h4, .inl (k2, 1, .inl f0))]) [0, 1, 2, 3, 4] rfl
    have hD := hD.sub (ws' := [(h0, .inr (9, [.int 0, .ref h1, .ref z0, .ref z1, .int 0, .int 0, .int 0])), (h1, .inl (k0, 4, .inr (.inr (.inr (.inr (va_up (va_up (va_up (va_up (fun _ => none) 0 (some ge5)) 1 (some ge5)) 2 (some ge5)) 3 (some ge5))))))), (h2, .inl (k1, 5, .inl (upd (upd (upd (upd (upd (fun _ => 0) 0 l1) 1 (-1)) 2 l3) 3 l4) 4 l5))), (h3, .inr (0, [.ref h4, .int 0, .int 0, .int 0])), (h4, .inl (k2, 1, .inl f0))]) [0, 1, 2, 3, 4] (by decide) rfl
    have hK := hK.sub (tys' := [(k0, .object "java/lang/String"), (k1, .int), (k2, .byte)]) [0, 1, 2] rfl
    have hl := lv_sub hl [3, 4, 5, 1, 6, 7, 8, 0] (show lv_pick [(12, .int 2), (8, .int 0), (13, .int (-1)), (0, .ref h0), (1, .int rp), (7, .ref h2), (9, .ref h3), (10, .ref h2), (11, .int 5)] [3, 4, 5, 1, 6, 7, 8, 0] = [(0, .ref h0), (1, .int rp), (7, .ref h2), (8, .int 0), (9, .ref h3), (10, .ref h2), (11, .int 5), (12, .int 2)] from rfl)
    exact kx_X5_type_h210 f0_t hR hx hb hr hml hown hts hlocks hA hG hS hK hP hD hl
  · have hR : kz_ty rp 2 0 [l3, l4, l5] = (R, v) := (kz_ty_g (by decide) (by decide)).symm.trans hR
    refine lv_iload hx hb dX5_type_47 (lv_at hl 7 rfl) ?_
    refine lv_iload hx hb dX5_type_49 (lv_at hl 6 rfl) ?_
    refine lv_icmp_ge (tgt := 124) hx hb dX5_type_51 (by decide) (fun c9 => absurd c9 (by decide)) (fun _ => ?_)
    refine lv_aload hx hb dX5_type_54 (lv_at hl 5 rfl) ?_
    refine lv_iload hx hb dX5_type_56 (lv_at hl 7 rfl) ?_
    refine va_iald (D := (dC, dI)) hx hb hK hP 2 1 rfl rfl (by unfold vp_in; decide) dX5_type_58 ?_
    refine W.eq (g2 := F0 m 59 ls [.int 0]) rfl ?_
    refine lv_istore (lv' := [(13, .int 0), (0, .ref h0), (1, .int rp), (7, .ref h2), (8, .int 0), (9, .ref h3), (10, .ref h2), (11, .int 5), (12, .int 1)]) hx hb dX5_type_59 hl (by decide) rfl (fun ls hl => ?_)
    refine lv_iload hx hb dX5_type_61 (lv_at hl 4 rfl) ?_
    refine lv_iload hx hb dX5_type_63 (lv_at hl 0 rfl) ?_
    refine lv_iconst (v := (-1)) hx hb dX5_type_65 (by decide) ?_
    refine lv_iconst (v := 3) hx hb dX5_type_66 (by decide) ?_
    have hPc := hP.sub (ws' := []) [] rfl
    have hDc := hD.sub (ws' := []) [] (by decide) rfl
    have hKc := hK.sub (tys' := []) [] rfl
    have hFc := va_free (wc := []) hD hS hA [] rfl
    refine va_calli (va_runS (As := [.int 0, .int (-1), .int 3]) (rest := [.int 0]) ⟨hx, hb, hml, hown, hts⟩ (kx_X5_isIn_7 l dC dI H.size) (cwS 3 hts gX5_type_X5_isIn rfl rfl rfl (by decide +kernel) ⟨Nat.le_of_ble_eq_true rfl, Nat.le_of_ble_eq_true rfl⟩) ⟨fun a U g mk q => by obtain ⟨q0, q1, qP, qK, qD⟩ := q; exact ⟨q0, q1, qP, va_K.moved (u := U) (U := U.calling g mk a) (Vm.Alike.refl U.vm) qK, qD⟩, fun U hU hW => ⟨rfl, by rw [hU], by rw [hU]; exact hPc, va_K.moved hW.alike hKc, hDc.weaken (fun _ _ _ _ => trivial)⟩⟩ rfl rfl hl.1 rfl (lv_room (Nat.le_of_ble_eq_true rfl)) dX5_type_67 ⟨Nat.le_of_ble_eq_true rfl, Nat.le_of_ble_eq_true rfl⟩) hS (fun q _ h => hFc q h) hFc (fun r9 u t H1 locs ht hvm hw hB hz1 hk1 hS => ?_)
    obtain rfl := hw
    obtain ⟨hP1, hK1, hD1⟩ := hB
    rw [ht] at hP1
    have hK1 := va_K.moved hvm.symm hK1
    obtain ⟨hP, hD⟩ := va_join (wr := [(h0, .inr (9, [.int 0, .ref h1, .ref z0, .ref z1, .int 0, .int 0, .int 0])), (h1, .inl (k0, 4, .inr (.inr (.inr (.inr (va_up (va_up (va_up (va_up (fun _ => none) 0 (some ge5)) 1 (some ge5)) 2 (some ge5)) 3 (some ge5))))))), (h2, .inl (k1, 5, .inl (upd (upd (upd (upd (upd (fun _ => 0) 0 l1) 1 0) 2 l3) 3 l4) 4 l5))), (h3, .inr (0, [.ref h4, .int 0, .int 0, .int 0])), (h4, .inl (k2, 1, .inl f0))]) (w1 := []) hP hD [] [0, 1, 2, 3, 4] rfl rfl (by decide) (by decide) hk1 hFc hP1 hD1
    generalize H1 = H at hP hS ⊢
    have hP : va_P (dC, dI) vwCl [(h0, .inr (9, [.int 0, .ref h1, .ref z0, .ref z1, .int 0, .int 0, .int 0])), (h1, .inl (k0, 4, .inr (.inr (.inr (.inr (va_up (va_up (va_up (va_up (fun _ => none) 0 (some ge5)) 1 (some ge5)) 2 (some ge5)) 3 (some ge5))))))), (h2, .inl (k1, 5, .inl (upd (upd (upd (upd (upd (fun _ => 0) 0 l1) 1 0) 2 l3) 3 l4) 4 l5))), (h3, .inr (0, [.ref h4, .int 0, .int 0, .int 0])), (h4, .inl (k2, 1, .inl f0))] H := hP
    have hD : va_D A [(h0, .inr (9, [.int 0, .ref h1, .ref z0, .ref z1, .int 0, .int 0, .int 0])), (h1, .inl (k0, 4, .inr (.inr (.inr (.inr (va_up (va_up (va_up (va_up (fun _ => none) 0 (some ge5)) 1 (some ge5)) 2 (some ge5)) 3 (some ge5))))))), (h2, .inl (k1, 5, .inl (upd (upd (upd (upd (upd (fun _ => 0) 0 l1) 1 0) 2 l3) 3 l4) 4 l5))), (h3, .inr (0, [.ref h4, .int 0, .int 0, .int 0])), (h4, .inl (k2, 1, .inl f0))] := hD
    refine lv_if_ne (tgt := 77) hx hb dX5_type_70 (by decide) (fun _ => ?_) (fun c9 => absurd c9 (by decide))
    refine lv_iconst (v := 0) hx hb dX5_type_77 (by decide) ?_
    refine lv_ior hx hb dX5_type_78 ?_
    refine lv_topi (fun y101 ey101 => ?_)
    obtain rfl : y101 = 0 := ey101.trans (by decide)
    refine lv_istore (lv' := [(8, .int 0), (13, .int 0), (0, .ref h0), (1, .int rp), (7, .ref h2), (9, .ref h3), (10, .ref h2), (11, .int 5), (12, .int 1)]) hx hb dX5_type_79 hl (by decide) rfl (fun ls hl => ?_)
    refine lv_iload hx hb dX5_type_81 (lv_at hl 1 rfl) ?_
    refine lv_iconst (v := 0) hx hb dX5_type_83 (by decide) ?_
    refine lv_iconst (v := 3) hx hb dX5_type_84 (by decide) ?_
    have hPc := hP.sub (ws' := []) [] rfl
    have hDc := hD.sub (ws' := []) [] (by decide) rfl
    have hKc := hK.sub (tys' := []) [] rfl
    have hFc := va_free (wc := []) hD hS hA [] rfl
    refine va_calli (va_runS (As := [.int 0, .int 0, .int 3]) (rest := []) ⟨hx, hb, hml, hown, hts⟩ (kx_X5_isIn_8 l dC dI H.size) (cwS 3 hts gX5_type_X5_isIn rfl rfl rfl (by decide +kernel) ⟨Nat.le_of_ble_eq_true rfl, Nat.le_of_ble_eq_true rfl⟩) ⟨fun a U g mk q => by obtain ⟨q0, q1, qP, qK, qD⟩ := q; exact ⟨q0, q1, qP, va_K.moved (u := U) (U := U.calling g mk a) (Vm.Alike.refl U.vm) qK, qD⟩, fun U hU hW => ⟨rfl, by rw [hU], by rw [hU]; exact hPc, va_K.moved hW.alike hKc, hDc.weaken (fun _ _ _ _ => trivial)⟩⟩ rfl rfl hl.1 rfl (lv_room (Nat.le_of_ble_eq_true rfl)) dX5_type_85 ⟨Nat.le_of_ble_eq_true rfl, Nat.le_of_ble_eq_true rfl⟩) hS (fun q _ h => hFc q h) hFc (fun r9 u t H1 locs ht hvm hw hB hz1 hk1 hS => ?_)
    obtain rfl := hw
    obtain ⟨hP1, hK1, hD1⟩ := hB
    rw [ht] at hP1
    have hK1 := va_K.moved hvm.symm hK1
    obtain ⟨hP, hD⟩ := va_join (wr := [(h0, .inr (9, [.int 0, .ref h1, .ref z0, .ref z1, .int 0, .int 0, .int 0])), (h1, .inl (k0, 4, .inr (.inr (.inr (.inr (va_up (va_up (va_up (va_up (fun _ => none) 0 (some ge5)) 1 (some ge5)) 2 (some ge5)) 3 (some ge5))))))), (h2, .inl (k1, 5, .inl (upd (upd (upd (upd (upd (fun _ => 0) 0 l1) 1 0) 2 l3) 3 l4) 4 l5))), (h3, .inr (0, [.ref h4, .int 0, .int 0, .int 0])), (h4, .inl (k2, 1, .inl f0))]) (w1 := []) hP hD [] [0, 1, 2, 3, 4] rfl rfl (by decide) (by decide) hk1 hFc hP1 hD1
    generalize H1 = H at hP hS ⊢
    have hP : va_P (dC, dI) vwCl [(h0, .inr (9, [.int 0, .ref h1, .ref z0, .ref z1, .int 0, .int 0, .int 0])), (h1, .inl (k0, 4, .inr (.inr (.inr (.inr (va_up (va_up (va_up (va_up (fun _ => none) 0 (some ge5)) 1 (some ge5)) 2 (some ge5)) 3 (some ge5))))))), (h2, .inl (k1, 5, .inl (upd (upd (upd (upd (upd (fun _ => 0) 0 l1) 1 0) 2 l3) 3 l4) 4 l5))), (h3, .inr (0, [.ref h4, .int 0, .int 0, .int 0])), (h4, .inl (k2, 1, .inl f0))] H := hP
    have hD : va_D A [(h0, .inr (9, [.int 0, .ref h1, .ref z0, .ref z1, .int 0, .int 0, .int 0])), (h1, .inl (k0, 4, .inr (.inr (.inr (.inr (va_up (va_up (va_up (va_up (fun _ => none) 0 (some ge5)) 1 (some ge5)) 2 (some ge5)) 3 (some ge5))))))), (h2, .inl (k1, 5, .inl (upd (upd (upd (upd (upd (fun _ => 0) 0 l1) 1 0) 2 l3) 3 l4) 4 l5))), (h3, .inr (0, [.ref h4, .int 0, .int 0, .int 0])), (h4, .inl (k2, 1, .inl f0))] := hD
    refine lv_if_eq (tgt := 118) hx hb dX5_type_88 (by decide) (fun c9 => absurd c9 (by decide)) (fun _ => ?_)
    refine va_new (ci := 1) (fs := [.null, .int 0, .int 0, .int 0]) (C := RJ4) (T := TJ4) (N := 4) hx hb hts (by decide +kernel) tyJ4 tyJ4_ok hown (hts (.classLink RX5 49 RJ4) (by decide +kernel)) (hts (.instantiable RJ4 4) (by decide +kernel)) (hts (.initialized RJ4) (by decide +kernel)) hK hP hD hS hA rfl (fun j hj => by rcases (show j = 0 ∨ j = 1 ∨ j = 2 ∨ j = 3 by omega) with rfl | rfl | rfl | rfl <;> rfl) (Nat.le_of_ble_eq_true rfl) (Nat.le_of_ble_eq_true rfl) dX5_type_91 (fun q102 H hP hD hS => ?_)
    have hP : va_P (dC, dI) vwCl [(h0, .inr (9, [.int 0, .ref h1, .ref z0, .ref z1, .int 0, .int 0, .int 0])), (h1, .inl (k0, 4, .inr (.inr (.inr (.inr (va_up (va_up (va_up (va_up (fun _ => none) 0 (some ge5)) 1 (some ge5)) 2 (some ge5)) 3 (some ge5))))))), (h2, .inl (k1, 5, .inl (upd (upd (upd (upd (upd (fun _ => 0) 0 l1) 1 0) 2 l3) 3 l4) 4 l5))), (h3, .inr (0, [.ref h4, .int 0, .int 0, .int 0])), (h4, .inl (k2, 1, .inl f0)), (q102, .inr (1, [.null, .int 0, .int 0, .int 0]))] H := hP
    have hD : va_D A [(h0, .inr (9, [.int 0, .ref h1, .ref z0, .ref z1, .int 0, .int 0, .int 0])), (h1, .inl (k0, 4, .inr (.inr (.inr (.inr (va_up (va_up (va_up (va_up (fun _ => none) 0 (some ge5)) 1 (some ge5)) 2 (some ge5)) 3 (some ge5))))))), (h2, .inl (k1, 5, .inl (upd (upd (upd (upd (upd (fun _ => 0) 0 l1) 1 0) 2 l3) 3 l4) 4 l5))), (h3, .inr (0, [.ref h4, .int 0, .int 0, .int 0])), (h4, .inl (k2, 1, .inl f0)), (q102, .inr (1, [.null, .int 0, .int 0, .int 0]))] := hD
    refine W.widen (k := 6) (n := 34) (by omega) (by omega) ?_
    refine lv_dup hx hb dX5_type_94 rfl ?_
    have hPc := hP.sub (ws' := [(q102, .inr (1, [.null, .int 0, .int 0, .int 0]))]) [5] rfl
    have hDc := hD.sub (ws' := [(q102, .inr (1, [.null, .int 0, .int 0, .int 0]))]) [5] (by decide) rfl
    have hKc := hK.sub (tys' := []) [] rfl
    have hFc := va_free (wc := [(q102, .inr (1, [.null, .int 0, .int 0, .int 0]))]) hD hS hA [5] rfl
    refine va_callv (va_runI (As := []) (rest := [.ref q102]) ⟨hx, hb, hml, hown, hts⟩ (kx_J4_init_da8c8_0 l dC dI ge5 gea gv5 gva gde gic gi0 q102 H.size) (cwI 0 hts gX5_type_J4_init_da8c8 rfl rfl rfl (hts (.initialized RJ4) (by decide +kernel)) (hts (.methodLink RX5 51 yJ4_init_da8c8) (by decide +kernel)) (hts (.instanceMethod yJ4_init_da8c8) (by decide +kernel)) rfl (by decide +kernel) ⟨Nat.le_of_ble_eq_true rfl, Nat.le_of_ble_eq_true rfl⟩) ⟨fun a U g mk q => by obtain ⟨q0, q1, qP, qK, qD, qG⟩ := q; exact ⟨q0, q1, qP, va_K.moved (u := U) (U := U.calling g mk a) (Vm.Alike.refl U.vm) qK, qD, gv.fb qG⟩, fun U hU hW => ⟨rfl, by rw [hU], by rw [hU]; exact hPc, va_K.moved hW.alike hKc, hDc.weaken (fun _ _ _ _ => trivial), gv.pass hW hU hS hFc hG⟩⟩ rfl rfl hl.1 rfl (lv_room (Nat.le_of_ble_eq_true rfl)) dX5_type_95 ⟨Nat.le_of_ble_eq_true rfl, Nat.le_of_ble_eq_true rfl⟩) hS (fun q _ h => hFc q h) hFc (fun u t H1 locs ht hvm hw hB hz1 hk1 hS => ?_)
    obtain ⟨q103, cq104, hP1, hK1, hD1⟩ := hB
    rw [ht] at hP1
    have hK1 := va_K.moved hvm.symm hK1
    obtain ⟨hP, hD⟩ := va_join (wr := [(h0, .inr (9, [.int 0, .ref h1, .ref z0, .ref z1, .int 0, .int 0, .int 0])), (h1, .inl (k0, 4, .inr (.inr (.inr (.inr (va_up (va_up (va_up (va_up (fun _ => none) 0 (some ge5)) 1 (some ge5)) 2 (some ge5)) 3 (some ge5))))))), (h2, .inl (k1, 5, .inl (upd (upd (upd (upd (upd (fun _ => 0) 0 l1) 1 0) 2 l3) 3 l4) 4 l5))), (h3, .inr (0, [.ref h4, .int 0, .int 0, .int 0])), (h4, .inl (k2, 1, .inl f0))]) (w1 := [(q102, .inr (1, [.ref q103, .int 0, .int 0, .int 0])), (q103, .inl (cq104, 16, .inl (fun _ => 0)))]) hP hD [5] [0, 1, 2, 3, 4] rfl rfl (by decide) (by decide) hk1 hFc hP1 hD1
    have hK := hK.app (hK1.sub (tys' := [(cq104, .byte)]) [0] rfl)
    generalize H1 = H at hP hS ⊢
    have hK : va_K (dC, dI) vwCl [(k0, .object "java/lang/String"), (k1, .int), (k2, .byte), (cq104, .byte)] s := hK
    have hP : va_P (dC, dI) vwCl [(h0, .inr (9, [.int 0, .ref h1, .ref z0, .ref z1, .int 0, .int 0, .int 0])), (h1, .inl (k0, 4, .inr (.inr (.inr (.inr (va_up (va_up (va_up (va_up (fun _ => none) 0 (some ge5)) 1 (some ge5)) 2 (some ge5)) 3 (some ge5))))))), (h2, .inl (k1, 5, .inl (upd (upd (upd (upd (upd (fun _ => 0) 0 l1) 1 0) 2 l3) 3 l4) 4 l5))), (h3, .inr (0, [.ref h4, .int 0, .int 0, .int 0])), (h4, .inl (k2, 1, .inl f0)), (q102, .inr (1, [.ref q103, .int 0, .int 0, .int 0])), (q103, .inl (cq104, 16, .inl (fun _ => 0)))] H := hP
    have hD : va_D A [(h0, .inr (9, [.int 0, .ref h1, .ref z0, .ref z1, .int 0, .int 0, .int 0])), (h1, .inl (k0, 4, .inr (.inr (.inr (.inr (va_up (va_up (va_up (va_up (fun _ => none) 0 (some ge5)) 1 (some ge5)) 2 (some ge5)) 3 (some ge5))))))), (h2, .inl (k1, 5, .inl (upd (upd (upd (upd (upd (fun _ => 0) 0 l1) 1 0) 2 l3) 3 l4) 4 l5))), (h3, .inr (0, [.ref h4, .int 0, .int 0, .int 0])), (h4, .inl (k2, 1, .inl f0)), (q102, .inr (1, [.ref q103, .int 0, .int 0, .int 0])), (q103, .inl (cq104, 16, .inl (fun _ => 0)))] := hD
    refine W.widen (k := 7) (n := 50) (by omega) (by omega) ?_
    refine lv_aload hx hb dX5_type_98 (lv_at hl 5 rfl) ?_
    have hPc := hP.sub (ws' := [(h3, .inr (0, [.ref h4, .int 0, .int 0, .int 0])), (h4, .inl (k2, 1, .inl f0)), (q102, .inr (1, [.ref q103, .int 0, .int 0, .int 0])), (q103, .inl (cq104, 16, .inl (fun _ => 0)))]) [3, 4, 5, 6] rfl
    have hDc := hD.sub (ws' := [(h3, .inr (0, [.ref h4, .int 0, .int 0, .int 0])), (h4, .inl (k2, 1, .inl f0)), (q102, .inr (1, [.ref q103, .int 0, .int 0, .int 0])), (q103, .inl (cq104, 16, .inl (fun _ => 0)))]) [3, 4, 5, 6] (by decide) rfl
    have hKc := hK.sub (tys' := [(k2, .byte), (cq104, .byte)]) [2, 3] rfl
    have hFc := va_free (wc := [(h3, .inr (0, [.ref h4, .int 0, .int 0, .int 0])), (h4, .inl (k2, 1, .inl f0)), (q102, .inr (1, [.ref q103, .int 0, .int 0, .int 0])), (q103, .inl (cq104, 16, .inl (fun _ => 0)))]) hD hS hA [3, 4, 5, 6] rfl
    refine va_callr (va_runV (As := [.ref h3]) (rest := []) ⟨hx, hb, hml, hown, hts⟩ (kx_J4_append_15ec4_1 l dC dI ge5 gea gv5 gva gde gic gi0 h3 h4 q102 q103 k2 cq104 H.size f0 f0_t) (cwV 1 hts gX5_type_J4_append_15ec4 rfl rfl rfl (by decide +kernel) ⟨Nat.le_of_ble_eq_true rfl, Nat.le_of_ble_eq_true rfl⟩) ⟨fun a U g mk q => by obtain ⟨q0, q1, qP, qK, qD, qG⟩ := q; exact ⟨q0, q1, qP, va_K.moved (u := U) (U := U.calling g mk a) (Vm.Alike.refl U.vm) qK, qD, gv.fb qG⟩, va_recv hKc hPc (ci := 1) (q0 := 2) rfl rfl, fun U hU hW => ⟨rfl, by rw [hU], by rw [hU]; exact hPc, va_K.moved hW.alike hKc, hDc.weaken (fun _ _ _ _ => trivial), gv.pass hW hU hS hFc hG⟩⟩ rfl rfl hl.1 rfl (lv_room (Nat.le_of_ble_eq_true rfl)) dX5_type_100 ⟨Nat.le_of_ble_eq_true rfl, Nat.le_of_ble_eq_true rfl⟩) hS (fun q _ h => hFc q h) hFc (fun u ra t H1 locs ht hvm hw hB hz1 hk1 hS => ?_)
    obtain ⟨f105, f105_t, hra, hP1, hK1, hD1⟩ := hB
    rw [hra]
    rw [ht] at hP1
    have hK1 := va_K.moved hvm.symm hK1
    obtain ⟨hP, hD⟩ := va_join (wr := [(h0, .inr (9, [.int 0, .ref h1, .ref z0, .ref z1, .int 0, .int 0, .int 0])), (h1, .inl (k0, 4, .inr (.inr (.inr (.inr (va_up (va_up (va_up (va_up (fun _ => none) 0 (some ge5)) 1 (some ge5)) 2 (some ge5)) 3 (some ge5))))))), (h2, .inl (k1, 5, .inl (upd (upd (upd (upd (upd (fun _ => 0) 0 l1) 1 0) 2 l3) 3 l4) 4 l5)))]) (w1 := [(h3, .inr (0, [.ref h4, .int 0, .int 0, .int 0])), (h4, .inl (k2, 1, .inl f0)), (q102, .inr (1, [.ref q103, .int 0, .int 0, .int 1])), (q103, .inl (cq104, 16, .inl f105))]) hP hD [3, 4, 5, 6] [0, 1, 2] rfl rfl (by decide) (by decide) hk1 hFc hP1 hD1
    generalize H1 = H at hP hS ⊢
    have hP : va_P (dC, dI) vwCl [(h0, .inr (9, [.int 0, .ref h1, .ref z0, .ref z1, .int 0, .int 0, .int 0])), (h1, .inl (k0, 4, .inr (.inr (.inr (.inr (va_up (va_up (va_up (va_up (fun _ => none) 0 (some ge5)) 1 (some ge5)) 2 (some ge5)) 3 (some ge5))))))), (h2, .inl (k1, 5, .inl (upd (upd (upd (upd (upd (fun _ => 0) 0 l1) 1 0) 2 l3) 3 l4) 4 l5))), (h3, .inr (0, [.ref h4, .int 0, .int 0, .int 0])), (h4, .inl (k2, 1, .inl f0)), (q102, .inr (1, [.ref q103, .int 0, .int 0, .int 1])), (q103, .inl (cq104, 16, .inl f105))] H := hP
    have hD : va_D A [(h0, .inr (9, [.int 0, .ref h1, .ref z0, .ref z1, .int 0, .int 0, .int 0])), (h1, .inl (k0, 4, .inr (.inr (.inr (.inr (va_up (va_up (va_up (va_up (fun _ => none) 0 (some ge5)) 1 (some ge5)) 2 (some ge5)) 3 (some ge5))))))), (h2, .inl (k1, 5, .inl (upd (upd (upd (upd (upd (fun _ => 0) 0 l1) 1 0) 2 l3) 3 l4) 4 l5))), (h3, .inr (0, [.ref h4, .int 0, .int 0, .int 0])), (h4, .inl (k2, 1, .inl f0)), (q102, .inr (1, [.ref q103, .int 0, .int 0, .int 1])), (q103, .inl (cq104, 16, .inl f105))] := hD
    refine va_ldcS hx hb hown g_sa dX5_type_103 ?_
    refine lv_iload hx hb dX5_type_105 (lv_at hl 1 rfl) ?_
    have hPc := hP.sub (ws' := []) [] rfl
    have hDc := hD.sub (ws' := []) [] (by decide) rfl
    have hKc := hK.sub (tys' := []) [] rfl
    have hFc := va_free (wc := []) hD hS hA [] rfl
    refine va_calli (va_runV (As := [.int 0]) (rest := [.ref q102]) ⟨hx, hb, hml, hown, hts⟩ (kx_J0_charAt_5068e_0 l dC dI ge5 gea gv5 gva gde gic gi0 H.size) (cwV 1 hts gX5_type_J0_charAt_5068e rfl rfl rfl (by decide +kernel) ⟨Nat.le_of_ble_eq_true rfl, Nat.le_of_ble_eq_true rfl⟩) ⟨fun a U g mk q => by obtain ⟨q0, q1, qP, qK, qD, qG⟩ := q; exact ⟨q0, q1, qP, va_K.moved (u := U) (U := U.calling g mk a) (Vm.Alike.refl U.vm) qK, qD, gv.fb qG⟩, (by obtain ⟨cell, k1, k2, k3, -⟩ := g_oa.kept hS.2.1; exact ⟨cell, k1, k2, k3⟩), fun U hU hW => ⟨rfl, by rw [hU], by rw [hU]; exact hPc, va_K.moved hW.alike hKc, hDc.weaken (fun _ _ _ _ => trivial), gv.pass hW hU hS hFc hG⟩⟩ rfl rfl hl.1 rfl (lv_room (Nat.le_of_ble_eq_true rfl)) dX5_type_107 ⟨Nat.le_of_ble_eq_true rfl, Nat.le_of_ble_eq_true rfl⟩) hS (fun q _ h => hFc q h) hFc (fun r9 u t H1 locs ht hvm hw hB hz1 hk1 hS => ?_)
    obtain rfl := hw
    obtain ⟨hP1, hK1, hD1⟩ := hB
    rw [ht] at hP1
    have hK1 := va_K.moved hvm.symm hK1
    obtain ⟨hP, hD⟩ := va_join (wr := [(h0, .inr (9, [.int 0, .ref h1, .ref z0, .ref z1, .int 0, .int 0, .int 0])), (h1, .inl (k0, 4, .inr (.inr (.inr (.inr (va_up (va_up (va_up (va_up (fun _ => none) 0 (some ge5)) 1 (some ge5)) 2 (some ge5)) 3 (some ge5))))))), (h2, .inl (k1, 5, .inl (upd (upd (upd (upd (upd (fun _ => 0) 0 l1) 1 0) 2 l3) 3 l4) 4 l5))), (h3, .inr (0, [.ref h4, .int 0, .int 0, .int 0])), (h4, .inl (k2, 1, .inl f0)), (q102, .inr (1, [.ref q103, .int 0, .int 0, .int 1])), (q103, .inl (cq104, 16, .inl f105))]) (w1 := []) hP hD [] [0, 1, 2, 3, 4, 5, 6] rfl rfl (by decide) (by decide) hk1 hFc hP1 hD1
    generalize H1 = H at hP hS ⊢
    have hP : va_P (dC, dI) vwCl [(h0, .inr (9, [.int 0, .ref h1, .ref z0, .ref z1, .int 0, .int 0, .int 0])), (h1, .inl (k0, 4, .inr (.inr (.inr (.inr (va_up (va_up (va_up (va_up (fun _ => none) 0 (some ge5)) 1 (some ge5)) 2 (some ge5)) 3 (some ge5))))))), (h2, .inl (k1, 5, .inl (upd (upd (upd (upd (upd (fun _ => 0) 0 l1) 1 0) 2 l3) 3 l4) 4 l5))), (h3, .inr (0, [.ref h4, .int 0, .int 0, .int 0])), (h4, .inl (k2, 1, .inl f0)), (q102, .inr (1, [.ref q103, .int 0, .int 0, .int 1])), (q103, .inl (cq104, 16, .inl f105))] H := hP
    have hD : va_D A [(h0, .inr (9, [.int 0, .ref h1, .ref z0, .ref z1, .int 0, .int 0, .int 0])), (h1, .inl (k0, 4, .inr (.inr (.inr (.inr (va_up (va_up (va_up (va_up (fun _ => none) 0 (some ge5)) 1 (some ge5)) 2 (some ge5)) 3 (some ge5))))))), (h2, .inl (k1, 5, .inl (upd (upd (upd (upd (upd (fun _ => 0) 0 l1) 1 0) 2 l3) 3 l4) 4 l5))), (h3, .inr (0, [.ref h4, .int 0, .int 0, .int 0])), (h4, .inl (k2, 1, .inl f0)), (q102, .inr (1, [.ref q103, .int 0, .int 0, .int 1])), (q103, .inl (cq104, 16, .inl f105))] := hD
    have hPc := hP.sub (ws' := [(q102, .inr (1, [.ref q103, .int 0, .int 0, .int 1])), (q103, .inl (cq104, 16, .inl f105))]) [5, 6] rfl
    have hDc := hD.sub (ws' := [(q102, .inr (1, [.ref q103, .int 0, .int 0, .int 1])), (q103, .inl (cq104, 16, .inl f105))]) [5, 6] (by decide) rfl
    have hKc := hK.sub (tys' := [(cq104, .byte)]) [3] rfl
    have hFc := va_free (wc := [(q102, .inr (1, [.ref q103, .int 0, .int 0, .int 1])), (q103, .inl (cq104, 16, .inl f105))]) hD hS hA [5, 6] rfl
    refine va_callr (va_runV (As := [.int 97]) (rest := []) ⟨hx, hb, hml, hown, hts⟩ (kx_J4_append_cf468_4 l dC dI ge5 gea gv5 gva gde gic gi0 q102 q103 cq104 H.size f105 f105_t) (cwV 1 hts gX5_type_J4_append_cf468 rfl rfl rfl (by decide +kernel) ⟨Nat.le_of_ble_eq_true rfl, Nat.le_of_ble_eq_true rfl⟩) ⟨fun a U g mk q => by obtain ⟨q0, q1, qP, qK, qD, qG⟩ := q; exact ⟨q0, q1, qP, va_K.moved (u := U) (U := U.calling g mk a) (Vm.Alike.refl U.vm) qK, qD, gv.fb qG⟩, va_recv hKc hPc (ci := 1) (q0 := 0) rfl rfl, fun U hU hW => ⟨rfl, by rw [hU], by rw [hU]; exact hPc, va_K.moved hW.alike hKc, hDc.weaken (fun _ _ _ _ => trivial), gv.pass hW hU hS hFc hG⟩⟩ rfl rfl hl.1 rfl (lv_room (Nat.le_of_ble_eq_true rfl)) dX5_type_110 ⟨Nat.le_of_ble_eq_true rfl, Nat.le_of_ble_eq_true rfl⟩) hS (fun q _ h => hFc q h) hFc (fun u ra t H1 locs ht hvm hw hB hz1 hk1 hS => ?_)
    obtain ⟨f106, f106_t, hra, hP1, hK1, hD1⟩ := hB
    rw [hra]
    rw [ht] at hP1
    have hK1 := va_K.moved hvm.symm hK1
    obtain ⟨hP, hD⟩ := va_join (wr := [(h0, .inr (9, [.int 0, .ref h1, .ref z0, .ref z1, .int 0, .int 0, .int 0])), (h1, .inl (k0, 4, .inr (.inr (.inr (.inr (va_up (va_up (va_up (va_up (fun _ => none) 0 (some ge5)) 1 (some ge5)) 2 (some ge5)) 3 (some ge5))))))), (h2, .inl (k1, 5, .inl (upd (upd (upd (upd (upd (fun _ => 0) 0 l1) 1 0) 2 l3) 3 l4) 4 l5))), (h3, .inr (0, [.ref h4, .int 0, .int 0, .int 0])), (h4, .inl (k2, 1, .inl f0))]) (w1 := [(q102, .inr (1, [.ref q103, .int 0, .int 0, .int 2])), (q103, .inl (cq104, 16, .inl f106))]) hP hD [5, 6] [0, 1, 2, 3, 4] rfl rfl (by decide) (by decide) hk1 hFc hP1 hD1
    generalize H1 = H at hP hS ⊢
    have hP : va_P (dC, dI) vwCl [(h0, .inr (9, [.int 0, .ref h1, .ref z0, .ref z1, .int 0, .int 0, .int 0])), (h1, .inl (k0, 4, .inr (.inr (.inr (.inr (va_up (va_up (va_up (va_up (fun _ => none) 0 (some ge5)) 1 (some ge5)) 2 (some ge5)) 3 (some ge5))))))), (h2, .inl (k1, 5, .inl (upd (upd (upd (upd (upd (fun _ => 0) 0 l1) 1 0) 2 l3) 3 l4) 4 l5))), (h3, .inr (0, [.ref h4, .int 0, .int 0, .int 0])), (h4, .inl (k2, 1, .inl f0)), (q102, .inr (1, [.ref q103, .int 0, .int 0, .int 2])), (q103, .inl (cq104, 16, .inl f106))] H := hP
    have hD : va_D A [(h0, .inr (9, [.int 0, .ref h1, .ref z0, .ref z1, .int 0, .int 0, .int 0])), (h1, .inl (k0, 4, .inr (.inr (.inr (.inr (va_up (va_up (va_up (va_up (fun _ => none) 0 (some ge5)) 1 (some ge5)) 2 (some ge5)) 3 (some ge5))))))), (h2, .inl (k1, 5, .inl (upd (upd (upd (upd (upd (fun _ => 0) 0 l1) 1 0) 2 l3) 3 l4) 4 l5))), (h3, .inr (0, [.ref h4, .int 0, .int 0, .int 0])), (h4, .inl (k2, 1, .inl f0)), (q102, .inr (1, [.ref q103, .int 0, .int 0, .int 2])), (q103, .inl (cq104, 16, .inl f106))] := hD
    have hPc := hP.sub (ws' := [(q102, .inr (1, [.ref q103, .int 0, .int 0, .int 2])), (q103, .inl (cq104, 16, .inl f106))]) [5, 6] rfl
    have hDc := hD.sub (ws' := [(q102, .inr (1, [.ref q103, .int 0, .int 0, .int 2])), (q103, .inl (cq104, 16, .inl f106))]) [5, 6] (by decide) rfl
    have hKc := hK.sub (tys' := [(cq104, .byte)]) [3] rfl
    have hFc := va_free (wc := [(q102, .inr (1, [.ref q103, .int 0, .int 0, .int 2])), (q103, .inl (cq104, 16, .inl f106))]) hD hS hA [5, 6] rfl
    refine va_callr (va_runV (As := []) (rest := []) ⟨hx, hb, hml, hown, hts⟩ (kx_J4_toString_0e30d_2 l dC dI ge5 gea gv5 gva gde gic gi0 q102 q103 cq104 H.size f106 f106_t) (cwV 0 hts gX5_type_J4_toString_0e30d rfl rfl rfl (by decide +kernel) ⟨Nat.le_of_ble_eq_true rfl, Nat.le_of_ble_eq_true rfl⟩) ⟨fun a U g mk q => by obtain ⟨q0, q1, qP, qK, qD, qG⟩ := q; exact ⟨q0, q1, qP, va_K.moved (u := U) (U := U.calling g mk a) (Vm.Alike.refl U.vm) qK, qD, gv.fb qG⟩, va_recv hKc hPc (ci := 1) (q0 := 0) rfl rfl, fun U hU hW => ⟨rfl, by rw [hU], by rw [hU]; exact hPc, va_K.moved hW.alike hKc, hDc.weaken (fun _ _ _ _ => trivial), gv.pass hW hU hS hFc hG⟩⟩ rfl rfl hl.1 rfl (lv_room (Nat.le_of_ble_eq_true rfl)) dX5_type_113 ⟨Nat.le_of_ble_eq_true rfl, Nat.le_of_ble_eq_true rfl⟩) hS (fun q _ h => hFc q h) hFc (fun u ra t H1 locs ht hvm hw hB hz1 hk1 hS => ?_)
    obtain ⟨q107, q108, cq109, f110, f110_t, hra, hP1, hK1, hD1⟩ := hB
    rw [hra]
    rw [ht] at hP1
    have hK1 := va_K.moved hvm.symm hK1
    obtain ⟨hP, hD⟩ := va_join (wr := [(h0, .inr (9, [.int 0, .ref h1, .ref z0, .ref z1, .int 0, .int 0, .int 0])), (h1, .inl (k0, 4, .inr (.inr (.inr (.inr (va_up (va_up (va_up (va_up (fun _ => none) 0 (some ge5)) 1 (some ge5)) 2 (some ge5)) 3 (some ge5))))))), (h2, .inl (k1, 5, .inl (upd (upd (upd (upd (upd (fun _ => 0) 0 l1) 1 0) 2 l3) 3 l4) 4 l5))), (h3, .inr (0, [.ref h4, .int 0, .int 0, .int 0])), (h4, .inl (k2, 1, .inl f0))]) (w1 := [(q102, .inr (1, [.ref q103, .int 0, .int 0, .int 2])), (q103, .inl (cq104, 16, .inl f106)), (q107, .inr (0, [.ref q108, .int 0, .int 0, .int 0])), (q108, .inl (cq109, 2, .inl f110))]) hP hD [5, 6] [0, 1, 2, 3, 4] rfl rfl (by decide) (by decide) hk1 hFc hP1 hD1
    have hK := hK.app (hK1.sub (tys' := [(cq109, .byte)]) [1] rfl)
    generalize H1 = H at hP hS ⊢
    have hK : va_K (dC, dI) vwCl [(k0, .object "java/lang/String"), (k1, .int), (k2, .byte), (cq104, .byte), (cq109, .byte)] s := hK
    have hP : va_P (dC, dI) vwCl [(h0, .inr (9, [.int 0, .ref h1, .ref z0, .ref z1, .int 0, .int 0, .int 0])), (h1, .inl (k0, 4, .inr (.inr (.inr (.inr (va_up (va_up (va_up (va_up (fun _ => none) 0 (some ge5)) 1 (some ge5)) 2 (some ge5)) 3 (some ge5))))))), (h2, .inl (k1, 5, .inl (upd (upd (upd (upd (upd (fun _ => 0) 0 l1) 1 0) 2 l3) 3 l4) 4 l5))), (h3, .inr (0, [.ref h4, .int 0, .int 0, .int 0])), (h4, .inl (k2, 1, .inl f0)), (q102, .inr (1, [.ref q103, .int 0, .int 0, .int 2])), (q103, .inl (cq104, 16, .inl f106)), (q107, .inr (0, [.ref q108, .int 0, .int 0, .int 0])), (q108, .inl (cq109, 2, .inl f110))] H := hP
    have hD : va_D A [(h0, .inr (9, [.int 0, .ref h1, .ref z0, .ref z1, .int 0, .int 0, .int 0])), (h1, .inl (k0, 4, .inr (.inr (.inr (.inr (va_up (va_up (va_up (va_up (fun _ => none) 0 (some ge5)) 1 (some ge5)) 2 (some ge5)) 3 (some ge5))))))), (h2, .inl (k1, 5, .inl (upd (upd (upd (upd (upd (fun _ => 0) 0 l1) 1 0) 2 l3) 3 l4) 4 l5))), (h3, .inr (0, [.ref h4, .int 0, .int 0, .int 0])), (h4, .inl (k2, 1, .inl f0)), (q102, .inr (1, [.ref q103, .int 0, .int 0, .int 2])), (q103, .inl (cq104, 16, .inl f106)), (q107, .inr (0, [.ref q108, .int 0, .int 0, .int 0])), (q108, .inl (cq109, 2, .inl f110))] := hD
    refine W.widen (k := 9) (n := 56) (by omega) (by omega) ?_
    refine lv_astore (lv' := [(9, .ref q107), (8, .int 0), (13, .int 0), (0, .ref h0), (1, .int rp), (7, .ref h2), (10, .ref h2), (11, .int 5), (12, .int 1)]) hx hb dX5_type_116 hl (by decide) rfl (fun ls hl => ?_)
    refine lv_iinc (v := 2) (lv' := [(12, .int 2), (9, .ref q107), (8, .int 0), (13, .int 0), (0, .ref h0), (1, .int rp), (7, .ref h2), (10, .ref h2), (11, .int 5)]) hx hb dX5_type_118 hl (k := 8) rfl (by decide) (by decide) rfl (fun ls hl => ?_)
    refine lv_goto (tgt := 47) hx hb dX5_type_121 (by decide) ?_
    have hP := hP.sub (ws' := [(h0, .inr (9, [.int 0, .ref h1, .ref z0, .ref z1, .int 0, .int 0, .int 0])), (h1, .inl (k0, 4, .inr (.inr (.inr (.inr (va_up (va_up (va_up (va_up (fun _ => none) 0 (some ge5)) 1 (some ge5)) 2 (some ge5)) 3 (some ge5))))))), (h2, .inl (k1, 5, .inl (upd (upd (upd (upd (upd (fun _ => 0) 0 l1) 1 0) 2 l3) 3 l4) 4 l5))), (q107, .inr (0, [.ref q108, .int 0, .int 0, .int 0])), (q108, .inl (cq109, 2, .inl f110))]) [0, 1, 2, 7, 8] rfl
    have hD := hD.sub (ws' := [(h0, .inr (9, [.int 0, .ref h1, .ref z0, .ref z1, .int 0, .int 0, .int 0])), (h1, .inl (k0, 4, .inr (.inr (.inr (.inr (va_up (va_up (va_up (va_up (fun _ => none) 0 (some ge5)) 1 (some ge5)) 2 (some ge5)) 3 (some ge5))))))), (h2, .inl (k1, 5, .inl (upd (upd (upd (upd (upd (fun _ => 0) 0 l1) 1 0) 2 l3) 3 l4) 4 l5))), (q107, .inr (0, [.ref q108, .int 0, .int 0, .int 0])), (q108, .inl (cq109, 2, .inl f110))]) [0, 1, 2, 7, 8] (by decide) rfl
    have hK := hK.sub (tys' := [(k0, .object "java/lang/String"), (k1, .int), (cq109, .byte)]) [0, 1, 4] rfl
    have hl := lv_sub hl [4, 5, 6, 2, 1, 7, 8, 0] (show lv_pick [(12, .int 2), (9, .ref q107), (8, .int 0), (13, .int 0), (0, .ref h0), (1, .int rp), (7, .ref h2), (10, .ref h2), (11, .int 5)] [4, 5, 6, 2, 1, 7, 8, 0] = [(0, .ref h0), (1, .int rp), (7, .ref h2), (8, .int 0), (9, .ref q107), (10, .ref h2), (11, .int 5), (12, .int 2)] from rfl)
    exact kx_X5_type_h220 f110_t hR hx hb hr hml hown hts hlocks hA hG hS hK hP hD hl
  · have hR : kz_ty rp 2 0 [l3, l4, l5] = (R, v) := (kz_ty_g (by decide) (by decide)).symm.trans hR
    refine lv_iload hx hb dX5_type_47 (lv_at hl 7 rfl) ?_
    refine lv_iload hx hb dX5_type_49 (lv_at hl 6 rfl) ?_
    refine lv_icmp_ge (tgt := 124) hx hb dX5_type_51 (by decide) (fun c9 => absurd c9 (by decide)) (fun _ => ?_)
    refine lv_aload hx hb dX5_type_54 (lv_at hl 5 rfl) ?_
    refine lv_iload hx hb dX5_type_56 (lv_at hl 7 rfl) ?_
    refine va_iald (D := (dC, dI)) hx hb hK hP 2 1 rfl rfl (by unfold vp_in; decide) dX5_type_58 ?_
    refine W.eq (g2 := F0 m 59 ls [.int 1]) rfl ?_
    refine lv_istore (lv' := [(13, .int 1), (0, .ref h0), (1, .int rp), (7, .ref h2), (8, .int 0), (9, .ref h3), (10, .ref h2), (11, .int 5), (12, .int 1)]) hx hb dX5_type_59 hl (by decide) rfl (fun ls hl => ?_)
    refine lv_iload hx hb dX5_type_61 (lv_at hl 4 rfl) ?_
    refine lv_iload hx hb dX5_type_63 (lv_at hl 0 rfl) ?_
    refine lv_iconst (v := (-1)) hx hb dX5_type_65 (by decide) ?_
    refine lv_iconst (v := 3) hx hb dX5_type_66 (by decide) ?_
    have hPc := hP.sub (ws' := []) [] rfl
    have hDc := hD.sub (ws' := []) [] (by decide) rfl
    have hKc := hK.sub (tys' := []) [] rfl
    have hFc := va_free (wc := []) hD hS hA [] rfl
    refine va_calli (va_runS (As := [.int 1, .int (-1), .int 3]) (rest := [.int 0]) ⟨hx, hb, hml, hown, hts⟩ (kx_X5_isIn_9 l dC dI H.size) (cwS 3 hts gX5_type_X5_isIn rfl rfl rfl (by decide +kernel) ⟨Nat.le_of_ble_eq_true rfl, Nat.le_of_ble_eq_true rfl⟩) ⟨fun a U g mk q => by obtain ⟨q0, q1, qP, qK, qD⟩ := q; exact ⟨q0, q1, qP, va_K.moved (u := U) (U := U.calling g mk a) (Vm.Alike.refl U.vm) qK, qD⟩, fun U hU hW => ⟨rfl, by rw [hU], by rw [hU]; exact hPc, va_K.moved hW.alike hKc, hDc.weaken (fun _ _ _ _ => trivial)⟩⟩ rfl rfl hl.1 rfl (lv_room (Nat.le_of_ble_eq_true rfl)) dX5_type_67 ⟨Nat.le_of_ble_eq_true rfl, Nat.le_of_ble_eq_true rfl⟩) hS (fun q _ h => hFc q h) hFc (fun r9 u t H1 locs ht hvm hw hB hz1 hk1 hS => ?_)
    obtain rfl := hw
    obtain ⟨hP1, hK1, hD1⟩ := hB
    rw [ht] at hP1
    have hK1 := va_K.moved hvm.symm hK1
    obtain ⟨hP, hD⟩ := va_join (wr := [(h0, .inr (9, [.int 0, .ref h1, .ref z0, .ref z1, .int 0, .int 0, .int 0])), (h1, .inl (k0, 4, .inr (.inr (.inr (.inr (va_up (va_up (va_up (va_up (fun _ => none) 0 (some ge5)) 1 (some ge5)) 2 (some ge5)) 3 (some ge5))))))), (h2, .inl (k1, 5, .inl (upd (upd (upd (upd (upd (fun _ => 0) 0 l1) 1 1) 2 l3) 3 l4) 4 l5))), (h3, .inr (0, [.ref h4, .int 0, .int 0, .int 0])), (h4, .inl (k2, 1, .inl f0))]) (w1 := []) hP hD [] [0, 1, 2, 3, 4] rfl rfl (by decide) (by decide) hk1 hFc hP1 hD1
    generalize H1 = H at hP hS ⊢
    have hP : va_P (dC, dI) vwCl [(h0, .inr (9, [.int 0, .ref h1, .ref z0, .ref z1, .int 0, .int 0, .int 0])), (h1, .inl (k0, 4, .inr (.inr (.inr (.inr (va_up (va_up (va_up (va_up (fun _ => none) 0 (some ge5)) 1 (some ge5)) 2 (some ge5)) 3 (some ge5))))))), (h2, .inl (k1, 5, .inl (upd (upd (upd (upd (upd (fun _ => 0) 0 l1) 1 1) 2 l3) 3 l4) 4 l5))), (h3, .inr (0, [.ref h4, .int 0, .int 0, .int 0])), (h4, .inl (k2, 1, .inl f0))] H := hP
    have hD : va_D A [(h0, .inr (9, [.int 0, .ref h1, .ref z0, .ref z1, .int 0, .int 0, .int 0])), (h1, .inl (k0, 4, .inr (.inr (.inr (.inr (va_up (va_up (va_up (va_up (fun _ => none) 0 (some ge5)) 1 (some ge5)) 2 (some ge5)) 3 (some ge5))))))), (h2, .inl (k1, 5, .inl (upd (upd (upd (upd (upd (fun _ => 0) 0 l1) 1 1) 2 l3) 3 l4) 4 l5))), (h3, .inr (0, [.ref h4, .int 0, .int 0, .int 0])), (h4, .inl (k2, 1, .inl f0))] := hD
    refine lv_if_ne (tgt := 77) hx hb dX5_type_70 (by decide) (fun _ => ?_) (fun c9 => absurd c9 (by decide))
    refine lv_iconst (v := 0) hx hb dX5_type_77 (by decide) ?_
    refine lv_ior hx hb dX5_type_78 ?_
    refine lv_topi (fun y101 ey101 => ?_)
    obtain rfl : y101 = 0 := ey101.trans (by decide)
    refine lv_istore (lv' := [(8, .int 0), (13, .int 1), (0, .ref h0), (1, .int rp), (7, .ref h2), (9, .ref h3), (10, .ref h2), (11, .int 5), (12, .int 1)]) hx hb dX5_type_79 hl (by decide) rfl (fun ls hl => ?_)
    refine lv_iload hx hb dX5_type_81 (lv_at hl 1 rfl) ?_
    refine lv_iconst (v := 0) hx hb dX5_type_83 (by decide) ?_
    refine lv_iconst (v := 3) hx hb dX5_type_84 (by decide) ?_
    have hPc := hP.sub (ws' := []) [] rfl
    have hDc := hD.sub (ws' := []) [] (by decide) rfl
    have hKc := hK.sub (tys' := []) [] rfl
    have hFc := va_free (wc := []) hD hS hA [] rfl
    refine va_calli (va_runS (As := [.int 1, .int 0, .int 3]) (rest := []) ⟨hx, hb, hml, hown, hts⟩ (kx_X5_isIn_10 l dC dI H.size) (cwS 3 hts gX5_type_X5_isIn rfl rfl rfl (by decide +kernel) ⟨Nat.le_of_ble_eq_true rfl, Nat.le_of_ble_eq_true rfl⟩) ⟨fun a U g mk q => by obtain ⟨q0, q1, qP, qK, qD⟩ := q; exact ⟨q0, q1, qP, va_K.moved (u := U) (U := U.calling g mk a) (Vm.Alike.refl U.vm) qK, qD⟩, fun U hU hW => ⟨rfl, by rw [hU], by rw [hU]; exact hPc, va_K.moved hW.alike hKc, hDc.weaken (fun _ _ _ _ => trivial)⟩⟩ rfl rfl hl.1 rfl (lv_room (Nat.le_of_ble_eq_true rfl)) dX5_type_85 ⟨Nat.le_of_ble_eq_true rfl, Nat.le_of_ble_eq_true rfl⟩) hS (fun q _ h => hFc q h) hFc (fun r9 u t H1 locs ht hvm hw hB hz1 hk1 hS => ?_)
    obtain rfl := hw
    obtain ⟨hP1, hK1, hD1⟩ := hB
    rw [ht] at hP1
    have hK1 := va_K.moved hvm.symm hK1
    obtain ⟨hP, hD⟩ := va_join (wr := [(h0, .inr (9, [.int 0, .ref h1, .ref z0, .ref z1, .int 0, .int 0, .int 0])), (h1, .inl (k0, 4, .inr (.inr (.inr (.inr (va_up (va_up (va_up (va_up (fun _ => none) 0 (some ge5)) 1 (some ge5)) 2 (some ge5)) 3 (some ge5))))))), (h2, .inl (k1, 5, .inl (upd (upd (upd (upd (upd (fun _ => 0) 0 l1) 1 1) 2 l3) 3 l4) 4 l5))), (h3, .inr (0, [.ref h4, .int 0, .int 0, .int 0])), (h4, .inl (k2, 1, .inl f0))]) (w1 := []) hP hD [] [0, 1, 2, 3, 4] rfl rfl (by decide) (by decide) hk1 hFc hP1 hD1
    generalize H1 = H at hP hS ⊢
    have hP : va_P (dC, dI) vwCl [(h0, .inr (9, [.int 0, .ref h1, .ref z0, .ref z1, .int 0, .int 0, .int 0])), (h1, .inl (k0, 4, .inr (.inr (.inr (.inr (va_up (va_up (va_up (va_up (fun _ => none) 0 (some ge5)) 1 (some ge5)) 2 (some ge5)) 3 (some ge5))))))), (h2, .inl (k1, 5, .inl (upd (upd (upd (upd (upd (fun _ => 0) 0 l1) 1 1) 2 l3) 3 l4) 4 l5))), (h3, .inr (0, [.ref h4, .int 0, .int 0, .int 0])), (h4, .inl (k2, 1, .inl f0))] H := hP
    have hD : va_D A [(h0, .inr (9, [.int 0, .ref h1, .ref z0, .ref z1, .int 0, .int 0, .int 0])), (h1, .inl (k0, 4, .inr (.inr (.inr (.inr (va_up (va_up (va_up (va_up (fun _ => none) 0 (some ge5)) 1 (some ge5)) 2 (some ge5)) 3 (some ge5))))))), (h2, .inl (k1, 5, .inl (upd (upd (upd (upd (upd (fun _ => 0) 0 l1) 1 1) 2 l3) 3 l4) 4 l5))), (h3, .inr (0, [.ref h4, .int 0, .int 0, .int 0])), (h4, .inl (k2, 1, .inl f0))] := hD
    refine lv_if_eq (tgt := 118) hx hb dX5_type_88 (by decide) (fun c9 => absurd c9 (by decide)) (fun _ => ?_)
    refine va_new (ci := 1) (fs := [.null, .int 0, .int 0, .int 0]) (C := RJ4) (T := TJ4) (N := 4) hx hb hts (by decide +kernel) tyJ4 tyJ4_ok hown (hts (.classLink RX5 49 RJ4) (by decide +kernel)) (hts (.instantiable RJ4 4) (by decide +kernel)) (hts (.initialized RJ4) (by decide +kernel)) hK hP hD hS hA rfl (fun j hj => by rcases (show j = 0 ∨ j = 1 ∨ j = 2 ∨ j = 3 by omega) with rfl | rfl | rfl | rfl <;> rfl) (Nat.le_of_ble_eq_true rfl) (Nat.le_of_ble_eq_true rfl) dX5_type_91 (fun q102 H hP hD hS => ?_)
    have hP : va_P (dC, dI) vwCl [(h0, .inr (9, [.int 0, .ref h1, .ref z0, .ref z1, .int 0, .int 0, .int 0])), (h1, .inl (k0, 4, .inr (.inr (.inr (.inr (va_up (va_up (va_up (va_up (fun _ => none) 0 (some ge5)) 1 (some ge5)) 2 (some ge5)) 3 (some ge5))))))), (h2, .inl (k1, 5, .inl (upd (upd (upd (upd (upd (fun _ => 0) 0 l1) 1 1) 2 l3) 3 l4) 4 l5))), (h3, .inr (0, [.ref h4, .int 0, .int 0, .int 0])), (h4, .inl (k2, 1, .inl f0)), (q102, .inr (1, [.null, .int 0, .int 0, .int 0]))] H := hP
    have hD : va_D A [(h0, .inr (9, [.int 0, .ref h1, .ref z0, .ref z1, .int 0, .int 0, .int 0])), (h1, .inl (k0, 4, .inr (.inr (.inr (.inr (va_up (va_up (va_up (va_up (fun _ => none) 0 (some ge5)) 1 (some ge5)) 2 (some ge5)) 3 (some ge5))))))), (h2, .inl (k1, 5, .inl (upd (upd (upd (upd (upd (fun _ => 0) 0 l1) 1 1) 2 l3) 3 l4) 4 l5))), (h3, .inr (0, [.ref h4, .int 0, .int 0, .int 0])), (h4, .inl (k2, 1, .inl f0)), (q102, .inr (1, [.null, .int 0, .int 0, .int 0]))] := hD
    refine W.widen (k := 6) (n := 34) (by omega) (by omega) ?_
    refine lv_dup hx hb dX5_type_94 rfl ?_
    have hPc := hP.sub (ws' := [(q102, .inr (1, [.null, .int 0, .int 0, .int 0]))]) [5] rfl
    have hDc := hD.sub (ws' := [(q102, .inr (1, [.null, .int 0, .int 0, .int 0]))]) [5] (by decide) rfl
    have hKc := hK.sub (tys' := []) [] rfl
    have hFc := va_free (wc := [(q102, .inr (1, [.null, .int 0, .int 0, .int 0]))]) hD hS hA [5] rfl
    refine va_callv (va_runI (As := []) (rest := [.ref q102]) ⟨hx, hb, hml, hown, hts⟩ (kx_J4_init_da8c8_0 l dC dI ge5 gea gv5 gva gde gic gi0 q102 H.size) (cwI 0 hts gX5_type_J4_init_da8c8 rfl rfl rfl (hts (.initialized RJ4) (by decide +kernel)) (hts (.methodLink RX5 51 yJ4_init_da8c8) (by decide +kernel)) (hts (.instanceMethod yJ4_init_da8c8) (by decide +kernel)) rfl (by decide +kernel) ⟨Nat.le_of_ble_eq_true rfl, Nat.le_of_ble_eq_true rfl⟩) ⟨fun a U g mk q => by obtain ⟨q0, q1, qP, qK, qD, qG⟩ := q; exact ⟨q0, q1, qP, va_K.moved (u := U) (U := U.calling g mk a) (Vm.Alike.refl U.vm) qK, qD, gv.fb qG⟩, fun U hU hW => ⟨rfl, by rw [hU], by rw [hU]; exact hPc, va_K.moved hW.alike hKc, hDc.weaken (fun _ _ _ _ => trivial), gv.pass hW hU hS hFc hG⟩⟩ rfl rfl hl.1 rfl (lv_room (Nat.le_of_ble_eq_true rfl)) dX5_type_95 ⟨Nat.le_of_ble_eq_true rfl, Nat.le_of_ble_eq_true rfl⟩) hS (fun q _ h => hFc q h) hFc (fun u t H1 locs ht hvm hw hB hz1 hk1 hS => ?_)
    obtain ⟨q103, cq104, hP1, hK1, hD1⟩ := hB
    rw [ht] at hP1
    have hK1 := va_K.moved hvm.symm hK1
    obtain ⟨hP, hD⟩ := va_join (wr := [(h0, .inr (9, [.int 0, .ref h1, .ref z0, .ref z1, .int 0, .int 0, .int 0])), (h1, .inl (k0, 4, .inr (.inr (.inr (.inr (va_up (va_up (va_up (va_up (fun _ => none) 0 (some ge5)) 1 (some ge5)) 2 (some ge5)) 3 (some ge5))))))), (h2, .inl (k1, 5, .inl (upd (upd (upd (upd (upd (fun _ => 0) 0 l1) 1 1) 2 l3) 3 l4) 4 l5))), (h3, .inr (0, [.ref h4, .int 0, .int 0, .int 0])), (h4, .inl (k2, 1, .inl f0))]) (w1 := [(q102, .inr (1, [.ref q103, .int 0, .int 0, .int 0])), (q103, .inl (cq104, 16, .inl (fun _ => 0)))]) hP hD [5] [0, 1, 2, 3, 4] rfl rfl (by decide) (by decide) hk1 hFc hP1 hD1
    have hK := hK.app (hK1.sub (tys' := [(cq104, .byte)]) [0] rfl)
    generalize H1 = H at hP hS ⊢
    have hK : va_K (dC, dI) vwCl [(k0, .object "java/lang/String"), (k1, .int), (k2, .byte), (cq104, .byte)] s := hK
    have hP : va_P (dC, dI) vwCl [(h0, .inr (9, [.int 0, .ref h1, .ref z0, .ref z1, .int 0, .int 0, .int 0])), (h1, .inl (k0, 4, .inr (.inr (.inr (.inr (va_up (va_up (va_up (va_up (fun _ => none) 0 (some ge5)) 1 (some ge5)) 2 (some ge5)) 3 (some ge5))))))), (h2, .inl (k1, 5, .inl (upd (upd (upd (upd (upd (fun _ => 0) 0 l1) 1 1) 2 l3) 3 l4) 4 l5))), (h3, .inr (0, [.ref h4, .int 0, .int 0, .int 0])), (h4, .inl (k2, 1, .inl f0)), (q102, .inr (1, [.ref q103, .int 0, .int 0, .int 0])), (q103, .inl (cq104, 16, .inl (fun _ => 0)))] H := hP
    have hD : va_D A [(h0, .inr (9, [.int 0, .ref h1, .ref z0, .ref z1, .int 0, .int 0, .int 0])), (h1, .inl (k0, 4, .inr (.inr (.inr (.inr (va_up (va_up (va_up (va_up (fun _ => none) 0 (some ge5)) 1 (some ge5)) 2 (some ge5)) 3 (some ge5))))))), (h2, .inl (k1, 5, .inl (upd (upd (upd (upd (upd (fun _ => 0) 0 l1) 1 1) 2 l3) 3 l4) 4 l5))), (h3, .inr (0, [.ref h4, .int 0, .int 0, .int 0])), (h4, .inl (k2, 1, .inl f0)), (q102, .inr (1, [.ref q103, .int 0, .int 0, .int 0])), (q103, .inl (cq104, 16, .inl (fun _ => 0)))] := hD
    refine W.widen (k := 7) (n := 50) (by omega) (by omega) ?_
    refine lv_aload hx hb dX5_type_98 (lv_at hl 5 rfl) ?_
    have hPc := hP.sub (ws' := [(h3, .inr (0, [.ref h4, .int 0, .int 0, .int 0])), (h4, .inl (k2, 1, .inl f0)), (q102, .inr (1, [.ref q103, .int 0, .int 0, .int 0])), (q103, .inl (cq104, 16, .inl (fun _ => 0)))]) [3, 4, 5, 6] rfl
    have hDc := hD.sub (ws' := [(h3, .inr (0, [.ref h4, .int 0, .int 0, .int 0])), (h4, .inl (k2, 1, .inl f0)), (q102, .inr (1, [.ref q103, .int 0, .int 0, .int 0])), (q103, .inl (cq104, 16, .inl (fun _ => 0)))]) [3, 4, 5, 6] (by decide) rfl
    have hKc := hK.sub (tys' := [(k2, .byte), (cq104, .byte)]) [2, 3] rfl
    have hFc := va_free (wc := [(h3, .inr (0, [.ref h4, .int 0, .int 0, .int 0])), (h4, .inl (k2, 1, .inl f0)), (q102, .inr (1, [.ref q103, .int 0, .int 0, .int 0])), (q103, .inl (cq104, 16, .inl (fun _ => 0)))]) hD hS hA [3, 4, 5, 6] rfl
    refine va_callr (va_runV (As := [.ref h3]) (rest := []) ⟨hx, hb, hml, hown, hts⟩ (kx_J4_append_15ec4_1 l dC dI ge5 gea gv5 gva gde gic gi0 h3 h4 q102 q103 k2 cq104 H.size f0 f0_t) (cwV 1 hts gX5_type_J4_append_15ec4 rfl rfl rfl (by decide +kernel) ⟨Nat.le_of_ble_eq_true rfl, Nat.le_of_ble_eq_true rfl⟩) ⟨fun a U g mk q => by obtain ⟨q0, q1, qP, qK, qD, qG⟩ := q; exact ⟨q0, q1, qP, va_K.moved (u := U) (U := U.calling g mk a) (Vm.Alike.refl U.vm) qK, qD, gv.fb qG⟩, va_recv hKc hPc (ci := 1) (q0 := 2) rfl rfl, fun U hU hW => ⟨rfl, by rw [hU], by rw [hU]; exact hPc, va_K.moved hW.alike hKc, hDc.weaken (fun _ _ _ _ => trivial), gv.pass hW hU hS hFc hG⟩⟩ rfl rfl hl.1 rfl (lv_room (Nat.le_of_ble_eq_true rfl)) dX5_type_100 ⟨Nat.le_of_ble_eq_true rfl, Nat.le_of_ble_eq_true rfl⟩) hS (fun q _ h => hFc q h) hFc (fun u ra t H1 locs ht hvm hw hB hz1 hk1 hS => ?_)
    obtain ⟨f105, f105_t, hra, hP1, hK1, hD1⟩ := hB
    rw [hra]
    rw [ht] at hP1
    have hK1 := va_K.moved hvm.symm hK1
    obtain ⟨hP, hD⟩ := va_join (wr := [(h0, .inr (9, [.int 0, .ref h1, .ref z0, .ref z1, .int 0, .int 0, .int 0])), (h1, .inl (k0, 4, .inr (.inr (.inr (.inr (va_up (va_up (va_up (va_up (fun _ => none) 0 (some ge5)) 1 (some ge5)) 2 (some ge5)) 3 (some ge5))))))), (h2, .inl (k1, 5, .inl (upd (upd (upd (upd (upd (fun _ => 0) 0 l1) 1 1) 2 l3) 3 l4) 4 l5)))]) (w1 := [(h3, .inr (0, [.ref h4, .int 0, .int 0, .int 0])), (h4, .inl (k2, 1, .inl f0)), (q102, .inr (1, [.ref q103, .int 0, .int 0, .int 1])), (q103, .inl (cq104, 16, .inl f105))]) hP hD [3, 4, 5, 6] [0, 1, 2] rfl rfl (by decide) (by decide) hk1 hFc hP1 hD1
    generalize H1 = H at hP hS ⊢
    have hP : va_P (dC, dI) vwCl [(h0, .inr (9, [.int 0, .ref h1, .ref z0, .ref z1, .int 0, .int 0, .int 0])), (h1, .inl (k0, 4, .inr (.inr (.inr (.inr (va_up (va_up (va_up (va_up (fun _ => none) 0 (some ge5)) 1 (some ge5)) 2 (some ge5)) 3 (some ge5))))))), (h2, .inl (k1, 5, .inl (upd (upd (upd (upd (upd (fun _ => 0) 0 l1) 1 1) 2 l3) 3 l4) 4 l5))), (h3, .inr (0, [.ref h4, .int 0, .int 0, .int 0])), (h4, .inl (k2, 1, .inl f0)), (q102, .inr (1, [.ref q103, .int 0, .int 0, .int 1])), (q103, .inl (cq104, 16, .inl f105))] H := hP
    have hD : va_D A [(h0, .inr (9, [.int 0, .ref h1, .ref z0, .ref z1, .int 0, .int 0, .int 0])), (h1, .inl (k0, 4, .inr (.inr (.inr (.inr (va_up (va_up (va_up (va_up (fun _ => none) 0 (some ge5)) 1 (some ge5)) 2 (some ge5)) 3 (some ge5))))))), (h2, .inl (k1, 5, .inl (upd (upd (upd (upd (upd (fun _ => 0) 0 l1) 1 1) 2 l3) 3 l4) 4 l5))), (h3, .inr (0, [.ref h4, .int 0, .int 0, .int 0])), (h4, .inl (k2, 1, .inl f0)), (q102, .inr (1, [.ref q103, .int 0, .int 0, .int 1])), (q103, .inl (cq104, 16, .inl f105))] := hD
    refine va_ldcS hx hb hown g_sa dX5_type_103 ?_
    refine lv_iload hx hb dX5_type_105 (lv_at hl 1 rfl) ?_
    have hPc := hP.sub (ws' := []) [] rfl
    have hDc := hD.sub (ws' := []) [] (by decide) rfl
    have hKc := hK.sub (tys' := []) [] rfl
    have hFc := va_free (wc := []) hD hS hA [] rfl
    refine va_calli (va_runV (As := [.int 1]) (rest := [.ref q102]) ⟨hx, hb, hml, hown, hts⟩ (kx_J0_charAt_5068e_1 l dC dI ge5 gea gv5 gva gde gic gi0 H.size) (cwV 1 hts gX5_type_J0_charAt_5068e rfl rfl rfl (by decide +kernel) ⟨Nat.le_of_ble_eq_true rfl, Nat.le_of_ble_eq_true rfl⟩) ⟨fun a U g mk q => by obtain ⟨q0, q1, qP, qK, qD, qG⟩ := q; exact ⟨q0, q1, qP, va_K.moved (u := U) (U := U.calling g mk a) (Vm.Alike.refl U.vm) qK, qD, gv.fb qG⟩, (by obtain ⟨cell, k1, k2, k3, -⟩ := g_oa.kept hS.2.1; exact ⟨cell, k1, k2, k3⟩), fun U hU hW => ⟨rfl, by rw [hU], by rw [hU]; exact hPc, va_K.moved hW.alike hKc, hDc.weaken (fun _ _ _ _ => trivial), gv.pass hW hU hS hFc hG⟩⟩ rfl rfl hl.1 rfl (lv_room (Nat.le_of_ble_eq_true rfl)) dX5_type_107 ⟨Nat.le_of_ble_eq_true rfl, Nat.le_of_ble_eq_true rfl⟩) hS (fun q _ h => hFc q h) hFc (fun r9 u t H1 locs ht hvm hw hB hz1 hk1 hS => ?_)
    obtain rfl := hw
    obtain ⟨hP1, hK1, hD1⟩ := hB
    rw [ht] at hP1
    have hK1 := va_K.moved hvm.symm hK1
    obtain ⟨hP, hD⟩ := va_join (wr := [(h0, .inr (9, [.int 0, .ref h1, .ref z0, .ref z1, .int 0, .int 0, .int 0])), (h1, .inl (k0, 4, .inr (.inr (.inr (.inr (va_up (va_up (va_up (va_up (fun _ => none) 0 (some ge5)) 1 (some ge5)) 2 (some ge5)) 3 (some ge5))))))), (h2, .inl (k1, 5, .inl (upd (upd (upd (upd (upd (fun _ => 0) 0 l1) 1 1) 2 l3) 3 l4) 4 l5))), (h3, .inr (0, [.ref h4, .int 0, .int 0, .int 0])), (h4, .inl (k2, 1, .inl f0)), (q102, .inr (1, [.ref q103, .int 0, .int 0, .int 1])), (q103, .inl (cq104, 16, .inl f105))]) (w1 := []) hP hD [] [0, 1, 2, 3, 4, 5, 6] rfl rfl (by decide) (by decide) hk1 hFc hP1 hD1
    generalize H1 = H at hP hS ⊢
    have hP : va_P (dC, dI) vwCl [(h0, .inr (9, [.int 0, .ref h1, .ref z0, .ref z1, .int 0, .int 0, .int 0])), (h1, .inl (k0, 4, .inr (.inr (.inr (.inr (va_up (va_up (va_up (va_up (fun _ => none) 0 (some ge5)) 1 (some ge5)) 2 (some ge5)) 3 (some ge5))))))), (h2, .inl (k1, 5, .inl (upd (upd (upd (upd (upd (fun _ => 0) 0 l1) 1 1) 2 l3) 3 l4) 4 l5))), (h3, .inr (0, [.ref h4, .int 0, .int 0, .int 0])), (h4, .inl (k2, 1, .inl f0)), (q102, .inr (1, [.ref q103, .int 0, .int 0, .int 1])), (q103, .inl (cq104, 16, .inl f105))] H := hP
    have hD : va_D A [(h0, .inr (9, [.int 0, .ref h1, .ref z0, .ref z1, .int 0, .int 0, .int 0])), (h1, .inl (k0, 4, .inr (.inr (.inr (.inr (va_up (va_up (va_up (va_up (fun _ => none) 0 (some ge5)) 1 (some ge5)) 2 (some ge5)) 3 (some ge5))))))), (h2, .inl (k1, 5, .inl (upd (upd (upd (upd (upd (fun _ => 0) 0 l1) 1 1) 2 l3) 3 l4) 4 l5))), (h3, .inr (0, [.ref h4, .int 0, .int 0, .int 0])), (h4, .inl (k2, 1, .inl f0)), (q102, .inr (1, [.ref q103, .int 0, .int 0, .int 1])), (q103, .inl (cq104, 16, .inl f105))] := hD
    have hPc := hP.sub (ws' := [(q102, .inr (1, [.ref q103, .int 0, .int 0, .int 1])), (q103, .inl (cq104, 16, .inl f105))]) [5, 6] rfl
    have hDc := hD.sub (ws' := [(q102, .inr (1, [.ref q103, .int 0, .int 0, .int 1])), (q103, .inl (cq104, 16, .inl f105))]) [5, 6] (by decide) rfl
    have hKc := hK.sub (tys' := [(cq104, .byte)]) [3] rfl
    have hFc := va_free (wc := [(q102, .inr (1, [.ref q103, .int 0, .int 0, .int 1])), (q103, .inl (cq104, 16, .inl f105))]) hD hS hA [5, 6] rfl
    refine va_callr (va_runV (As := [.int 98]) (rest := []) ⟨hx, hb, hml, hown, hts⟩ (kx_J4_append_cf468_5 l dC dI ge5 gea gv5 gva gde gic gi0 q102 q103 cq104 H.size f105 f105_t) (cwV 1 hts gX5_type_J4_append_cf468 rfl rfl rfl (by decide +kernel) ⟨Nat.le_of_ble_eq_true rfl, Nat.le_of_ble_eq_true rfl⟩) ⟨fun a U g mk q => by obtain ⟨q0, q1, qP, qK, qD, qG⟩ := q; exact ⟨q0, q1, qP, va_K.moved (u := U) (U := U.calling g mk a) (Vm.Alike.refl U.vm) qK, qD, gv.fb qG⟩, va_recv hKc hPc (ci := 1) (q0 := 0) rfl rfl, fun U hU hW => ⟨rfl, by rw [hU], by rw [hU]; exact hPc, va_K.moved hW.alike hKc, hDc.weaken (fun _ _ _ _ => trivial), gv.pass hW hU hS hFc hG⟩⟩ rfl rfl hl.1 rfl (lv_room (Nat.le_of_ble_eq_true rfl)) dX5_type_110 ⟨Nat.le_of_ble_eq_true rfl, Nat.le_of_ble_eq_true rfl⟩) hS (fun q _ h => hFc q h) hFc (fun u ra t H1 locs ht hvm hw hB hz1 hk1 hS => ?_)
    obtain ⟨f106, f106_t, hra, hP1, hK1, hD1⟩ := hB
    rw [hra]
    rw [ht] at hP1
    have hK1 := va_K.moved hvm.symm hK1
    obtain ⟨hP, hD⟩ := va_join (wr := [(h0, .inr (9, [.int 0, .ref h1, .ref z0, .ref z1, .int 0, .int 0, .int 0])), (h1, .inl (k0, 4, .inr (.inr (.inr (.inr (va_up (va_up (va_up (va_up (fun _ => none) 0 (some ge5)) 1 (some ge5)) 2 (some ge5)) 3 (some ge5))))))), (h2, .inl (k1, 5, .inl (upd (upd (upd (upd (upd (fun _ => 0) 0 l1) 1 1) 2 l3) 3 l4) 4 l5))), (h3, .inr (0, [.ref h4, .int 0, .int 0, .int 0])), (h4, .inl (k2, 1, .inl f0))]) (w1 := [(q102, .inr (1, [.ref q103, .int 0, .int 0, .int 2])), (q103, .inl (cq104, 16, .inl f106))]) hP hD [5, 6] [0, 1, 2, 3, 4] rfl rfl (by decide) (by decide) hk1 hFc hP1 hD1
    generalize H1 = H at hP hS ⊢
    have hP : va_P (dC, dI) vwCl [(h0, .inr (9, [.int 0, .ref h1, .ref z0, .ref z1, .int 0, .int 0, .int 0])), (h1, .inl (k0, 4, .inr (.inr (.inr (.inr (va_up (va_up (va_up (va_up (fun _ => none) 0 (some ge5)) 1 (some ge5)) 2 (some ge5)) 3 (some ge5))))))), (h2, .inl (k1, 5, .inl (upd (upd (upd (upd (upd (fun _ => 0) 0 l1) 1 1) 2 l3) 3 l4) 4 l5))), (h3, .inr (0, [.ref h4, .int 0, .int 0, .int 0])), (h4, .inl (k2, 1, .inl f0)), (q102, .inr (1, [.ref q103, .int 0, .int 0, .int 2])), (q103, .inl (cq104, 16, .inl f106))] H := hP
    have hD : va_D A [(h0, .inr (9, [.int 0, .ref h1, .ref z0, .ref z1, .int 0, .int 0, .int 0])), (h1, .inl (k0, 4, .inr (.inr (.inr (.inr (va_up (va_up (va_up (va_up (fun _ => none) 0 (some ge5)) 1 (some ge5)) 2 (some ge5)) 3 (some ge5))))))), (h2, .inl (k1, 5, .inl (upd (upd (upd (upd (upd (fun _ => 0) 0 l1) 1 1) 2 l3) 3 l4) 4 l5))), (h3, .inr (0, [.ref h4, .int 0, .int 0, .int 0])), (h4, .inl (k2, 1, .inl f0)), (q102, .inr (1, [.ref q103, .int 0, .int 0, .int 2])), (q103, .inl (cq104, 16, .inl f106))] := hD
    have hPc := hP.sub (ws' := [(q102, .inr (1, [.ref q103, .int 0, .int 0, .int 2])), (q103, .inl (cq104, 16, .inl f106))]) [5, 6] rfl
    have hDc := hD.sub (ws' := [(q102, .inr (1, [.ref q103, .int 0, .int 0, .int 2])), (q103, .inl (cq104, 16, .inl f106))]) [5, 6] (by decide) rfl
    have hKc := hK.sub (tys' := [(cq104, .byte)]) [3] rfl
    have hFc := va_free (wc := [(q102, .inr (1, [.ref q103, .int 0, .int 0, .int 2])), (q103, .inl (cq104, 16, .inl f106))]) hD hS hA [5, 6] rfl
    refine va_callr (va_runV (As := []) (rest := []) ⟨hx, hb, hml, hown, hts⟩ (kx_J4_toString_0e30d_2 l dC dI ge5 gea gv5 gva gde gic gi0 q102 q103 cq104 H.size f106 f106_t) (cwV 0 hts gX5_type_J4_toString_0e30d rfl rfl rfl (by decide +kernel) ⟨Nat.le_of_ble_eq_true rfl, Nat.le_of_ble_eq_true rfl⟩) ⟨fun a U g mk q => by obtain ⟨q0, q1, qP, qK, qD, qG⟩ := q; exact ⟨q0, q1, qP, va_K.moved (u := U) (U := U.calling g mk a) (Vm.Alike.refl U.vm) qK, qD, gv.fb qG⟩, va_recv hKc hPc (ci := 1) (q0 := 0) rfl rfl, fun U hU hW => ⟨rfl, by rw [hU], by rw [hU]; exact hPc, va_K.moved hW.alike hKc, hDc.weaken (fun _ _ _ _ => trivial), gv.pass hW hU hS hFc hG⟩⟩ rfl rfl hl.1 rfl (lv_room (Nat.le_of_ble_eq_true rfl)) dX5_type_113 ⟨Nat.le_of_ble_eq_true rfl, Nat.le_of_ble_eq_true rfl⟩) hS (fun q _ h => hFc q h) hFc (fun u ra t H1 locs ht hvm hw hB hz1 hk1 hS => ?_)
    obtain ⟨q107, q108, cq109, f110, f110_t, hra, hP1, hK1, hD1⟩ := hB
    rw [hra]
    rw [ht] at hP1
    have hK1 := va_K.moved hvm.symm hK1
    obtain ⟨hP, hD⟩ := va_join (wr := [(h0, .inr (9, [.int 0, .ref h1, .ref z0, .ref z1, .int 0, .int 0, .int 0])), (h1, .inl (k0, 4, .inr (.inr (.inr (.inr (va_up (va_up (va_up (va_up (fun _ => none) 0 (some ge5)) 1 (some ge5)) 2 (some ge5)) 3 (some ge5))))))), (h2, .inl (k1, 5, .inl (upd (upd (upd (upd (upd (fun _ => 0) 0 l1) 1 1) 2 l3) 3 l4) 4 l5))), (h3, .inr (0, [.ref h4, .int 0, .int 0, .int 0])), (h4, .inl (k2, 1, .inl f0))]) (w1 := [(q102, .inr (1, [.ref q103, .int 0, .int 0, .int 2])), (q103, .inl (cq104, 16, .inl f106)), (q107, .inr (0, [.ref q108, .int 0, .int 0, .int 0])), (q108, .inl (cq109, 2, .inl f110))]) hP hD [5, 6] [0, 1, 2, 3, 4] rfl rfl (by decide) (by decide) hk1 hFc hP1 hD1
    have hK := hK.app (hK1.sub (tys' := [(cq109, .byte)]) [1] rfl)
    generalize H1 = H at hP hS ⊢
    have hK : va_K (dC, dI) vwCl [(k0, .object "java/lang/String"), (k1, .int), (k2, .byte), (cq104, .byte), (cq109, .byte)] s := hK
    have hP : va_P (dC, dI) vwCl [(h0, .inr (9, [.int 0, .ref h1, .ref z0, .ref z1, .int 0, .int 0, .int 0])), (h1, .inl (k0, 4, .inr (.inr (.inr (.inr (va_up (va_up (va_up (va_up (fun _ => none) 0 (some ge5)) 1 (some ge5)) 2 (some ge5)) 3 (some ge5))))))), (h2, .inl (k1, 5, .inl (upd (upd (upd (upd (upd (fun _ => 0) 0 l1) 1 1) 2 l3) 3 l4) 4 l5))), (h3, .inr (0, [.ref h4, .int 0, .int 0, .int 0])), (h4, .inl (k2, 1, .inl f0)), (q102, .inr (1, [.ref q103, .int 0, .int 0, .int 2])), (q103, .inl (cq104, 16, .inl f106)), (q107, .inr (0, [.ref q108, .int 0, .int 0, .int 0])), (q108, .inl (cq109, 2, .inl f110))] H := hP
    have hD : va_D A [(h0, .inr (9, [.int 0, .ref h1, .ref z0, .ref z1, .int 0, .int 0, .int 0])), (h1, .inl (k0, 4, .inr (.inr (.inr (.inr (va_up (va_up (va_up (va_up (fun _ => none) 0 (some ge5)) 1 (some ge5)) 2 (some ge5)) 3 (some ge5))))))), (h2, .inl (k1, 5, .inl (upd (upd (upd (upd (upd (fun _ => 0) 0 l1) 1 1) 2 l3) 3 l4) 4 l5))), (h3, .inr (0, [.ref h4, .int 0, .int 0, .int 0])), (h4, .inl (k2, 1, .inl f0)), (q102, .inr (1, [.ref q103, .int 0, .int 0, .int 2])), (q103, .inl (cq104, 16, .inl f106)), (q107, .inr (0, [.ref q108, .int 0, .int 0, .int 0])), (q108, .inl (cq109, 2, .inl f110))] := hD
    refine W.widen (k := 9) (n := 56) (by omega) (by omega) ?_
    refine lv_astore (lv' := [(9, .ref q107), (8, .int 0), (13, .int 1), (0, .ref h0), (1, .int rp), (7, .ref h2), (10, .ref h2), (11, .int 5), (12, .int 1)]) hx hb dX5_type_116 hl (by decide) rfl (fun ls hl => ?_)
    refine lv_iinc (v := 2) (lv' := [(12, .int 2), (9, .ref q107), (8, .int 0), (13, .int 1), (0, .ref h0), (1, .int rp), (7, .ref h2), (10, .ref h2), (11, .int 5)]) hx hb dX5_type_118 hl (k := 8) rfl (by decide) (by decide) rfl (fun ls hl => ?_)
    refine lv_goto (tgt := 47) hx hb dX5_type_121 (by decide) ?_
    have hP := hP.sub (ws' := [(h0, .inr (9, [.int 0, .ref h1, .ref z0, .ref z1, .int 0, .int 0, .int 0])), (h1, .inl (k0, 4, .inr (.inr (.inr (.inr (va_up (va_up (va_up (va_up (fun _ => none) 0 (some ge5)) 1 (some ge5)) 2 (some ge5)) 3 (some ge5))))))), (h2, .inl (k1, 5, .inl (upd (upd (upd (upd (upd (fun _ => 0) 0 l1) 1 1) 2 l3) 3 l4) 4 l5))), (q107, .inr (0, [.ref q108, .int 0, .int 0, .int 0])), (q108, .inl (cq109, 2, .inl f110))]) [0, 1, 2, 7, 8] rfl
    have hD := hD.sub (ws' := [(h0, .inr (9, [.int 0, .ref h1, .ref z0, .ref z1, .int 0, .int 0, .int 0])), (h1, .inl (k0, 4, .inr (.inr (.inr (.inr (va_up (va_up (va_up (va_up (fun _ => none) 0 (some ge5)) 1 (some ge5)) 2 (some ge5)) 3 (some ge5))))))), (h2, .inl (k1, 5, .inl (upd (upd (upd (upd (upd (fun _ => 0) 0 l1) 1 1) 2 l3) 3 l4) 4 l5))), (q107, .inr (0, [.ref q108, .int 0, .int 0, .int 0])), (q108, .inl (cq109, 2, .inl f110))]) [0, 1, 2, 7, 8] (by decide) rfl
    have hK := hK.sub (tys' := [(k0, .object "java/lang/String"), (k1, .int), (cq109, .byte)]) [0, 1, 4] rfl
    have hl := lv_sub hl [4, 5, 6, 2, 1, 7, 8, 0] (show lv_pick [(12, .int 2), (9, .ref q107), (8, .int 0), (13, .int 1), (0, .ref h0), (1, .int rp), (7, .ref h2), (10, .ref h2), (11, .int 5)] [4, 5, 6, 2, 1, 7, 8, 0] = [(0, .ref h0), (1, .int rp), (7, .ref h2), (8, .int 0), (9, .ref q107), (10, .ref h2), (11, .int 5), (12, .int 2)] from rfl)
    exact kx_X5_type_h220 f110_t hR hx hb hr hml hown hts hlocks hA hG hS hK hP hD hl
  · have hR : kz_ty rp 2 0 [l3, l4, l5] = (R, v) := (kz_ty_g (by decide) (by decide)).symm.trans hR
    refine lv_iload hx hb dX5_type_47 (lv_at hl 7 rfl) ?_
    refine lv_iload hx hb dX5_type_49 (lv_at hl 6 rfl) ?_
    refine lv_icmp_ge (tgt := 124) hx hb dX5_type_51 (by decide) (fun c9 => absurd c9 (by decide)) (fun _ => ?_)
    refine lv_aload hx hb dX5_type_54 (lv_at hl 5 rfl) ?_
    refine lv_iload hx hb dX5_type_56 (lv_at hl 7 rfl) ?_
    refine va_iald (D := (dC, dI)) hx hb hK hP 2 1 rfl rfl (by unfold vp_in; decide) dX5_type_58 ?_
    refine W.eq (g2 := F0 m 59 ls [.int 2]) rfl ?_
    refine lv_istore (lv' := [(13, .int 2), (0, .ref h0), (1, .int rp), (7, .ref h2), (8, .int 0), (9, .ref h3), (10, .ref h2), (11, .int 5), (12, .int 1)]) hx hb dX5_type_59 hl (by decide) rfl (fun ls hl => ?_)
    refine lv_iload hx hb dX5_type_61 (lv_at hl 4 rfl) ?_
    refine lv_iload hx hb dX5_type_63 (lv_at hl 0 rfl) ?_
    refine lv_iconst (v := (-1)) hx hb dX5_type_65 (by decide) ?_
    refine lv_iconst (v := 3) hx hb dX5_type_66 (by decide) ?_
    have hPc := hP.sub (ws' := []) [] rfl
    have hDc := hD.sub (ws' := []) [] (by decide) rfl
    have hKc := hK.sub (tys' := []) [] rfl
    have hFc := va_free (wc := []) hD hS hA [] rfl
    refine va_calli (va_runS (As := [.int 2, .int (-1), .int 3]) (rest := [.int 0]) ⟨hx, hb, hml, hown, hts⟩ (kx_X5_isIn_11 l dC dI H.size) (cwS 3 hts gX5_type_X5_isIn rfl rfl rfl (by decide +kernel) ⟨Nat.le_of_ble_eq_true rfl, Nat.le_of_ble_eq_true rfl⟩) ⟨fun a U g mk q => by obtain ⟨q0, q1, qP, qK, qD⟩ := q; exact ⟨q0, q1, qP, va_K.moved (u := U) (U := U.calling g mk a) (Vm.Alike.refl U.vm) qK, qD⟩, fun U hU hW => ⟨rfl, by rw [hU], by rw [hU]; exact hPc, va_K.moved hW.alike hKc, hDc.weaken (fun _ _ _ _ => trivial)⟩⟩ rfl rfl hl.1 rfl (lv_room (Nat.le_of_ble_eq_true rfl)) dX5_type_67 ⟨Nat.le_of_ble_eq_true rfl, Nat.le_of_ble_eq_true rfl⟩) hS (fun q _ h => hFc q h) hFc (fun r9 u t H1 locs ht hvm hw hB hz1 hk1 hS => ?_)
    obtain rfl := hw
    obtain ⟨hP1, hK1, hD1⟩ := hB
    rw [ht] at hP1
    have hK1 := va_K.moved hvm.symm hK1
    obtain ⟨hP, hD⟩ := va_join (wr := [(h0, .inr (9, [.int 0, .ref h1, .ref z0, .ref z1, .int 0, .int 0, .int 0])), (h1, .inl (k0, 4, .inr (.inr (.inr (.inr (va_up (va_up (va_up (va_up (fun _ => none) 0 (some ge5)) 1 (some ge5)) 2 (some ge5)) 3 (some ge5))))))), (h2, .inl (k1, 5, .inl (upd (upd (upd (upd (upd (fun _ => 0) 0 l1) 1 2) 2 l3) 3 l4) 4 l5))), (h3, .inr (0, [.ref h4, .int 0, .int 0, .int 0])), (h4, .inl (k2, 1, .inl f0))]) (w1 := []) hP hD [] [0, 1, 2, 3, 4] rfl rfl (by decide) (by decide) hk1 hFc hP1 hD1
    generalize H1 = H at hP hS ⊢
    have hP : va_P (dC, dI) vwCl [(h0, .inr (9, [.int 0, .ref h1, .ref z0, .ref z1, .int 0, .int 0, .int 0])), (h1, .inl (k0, 4, .inr (.inr (.inr (.inr (va_up (va_up (va_up (va_up (fun _ => none) 0 (some ge5)) 1 (some ge5)) 2 (some ge5)) 3 (some ge5))))))), (h2, .inl (k1, 5, .inl (upd (upd (upd (upd (upd (fun _ => 0) 0 l1) 1 2) 2 l3) 3 l4) 4 l5))), (h3, .inr (0, [.ref h4, .int 0, .int 0, .int 0])), (h4, .inl (k2, 1, .inl f0))] H := hP
    have hD : va_D A [(h0, .inr (9, [.int 0, .ref h1, .ref z0, .ref z1, .int 0, .int 0, .int 0])), (h1, .inl (k0, 4, .inr (.inr (.inr (.inr (va_up (va_up (va_up (va_up (fun _ => none) 0 (some ge5)) 1 (some ge5)) 2 (some ge5)) 3 (some ge5))))))), (h2, .inl (k1, 5, .inl (upd (upd (upd (upd (upd (fun _ => 0) 0 l1) 1 2) 2 l3) 3 l4) 4 l5))), (h3, .inr (0, [.ref h4, .int 0, .int 0, .int 0])), (h4, .inl (k2, 1, .inl f0))] := hD
    refine lv_if_ne (tgt := 77) hx hb dX5_type_70 (by decide) (fun _ => ?_) (fun c9 => absurd c9 (by decide))
    refine lv_iconst (v := 0) hx hb dX5_type_77 (by decide) ?_
    refine lv_ior hx hb dX5_type_78 ?_
    refine lv_topi (fun y101 ey101 => ?_)
    obtain rfl : y101 = 0 := ey101.trans (by decide)
    refine lv_istore (lv' := [(8, .int 0), (13, .int 2), (0, .ref h0), (1, .int rp), (7, .ref h2), (9, .ref h3), (10, .ref h2), (11, .int 5), (12, .int 1)]) hx hb dX5_type_79 hl (by decide) rfl (fun ls hl => ?_)
    refine lv_iload hx hb dX5_type_81 (lv_at hl 1 rfl) ?_
    refine lv_iconst (v := 0) hx hb dX5_type_83 (by decide) ?_
    refine lv_iconst (v := 3) hx hb dX5_type_84 (by decide) ?_
    have hPc := hP.sub (ws' := []) [] rfl
    have hDc := hD.sub (ws' := []) [] (by decide) rfl
    have hKc := hK.sub (tys' := []) [] rfl
    have hFc := va_free (wc := []) hD hS hA [] rfl
    refine va_calli (va_runS (As := [.int 2, .int 0, .int 3]) (rest := []) ⟨hx, hb, hml, hown, hts⟩ (kx_X5_isIn_12 l dC dI H.size) (cwS 3 hts gX5_type_X5_isIn rfl rfl rfl (by decide +kernel) ⟨Nat.le_of_ble_eq_true rfl, Nat.le_of_ble_eq_true rfl⟩) ⟨fun a U g mk q => by obtain ⟨q0, q1, qP, qK, qD⟩ := q; exact ⟨q0, q1, qP, va_K.moved (u := U) (U := U.calling g mk a) (Vm.Alike.refl U.vm) qK, qD⟩, fun U hU hW => ⟨rfl, by rw [hU], by rw [hU]; exact hPc, va_K.moved hW.alike hKc, hDc.weaken (fun _ _ _ _ => trivial)⟩⟩ rfl rfl hl.1 rfl (lv_room (Nat.le_of_ble_eq_true rfl)) dX5_type_85 ⟨Nat.le_of_ble_eq_true rfl, Nat.le_of_ble_eq_true rfl⟩) hS (fun q _ h => hFc q h) hFc (fun r9 u t H1 locs ht hvm hw hB hz1 hk1 hS => ?_)
    obtain rfl := hw
    obtain ⟨hP1, hK1, hD1⟩ := hB
    rw [ht] at hP1
    have hK1 := va_K.moved hvm.symm hK1
    obtain ⟨hP, hD⟩ := va_join (wr := [(h0, .inr (9, [.int 0, .ref h1, .ref z0, .ref z1, .int 0, .int 0, .int 0])), (h1, .inl (k0, 4, .inr (.inr (.inr (.inr (va_up (va_up (va_up (va_up (fun _ => none) 0 (some ge5)) 1 (some ge5)) 2 (some ge5)) 3 (some ge5))))))), (h2, .inl (k1, 5, .inl (upd (upd (upd (upd (upd (fun _ => 0) 0 l1) 1 2) 2 l3) 3 l4) 4 l5))), (h3, .inr (0, [.ref h4, .int 0, .int 0, .int 0])), (h4, .inl (k2, 1, .inl f0))]) (w1 := []) hP hD [] [0, 1, 2, 3, 4] rfl rfl (by decide) (by decide) hk1 hFc hP1 hD1
    generalize H1 = H at hP hS ⊢
    have hP : va_P (dC, dI) vwCl [(h0, .inr (9, [.int 0, .ref h1, .ref z0, .ref z1, .int 0, .int 0, .int 0])), (h1, .inl (k0, 4, .inr (.inr (.inr (.inr (va_up (va_up (va_up (va_up (fun _ => none) 0 (some ge5)) 1 (some ge5)) 2 (some ge5)) 3 (some ge5))))))), (h2, .inl (k1, 5, .inl (upd (upd (upd (upd (upd (fun _ => 0) 0 l1) 1 2) 2 l3) 3 l4) 4 l5))), (h3, .inr (0, [.ref h4, .int 0, .int 0, .int 0])), (h4, .inl (k2, 1, .inl f0))] H := hP
    have hD : va_D A [(h0, .inr (9, [.int 0, .ref h1, .ref z0, .ref z1, .int 0, .int 0, .int 0])), (h1, .inl (k0, 4, .inr (.inr (.inr (.inr (va_up (va_up (va_up (va_up (fun _ => none) 0 (some ge5)) 1 (some ge5)) 2 (some ge5)) 3 (some ge5))))))), (h2, .inl (k1, 5, .inl (upd (upd (upd (upd (upd (fun _ => 0) 0 l1) 1 2) 2 l3) 3 l4) 4 l5))), (h3, .inr (0, [.ref h4, .int 0, .int 0, .int 0])), (h4, .inl (k2, 1, .inl f0))] := hD
    refine lv_if_eq (tgt := 118) hx hb dX5_type_88 (by decide) (fun c9 => absurd c9 (by decide)) (fun _ => ?_)
    refine va_new (ci := 1) (fs := [.null, .int 0, .int 0, .int 0]) (C := RJ4) (T := TJ4) (N := 4) hx hb hts (by decide +kernel) tyJ4 tyJ4_ok hown (hts (.classLink RX5 49 RJ4) (by decide +kernel)) (hts (.instantiable RJ4 4) (by decide +kernel)) (hts (.initialized RJ4) (by decide +kernel)) hK hP hD hS hA rfl (fun j hj => by rcases (show j = 0 ∨ j = 1 ∨ j = 2 ∨ j = 3 by omega) with rfl | rfl | rfl | rfl <;> rfl) (Nat.le_of_ble_eq_true rfl) (Nat.le_of_ble_eq_true rfl) dX5_type_91 (fun q102 H hP hD hS => ?_)
    have hP : va_P (dC, dI) vwCl [(h0, .inr (9, [.int 0, .ref h1, .ref z0, .ref z1, .int 0, .int 0, .int 0])), (h1, .inl (k0, 4, .inr (.inr (.inr (.inr (va_up (va_up (va_up (va_up (fun _ => none) 0 (some ge5)) 1 (some ge5)) 2 (some ge5)) 3 (some ge5))))))), (h2, .inl (k1, 5, .inl (upd (upd (upd (upd (upd (fun _ => 0) 0 l1) 1 2) 2 l3) 3 l4) 4 l5))), (h3, .inr (0, [.ref h4, .int 0, .int 0, .int 0])), (h4, .inl (k2, 1, .inl f0)), (q102, .inr (1, [.null, .int 0, .int 0, .int 0]))] H := hP
    have hD : va_D A [(h0, .inr (9, [.int 0, .ref h1, .ref z0, .ref z1, .int 0, .int 0, .int 0])), (h1, .inl (k0, 4, .inr (.inr (.inr (.inr (va_up (va_up (va_up (va_up (fun _ => none) 0 (some ge5)) 1 (some ge5)) 2 (some ge5)) 3 (some ge5))))))), (h2, .inl (k1, 5, .inl (upd (upd (upd (upd (upd (fun _ => 0) 0 l1) 1 2) 2 l3) 3 l4) 4 l5))), (h3, .inr (0, [.ref h4, .int 0, .int 0, .int 0])), (h4, .inl (k2, 1, .inl f0)), (q102, .inr (1, [.null, .int 0, .int 0, .int 0]))] := hD
    refine W.widen (k := 6) (n := 34) (by omega) (by omega) ?_
    refine lv_dup hx hb dX5_type_94 rfl ?_
    have hPc := hP.sub (ws' := [(q102, .inr (1, [.null, .int 0, .int 0, .int 0]))]) [5] rfl
    have hDc := hD.sub (ws' := [(q102, .inr (1, [.null, .int 0, .int 0, .int 0]))]) [5] (by decide) rfl
    have hKc := hK.sub (tys' := []) [] rfl
    have hFc := va_free (wc := [(q102, .inr (1, [.null, .int 0, .int 0, .int 0]))]) hD hS hA [5] rfl
    refine va_callv (va_runI (As := []) (rest := [.ref q102]) ⟨hx, hb, hml, hown, hts⟩ (kx_J4_init_da8c8_0 l dC dI ge5 gea gv5 gva gde gic gi0 q102 H.size) (cwI 0 hts gX5_type_J4_init_da8c8 rfl rfl rfl (hts (.initialized RJ4) (by decide +kernel)) (hts (.methodLink RX5 51 yJ4_init_da8c8) (by decide +kernel)) (hts (.instanceMethod yJ4_init_da8c8) (by decide +kernel)) rfl (by decide +kernel) ⟨Nat.le_of_ble_eq_true rfl, Nat.le_of_ble_eq_true rfl⟩) ⟨fun a U g mk q => by obtain ⟨q0, q1, qP, qK, qD, qG⟩ := q; exact ⟨q0, q1, qP, va_K.moved (u := U) (U := U.calling g mk a) (Vm.Alike.refl U.vm) qK, qD, gv.fb qG⟩, fun U hU hW => ⟨rfl, by rw [hU], by rw [hU]; exact hPc, va_K.moved hW.alike hKc, hDc.weaken (fun _ _ _ _ => trivial), gv.pass hW hU hS hFc hG⟩⟩ rfl rfl hl.1 rfl (lv_room (Nat.le_of_ble_eq_true rfl)) dX5_type_95 ⟨Nat.le_of_ble_eq_true rfl, Nat.le_of_ble_eq_true rfl⟩) hS (fun q _ h => hFc q h) hFc (fun u t H1 locs ht hvm hw hB hz1 hk1 hS => ?_)
    obtain ⟨q103, cq104, hP1, hK1, hD1⟩ := hB
    rw [ht] at hP1
    have hK1 := va_K.moved hvm.symm hK1
    obtain ⟨hP, hD⟩ := va_join (wr := [(h0, .inr (9, [.int 0, .ref h1, .ref z0, .ref z1, .int 0, .int 0, .int 0])), (h1, .inl (k0, 4, .inr (.inr (.inr (.inr (va_up (va_up (va_up (va_up (fun _ => none) 0 (some ge5)) 1 (some ge5)) 2 (some ge5)) 3 (some ge5))))))), (h2, .inl (k1, 5, .inl (upd (upd (upd (upd (upd (fun _ => 0) 0 l1) 1 2) 2 l3) 3 l4) 4 l5))), (h3, .inr (0, [.ref h4, .int 0, .int 0, .int 0])), (h4, .inl (k2, 1, .inl f0))]) (w1 := [(q102, .inr (1, [.ref q103, .int 0, .int 0, .int 0])), (q103, .inl (cq104, 16, .inl (fun _ => 0)))]) hP hD [5] [0, 1, 2, 3, 4] rfl rfl (by decide) (by decide) hk1 hFc hP1 hD1
    have hK := hK.app (hK1.sub (tys' := [(cq104, .byte)]) [0] rfl)
    generalize H1 = H at hP hS ⊢
    have hK : va_K (dC, dI) vwCl [(k0, .object "java/lang/String"), (k1, .int), (k2, .byte), (cq104, .byte)] s := hK
    have hP : va_P (dC, dI) vwCl [(h0, .inr (9, [.int 0, .ref h1, .ref z0, .ref z1, .int 0, .int 0, .int 0])), (h1, .inl (k0, 4, .inr (.inr (.inr (.inr (va_up (va_up (va_up (va_up (fun _ => none) 0 (some ge5)) 1 (some ge5)) 2 (some ge5)) 3 (some ge5))))))), (h2, .inl (k1, 5, .inl (upd (upd (upd (upd (upd (fun _ => 0) 0 l1) 1 2) 2 l3) 3 l4) 4 l5))), (h3, .inr (0, [.ref h4, .int 0, .int 0, .int 0])), (h4, .inl (k2, 1, .inl f0)), (q102, .inr (1, [.ref q103, .int 0, .int 0, .int 0])), (q103, .inl (cq104, 16, .inl (fun _ => 0)))] H := hP
    have hD : va_D A [(h0, .inr (9, [.int 0, .ref h1, .ref z0, .ref z1, .int 0, .int 0, .int 0])), (h1, .inl (k0, 4, .inr (.inr (.inr (.inr (va_up (va_up (va_up (va_up (fun _ => none) 0 (some ge5)) 1 (some ge5)) 2 (some ge5)) 3 (some ge5))))))), (h2, .inl (k1, 5, .inl (upd (upd (upd (upd (upd (fun _ => 0) 0 l1) 1 2) 2 l3) 3 l4) 4 l5))), (h3, .inr (0, [.ref h4, .int 0, .int 0, .int 0])), (h4, .inl (k2, 1, .inl f0)), (q102, .inr (1, [.ref q103, .int 0, .int 0, .int 0])), (q103, .inl (cq104, 16, .inl (fun _ => 0)))] := hD
    refine W.widen (k := 7) (n := 50) (by omega) (by omega) ?_
    refine lv_aload hx hb dX5_type_98 (lv_at hl 5 rfl) ?_
    have hPc := hP.sub (ws' := [(h3, .inr (0, [.ref h4, .int 0, .int 0, .int 0])), (h4, .inl (k2, 1, .inl f0)), (q102, .inr (1, [.ref q103, .int 0, .int 0, .int 0])), (q103, .inl (cq104, 16, .inl (fun _ => 0)))]) [3, 4, 5, 6] rfl
    have hDc := hD.sub (ws' := [(h3, .inr (0, [.ref h4, .int 0, .int 0, .int 0])), (h4, .inl (k2, 1, .inl f0)), (q102, .inr (1, [.ref q103, .int 0, .int 0, .int 0])), (q103, .inl (cq104, 16, .inl (fun _ => 0)))]) [3, 4, 5, 6] (by decide) rfl
    have hKc := hK.sub (tys' := [(k2, .byte), (cq104, .byte)]) [2, 3] rfl
    have hFc := va_free (wc := [(h3, .inr (0, [.ref h4, .int 0, .int 0, .int 0])), (h4, .inl (k2, 1, .inl f0)), (q102, .inr (1, [.ref q103, .int 0, .int 0, .int 0])), (q103, .inl (cq104, 16, .inl (fun _ => 0)))]) hD hS hA [3, 4, 5, 6] rfl
    refine va_callr (va_runV (As := [.ref h3]) (rest := []) ⟨hx, hb, hml, hown, hts⟩ (kx_J4_append_15ec4_1 l dC dI ge5 gea gv5 gva gde gic gi0 h3 h4 q102 q103 k2 cq104 H.size f0 f0_t) (cwV 1 hts gX5_type_J4_append_15ec4 rfl rfl rfl (by decide +kernel) ⟨Nat.le_of_ble_eq_true rfl, Nat.le_of_ble_eq_true rfl⟩) ⟨fun a U g mk q => by obtain ⟨q0, q1, qP, qK, qD, qG⟩ := q; exact ⟨q0, q1, qP, va_K.moved (u := U) (U := U.calling g mk a) (Vm.Alike.refl U.vm) qK, qD, gv.fb qG⟩, va_recv hKc hPc (ci := 1) (q0 := 2) rfl rfl, fun U hU hW => ⟨rfl, by rw [hU], by rw [hU]; exact hPc, va_K.moved hW.alike hKc, hDc.weaken (fun _ _ _ _ => trivial), gv.pass hW hU hS hFc hG⟩⟩ rfl rfl hl.1 rfl (lv_room (Nat.le_of_ble_eq_true rfl)) dX5_type_100 ⟨Nat.le_of_ble_eq_true rfl, Nat.le_of_ble_eq_true rfl⟩) hS (fun q _ h => hFc q h) hFc (fun u ra t H1 locs ht hvm hw hB hz1 hk1 hS => ?_)
    obtain ⟨f105, f105_t, hra, hP1, hK1, hD1⟩ := hB
    rw [hra]
    rw [ht] at hP1
    have hK1 := va_K.moved hvm.symm hK1
    obtain ⟨hP, hD⟩ := va_join (wr := [(h0, .inr (9, [.int 0, .ref h1, .ref z0, .ref z1, .int 0, .int 0, .int 0])), (h1, .inl (k0, 4, .inr (.inr (.inr (.inr (va_up (va_up (va_up (va_up (fun _ => none) 0 (some ge5)) 1 (some ge5)) 2 (some ge5)) 3 (some ge5))))))), (h2, .inl (k1, 5, .inl (upd (upd (upd (upd (upd (fun _ => 0) 0 l1) 1 2) 2 l3) 3 l4) 4 l5)))]) (w1 := [(h3, .inr (0, [.ref h4, .int 0, .int 0, .int 0])), (h4, .inl (k2, 1, .inl f0)), (q102, .inr (1, [.ref q103, .int 0, .int 0, .int 1])), (q103, .inl (cq104, 16, .inl f105))]) hP hD [3, 4, 5, 6] [0, 1, 2] rfl rfl (by decide) (by decide) hk1 hFc hP1 hD1
    generalize H1 = H at hP hS ⊢
    have hP : va_P (dC, dI) vwCl [(h0, .inr (9, [.int 0, .ref h1, .ref z0, .ref z1, .int 0, .int 0, .int 0])), (h1, .inl (k0, 4, .inr (.inr (.inr (.inr (va_up (va_up (va_up (va_up (fun _ => none) 0 (some ge5)) 1 (some ge5)) 2 (some ge5)) 3 (some ge5))))))), (h2, .inl (k1, 5, .inl (upd (upd (upd (upd (upd (fun _ => 0) 0 l1) 1 2) 2 l3) 3 l4) 4 l5))), (h3, .inr (0, [.ref h4, .int 0, .int 0, .int 0])), (h4, .inl (k2, 1, .inl f0)), (q102, .inr (1, [.ref q103, .int 0, .int 0, .int 1])), (q103, .inl (cq104, 16, .inl f105))] H := hP
    have hD : va_D A [(h0, .inr (9, [.int 0, .ref h1, .ref z0, .ref z1, .int 0, .int 0, .int 0])), (h1, .inl (k0, 4, .inr (.inr (.inr (.inr (va_up (va_up (va_up (va_up (fun _ => none) 0 (some ge5)) 1 (some ge5)) 2 (some ge5)) 3 (some ge5))))))), (h2, .inl (k1, 5, .inl (upd (upd (upd (upd (upd (fun _ => 0) 0 l1) 1 2) 2 l3) 3 l4) 4 l5))), (h3, .inr (0, [.ref h4, .int 0, .int 0, .int 0])), (h4, .inl (k2, 1, .inl f0)), (q102, .inr (1, [.ref q103, .int 0, .int 0, .int 1])), (q103, .inl (cq104, 16, .inl f105))] := hD
    refine va_ldcS hx hb hown g_sa dX5_type_103 ?_
    refine lv_iload hx hb dX5_type_105 (lv_at hl 1 rfl) ?_
    have hPc := hP.sub (ws' := []) [] rfl
    have hDc := hD.sub (ws' := []) [] (by decide) rfl
    have hKc := hK.sub (tys' := []) [] rfl
    have hFc := va_free (wc := []) hD hS hA [] rfl
    refine va_calli (va_runV (As := [.int 2]) (rest := [.ref q102]) ⟨hx, hb, hml, hown, hts⟩ (kx_J0_charAt_5068e_2 l dC dI ge5 gea gv5 gva gde gic gi0 H.size) (cwV 1 hts gX5_type_J0_charAt_5068e rfl rfl rfl (by decide +kernel) ⟨Nat.le_of_ble_eq_true rfl, Nat.le_of_ble_eq_true rfl⟩) ⟨fun a U g mk q => by obtain ⟨q0, q1, qP, qK, qD, qG⟩ := q; exact ⟨q0, q1, qP, va_K.moved (u := U) (U := U.calling g mk a) (Vm.Alike.refl U.vm) qK, qD, gv.fb qG⟩, (by obtain ⟨cell, k1, k2, k3, -⟩ := g_oa.kept hS.2.1; exact ⟨cell, k1, k2, k3⟩), fun U hU hW => ⟨rfl, by rw [hU], by rw [hU]; exact hPc, va_K.moved hW.alike hKc, hDc.weaken (fun _ _ _ _ => trivial), gv.pass hW hU hS hFc hG⟩⟩ rfl rfl hl.1 rfl (lv_room (Nat.le_of_ble_eq_true rfl)) dX5_type_107 ⟨Nat.le_of_ble_eq_true rfl, Nat.le_of_ble_eq_true rfl⟩) hS (fun q _ h => hFc q h) hFc (fun r9 u t H1 locs ht hvm hw hB hz1 hk1 hS => ?_)
    obtain rfl := hw
    obtain ⟨hP1, hK1, hD1⟩ := hB
    rw [ht] at hP1
    have hK1 := va_K.moved hvm.symm hK1
    obtain ⟨hP, hD⟩ := va_join (wr := [(h0, .inr (9, [.int 0, .ref h1, .ref z0, .ref z1, .int 0, .int 0, .int 0])), (h1, .inl (k0, 4, .inr (.inr (.inr (.inr (va_up (va_up (va_up (va_up (fun _ => none) 0 (some ge5)) 1 (some ge5)) 2 (some ge5)) 3 (some ge5))))))), (h2, .inl (k1, 5, .inl (upd (upd (upd (upd (upd (fun _ => 0) 0 l1) 1 2) 2 l3) 3 l4) 4 l5))), (h3, .inr (0, [.ref h4, .int 0, .int 0, .int 0])), (h4, .inl (k2, 1, .inl f0)), (q102, .inr (1, [.ref q103, .int 0, .int 0, .int 1])), (q103, .inl (cq104, 16, .inl f105))]) (w1 := []) hP hD [] [0, 1, 2, 3, 4, 5, 6] rfl rfl (by decide) (by decide) hk1 hFc hP1 hD1
    generalize H1 = H at hP hS ⊢
    have hP : va_P (dC, dI) vwCl [(h0, .inr (9, [.int 0, .ref h1, .ref z0, .ref z1, .int 0, .int 0, .int 0])), (h1, .inl (k0, 4, .inr (.inr (.inr (.inr (va_up (va_up (va_up (va_up (fun _ => none) 0 (some ge5)) 1 (some ge5)) 2 (some ge5)) 3 (some ge5))))))), (h2, .inl (k1, 5, .inl (upd (upd (upd (upd (upd (fun _ => 0) 0 l1) 1 2) 2 l3) 3 l4) 4 l5))), (h3, .inr (0, [.ref h4, .int 0, .int 0, .int 0])), (h4, .inl (k2, 1, .inl f0)), (q102, .inr (1, [.ref q103, .int 0, .int 0, .int 1])), (q103, .inl (cq104, 16, .inl f105))] H := hP
    have hD : va_D A [(h0, .inr (9, [.int 0, .ref h1, .ref z0, .ref z1, .int 0, .int 0, .int 0])), (h1, .inl (k0, 4, .inr (.inr (.inr (.inr (va_up (va_up (va_up (va_up (fun _ => none) 0 (some ge5)) 1 (some ge5)) 2 (some ge5)) 3 (some ge5))))))), (h2, .inl (k1, 5, .inl (upd (upd (upd (upd (upd (fun _ => 0) 0 l1) 1 2) 2 l3) 3 l4) 4 l5))), (h3, .inr (0, [.ref h4, .int 0, .int 0, .int 0])), (h4, .inl (k2, 1, .inl f0)), (q102, .inr (1, [.ref q103, .int 0, .int 0, .int 1])), (q103, .inl (cq104, 16, .inl f105))] := hD
    have hPc := hP.sub (ws' := [(q102, .inr (1, [.ref q103, .int 0, .int 0, .int 1])), (q103, .inl (cq104, 16, .inl f105))]) [5, 6] rfl
    have hDc := hD.sub (ws' := [(q102, .inr (1, [.ref q103, .int 0, .int 0, .int 1])), (q103, .inl (cq104, 16, .inl f105))]) [5, 6] (by decide) rfl
    have hKc := hK.sub (tys' := [(cq104, .byte)]) [3] rfl
    have hFc := va_free (wc := [(q102, .inr (1, [.ref q103, .int 0, .int 0, .int 1])), (q103, .inl (cq104, 16, .inl f105))]) hD hS hA [5, 6] rfl
    refine va_callr (va_runV (As := [.int 99]) (rest := []) ⟨hx, hb, hml, hown, hts⟩ (kx_J4_append_cf468_6 l dC dI ge5 gea gv5 gva gde gic gi0 q102 q103 cq104 H.size f105 f105_t) (cwV 1 hts gX5_type_J4_append_cf468 rfl rfl rfl (by decide +kernel) ⟨Nat.le_of_ble_eq_true rfl, Nat.le_of_ble_eq_true rfl⟩) ⟨fun a U g mk q => by obtain ⟨q0, q1, qP, qK, qD, qG⟩ := q; exact ⟨q0, q1, qP, va_K.moved (u := U) (U := U.calling g mk a) (Vm.Alike.refl U.vm) qK, qD, gv.fb qG⟩, va_recv hKc hPc (ci := 1) (q0 := 0) rfl rfl, fun U hU hW => ⟨rfl, by rw [hU], by rw [hU]; exact hPc, va_K.moved hW.alike hKc, hDc.weaken (fun _ _ _ _ => trivial), gv.pass hW hU hS hFc hG⟩⟩ rfl rfl hl.1 rfl (lv_room (Nat.le_of_ble_eq_true rfl)) dX5_type_110 ⟨Nat.le_of_ble_eq_true rfl, Nat.le_of_ble_eq_true rfl⟩) hS (fun q _ h => hFc q h) hFc (fun u ra t H1 locs ht hvm hw hB hz1 hk1 hS => ?_)
    obtain ⟨f106, f106_t, hra, hP1, hK1, hD1⟩ := hB
    rw [hra]
    rw [ht] at hP1
    have hK1 := va_K.moved hvm.symm hK1
    obtain ⟨hP, hD⟩ := va_join (wr := [(h0, .inr (9, [.int 0, .ref h1, .ref z0, .ref z1, .int 0, .int 0, .int 0])), (h1, .inl (k0, 4, .inr (.inr (.inr (.inr (va_up (va_up (va_up (va_up (fun _ => none) 0 (some ge5)) 1 (some ge5)) 2 (some ge5)) 3 (some ge5))))))), (h2, .inl (k1, 5, .inl (upd (upd (upd (upd (upd (fun _ => 0) 0 l1) 1 2) 2 l3) 3 l4) 4 l5))), (h3, .inr (0, [.ref h4, .int 0, .int 0, .int 0])), (h4, .inl (k2, 1, .inl f0))]) (w1 := [(q102, .inr (1, [.ref q103, .int 0, .int 0, .int 2])), (q103, .inl (cq104, 16, .inl f106))]) hP hD [5, 6] [0, 1, 2, 3, 4] rfl rfl (by decide) (by decide) hk1 hFc hP1 hD1
    generalize H1 = H at hP hS ⊢
    have hP : va_P (dC, dI) vwCl [(h0, .inr (9, [.int 0, .ref h1, .ref z0, .ref z1, .int 0, .int 0, .int 0])), (h1, .inl (k0, 4, .inr (.inr (.inr (.inr (va_up (va_up (va_up (va_up (fun _ => none) 0 (some ge5)) 1 (some ge5)) 2 (some ge5)) 3 (some ge5))))))), (h2, .inl (k1, 5, .inl (upd (upd (upd (upd (upd (fun _ => 0) 0 l1) 1 2) 2 l3) 3 l4) 4 l5))), (h3, .inr (0, [.ref h4, .int 0, .int 0, .int 0])), (h4, .inl (k2, 1, .inl f0)), (q102, .inr (1, [.ref q103, .int 0, .int 0, .int 2])), (q103, .inl (cq104, 16, .inl f106))] H := hP
    have hD : va_D A [(h0, .inr (9, [.int 0, .ref h1, .ref z0, .ref z1, .int 0, .int 0, .int 0])), (h1, .inl (k0, 4, .inr (.inr (.inr (.inr (va_up (va_up (va_up (va_up (fun _ => none) 0 (some ge5)) 1 (some ge5)) 2 (some ge5)) 3 (some ge5))))))), (h2, .inl (k1, 5, .inl (upd (upd (upd (upd (upd (fun _ => 0) 0 l1) 1 2) 2 l3) 3 l4) 4 l5))), (h3, .inr (0, [.ref h4, .int 0, .int 0, .int 0])), (h4, .inl (k2, 1, .inl f0)), (q102, .inr (1, [.ref q103, .int 0, .int 0, .int 2])), (q103, .inl (cq104, 16, .inl f106))] := hD
    have hPc := hP.sub (ws' := [(q102, .inr (1, [.ref q103, .int 0, .int 0, .int 2])), (q103, .inl (cq104, 16, .inl f106))]) [5, 6] rfl
    have hDc := hD.sub (ws' := [(q102, .inr (1, [.ref q103, .int 0, .int 0, .int 2])), (q103, .inl (cq104, 16, .inl f106))]) [5, 6] (by decide) rfl
    have hKc := hK.sub (tys' := [(cq104, .byte)]) [3] rfl
    have hFc := va_free (wc := [(q102, .inr (1, [.ref q103, .int 0, .int 0, .int 2])), (q103, .inl (cq104, 16, .inl f106))]) hD hS hA [5, 6] rfl
    refine va_callr (va_runV (As := []) (rest := []) ⟨hx, hb, hml, hown, hts⟩ (kx_J4_toString_0e30d_2 l dC dI ge5 gea gv5 gva gde gic gi0 q102 q103 cq104 H.size f106 f106_t) (cwV 0 hts gX5_type_J4_toString_0e30d rfl rfl rfl (by decide +kernel) ⟨Nat.le_of_ble_eq_true rfl, Nat.le_of_ble_eq_true rfl⟩) ⟨fun a U g mk q => by obtain ⟨q0, q1, qP, qK, qD, qG⟩ := q; exact ⟨q0, q1, qP, va_K.moved (u := U) (U := U.calling g mk a) (Vm.Alike.refl U.vm) qK, qD, gv.fb qG⟩, va_recv hKc hPc (ci := 1) (q0 := 0) rfl rfl, fun U hU hW => ⟨rfl, by rw [hU], by rw [hU]; exact hPc, va_K.moved hW.alike hKc, hDc.weaken (fun _ _ _ _ => trivial), gv.pass hW hU hS hFc hG⟩⟩ rfl rfl hl.1 rfl (lv_room (Nat.le_of_ble_eq_true rfl)) dX5_type_113 ⟨Nat.le_of_ble_eq_true rfl, Nat.le_of_ble_eq_true rfl⟩) hS (fun q _ h => hFc q h) hFc (fun u ra t H1 locs ht hvm hw hB hz1 hk1 hS => ?_)
    obtain ⟨q107, q108, cq109, f110, f110_t, hra, hP1, hK1, hD1⟩ := hB
    rw [hra]
    rw [ht] at hP1
    have hK1 := va_K.moved hvm.symm hK1
    obtain ⟨hP, hD⟩ := va_join (wr := [(h0, .inr (9, [.int 0, .ref h1, .ref z0, .ref z1, .int 0, .int 0, .int 0])), (h1, .inl (k0, 4, .inr (.inr (.inr (.inr (va_up (va_up (va_up (va_up (fun _ => none) 0 (some ge5)) 1 (some ge5)) 2 (some ge5)) 3 (some ge5))))))), (h2, .inl (k1, 5, .inl (upd (upd (upd (upd (upd (fun _ => 0) 0 l1) 1 2) 2 l3) 3 l4) 4 l5))), (h3, .inr (0, [.ref h4, .int 0, .int 0, .int 0])), (h4, .inl (k2, 1, .inl f0))]) (w1 := [(q102, .inr (1, [.ref q103, .int 0, .int 0, .int 2])), (q103, .inl (cq104, 16, .inl f106)), (q107, .inr (0, [.ref q108, .int 0, .int 0, .int 0])), (q108, .inl (cq109, 2, .inl f110))]) hP hD [5, 6] [0, 1, 2, 3, 4] rfl rfl (by decide) (by decide) hk1 hFc hP1 hD1
    have hK := hK.app (hK1.sub (tys' := [(cq109, .byte)]) [1] rfl)
    generalize H1 = H at hP hS ⊢
    have hK : va_K (dC, dI) vwCl [(k0, .object "java/lang/String"), (k1, .int), (k2, .byte), (cq104, .byte), (cq109, .byte)] s := hK
    have hP : va_P (dC, dI) vwCl [(h0, .inr (9, [.int 0, .ref h1, .ref z0, .ref z1, .int 0, .int 0, .int 0])), (h1, .inl (k0, 4, .inr (.inr (.inr (.inr (va_up (va_up (va_up (va_up (fun _ => none) 0 (some ge5)) 1 (some ge5)) 2 (some ge5)) 3 (some ge5))))))), (h2, .inl (k1, 5, .inl (upd (upd (upd (upd (upd (fun _ => 0) 0 l1) 1 2) 2 l3) 3 l4) 4 l5))), (h3, .inr (0, [.ref h4, .int 0, .int 0, .int 0])), (h4, .inl (k2, 1, .inl f0)), (q102, .inr (1, [.ref q103, .int 0, .int 0, .int 2])), (q103, .inl (cq104, 16, .inl f106)), (q107, .inr (0, [.ref q108, .int 0, .int 0, .int 0])), (q108, .inl (cq109, 2, .inl f110))] H := hP
    have hD : va_D A [(h0, .inr (9, [.int 0, .ref h1, .ref z0, .ref z1, .int 0, .int 0, .int 0])), (h1, .inl (k0, 4, .inr (.inr (.inr (.inr (va_up (va_up (va_up (va_up (fun _ => none) 0 (some ge5)) 1 (some ge5)) 2 (some ge5)) 3 (some ge5))))))), (h2, .inl (k1, 5, .inl (upd (upd (upd (upd (upd (fun _ => 0) 0 l1) 1 2) 2 l3) 3 l4) 4 l5))), (h3, .inr (0, [.ref h4, .int 0, .int 0, .int 0])), (h4, .inl (k2, 1, .inl f0)), (q102, .inr (1, [.ref q103, .int 0, .int 0, .int 2])), (q103, .inl (cq104, 16, .inl f106)), (q107, .inr (0, [.ref q108, .int 0, .int 0, .int 0])), (q108, .inl (cq109, 2, .inl f110))] := hD
    refine W.widen (k := 9) (n := 56) (by omega) (by omega) ?_
    refine lv_astore (lv' := [(9, .ref q107), (8, .int 0), (13, .int 2), (0, .ref h0), (1, .int rp), (7, .ref h2), (10, .ref h2), (11, .int 5), (12, .int 1)]) hx hb dX5_type_116 hl (by decide) rfl (fun ls hl => ?_)
    refine lv_iinc (v := 2) (lv' := [(12, .int 2), (9, .ref q107), (8, .int 0), (13, .int 2), (0, .ref h0), (1, .int rp), (7, .ref h2), (10, .ref h2), (11, .int 5)]) hx hb dX5_type_118 hl (k := 8) rfl (by decide) (by decide) rfl (fun ls hl => ?_)
    refine lv_goto (tgt := 47) hx hb dX5_type_121 (by decide) ?_
    have hP := hP.sub (ws' := [(h0, .inr (9, [.int 0, .ref h1, .ref z0, .ref z1, .int 0, .int 0, .int 0])), (h1, .inl (k0, 4, .inr (.inr (.inr (.inr (va_up (va_up (va_up (va_up (fun _ => none) 0 (some ge5)) 1 (some ge5)) 2 (some ge5)) 3 (some ge5))))))), (h2, .inl (k1, 5, .inl (upd (upd (upd (upd (upd (fun _ => 0) 0 l1) 1 2) 2 l3) 3 l4) 4 l5))), (q107, .inr (0, [.ref q108, .int 0, .int 0, .int 0])), (q108, .inl (cq109, 2, .inl f110))]) [0, 1, 2, 7, 8] rfl
    have hD := hD.sub (ws' := [(h0, .inr (9, [.int 0, .ref h1, .ref z0, .ref z1, .int 0, .int 0, .int 0])), (h1, .inl (k0, 4, .inr (.inr (.inr (.inr (va_up (va_up (va_up (va_up (fun _ => none) 0 (some ge5)) 1 (some ge5)) 2 (some ge5)) 3 (some ge5))))))), (h2, .inl (k1, 5, .inl (upd (upd (upd (upd (upd (fun _ => 0) 0 l1) 1 2) 2 l3) 3 l4) 4 l5))), (q107, .inr (0, [.ref q108, .int 0, .int 0, .int 0])), (q108, .inl (cq109, 2, .inl f110))]) [0, 1, 2, 7, 8] (by decide) rfl
    have hK := hK.sub (tys' := [(k0, .object "java/lang/String"), (k1, .int), (cq109, .byte)]) [0, 1, 4] rfl
    have hl := lv_sub hl [4, 5, 6, 2, 1, 7, 8, 0] (show lv_pick [(12, .int 2), (9, .ref q107), (8, .int 0), (13, .int 2), (0, .ref h0), (1, .int rp), (7, .ref h2), (10, .ref h2), (11, .int 5)] [4, 5, 6, 2, 1, 7, 8, 0] = [(0, .ref h0), (1, .int rp), (7, .ref h2), (8, .int 0), (9, .ref q107), (10, .ref h2), (11, .int 5), (12, .int 2)] from rfl)
    exact kx_X5_type_h220 f110_t hR hx hb hr hml hown hts hlocks hA hG hS hK hP hD hl
  · have hR : kz_ty rp 2 0 [l3, l4, l5] = (R, v) := (kz_ty_g (by decide) (by decide)).symm.trans hR
    refine lv_iload hx hb dX5_type_47 (lv_at hl 7 rfl) ?_
    refine lv_iload hx hb dX5_type_49 (lv_at hl 6 rfl) ?_
    refine lv_icmp_ge (tgt := 124) hx hb dX5_type_51 (by decide) (fun c9 => absurd c9 (by decide)) (fun _ => ?_)
    refine lv_aload hx hb dX5_type_54 (lv_at hl 5 rfl) ?_
    refine lv_iload hx hb dX5_type_56 (lv_at hl 7 rfl) ?_
    refine va_iald (D := (dC, dI)) hx hb hK hP 2 1 rfl rfl (by unfold vp_in; decide) dX5_type_58 ?_
    refine W.eq (g2 := F0 m 59 ls [.int 3]) rfl ?_
    refine lv_istore (lv' := [(13, .int 3), (0, .ref h0), (1, .int rp), (7, .ref h2), (8, .int 0), (9, .ref h3), (10, .ref h2), (11, .int 5), (12, .int 1)]) hx hb dX5_type_59 hl (by decide) rfl (fun ls hl => ?_)
    refine lv_iload hx hb dX5_type_61 (lv_at hl 4 rfl) ?_
    refine lv_iload hx hb dX5_type_63 (lv_at hl 0 rfl) ?_
    refine lv_iconst (v := (-1)) hx hb dX5_type_65 (by decide) ?_
    refine lv_iconst (v := 3) hx hb dX5_type_66 (by decide) ?_
    have hPc := hP.sub (ws' := []) [] rfl
    have hDc := hD.sub (ws' := []) [] (by decide) rfl
    have hKc := hK.sub (tys' := []) [] rfl
    have hFc := va_free (wc := []) hD hS hA [] rfl
    refine va_calli (va_runS (As := [.int 3, .int (-1), .int 3]) (rest := [.int 0]) ⟨hx, hb, hml, hown, hts⟩ (kx_X5_isIn_13 l dC dI H.size) (cwS 3 hts gX5_type_X5_isIn rfl rfl rfl (by decide +kernel) ⟨Nat.le_of_ble_eq_true rfl, Nat.le_of_ble_eq_true rfl⟩) ⟨fun a U g mk q => by obtain ⟨q0, q1, qP, qK, qD⟩ := q; exact ⟨q0, q1, qP, va_K.moved (u := U) (U := U.calling g mk a) (Vm.Alike.refl U.vm) qK, qD⟩, fun U hU hW => ⟨rfl, by rw [hU], by rw [hU]; exact hPc, va_K.moved hW.alike hKc, hDc.weaken (fun _ _ _ _ => trivial)⟩⟩ rfl rfl hl.1 rfl (lv_room (Nat.le_of_ble_eq_true rfl)) dX5_type_67 ⟨Nat.le_of_ble_eq_true rfl, Nat.le_of_ble_eq_true rfl⟩) hS (fun q _ h => hFc q h) hFc (fun r9 u t H1 locs ht hvm hw hB hz1 hk1 hS => ?_)
    obtain rfl := hw
    obtain ⟨hP1, hK1, hD1⟩ := hB
    rw [ht] at hP1
    have hK1 := va_K.moved hvm.symm hK1
    obtain ⟨hP, hD⟩ := va_join (wr := [(h0, .inr (9, [.int 0, .ref h1, .ref z0, .ref z1, .int 0, .int 0, .int 0])), (h1, .inl (k0, 4, .inr (.inr (.inr (.inr (va_up (va_up (va_up (va_up (fun _ => none) 0 (some ge5)) 1 (some ge5)) 2 (some ge5)) 3 (some ge5))))))), (h2, .inl (k1, 5, .inl (upd (upd (upd (upd (upd (fun _ => 0) 0 l1) 1 3) 2 l3) 3 l4) 4 l5))), (h3, .inr (0, [.ref h4, .int 0, .int 0, .int 0])), (h4, .inl (k2, 1, .inl f0))]) (w1 := []) hP hD [] [0, 1, 2, 3, 4] rfl rfl (by decide) (by decide) hk1 hFc hP1 hD1
    generalize H1 = H at hP hS ⊢
    have hP : va_P (dC, dI) vwCl [(h0, .inr (9, [.int 0, .ref h1, .ref z0, .ref z1, .int 0, .int 0, .int 0])), (h1, .inl (k0, 4, .inr (.inr (.inr (.inr (va_up (va_up (va_up (va_up (fun _ => none) 0 (some ge5)) 1 (some ge5)) 2 (some ge5)) 3 (some ge5))))))), (h2, .inl (k1, 5, .inl (upd (upd (upd (upd (upd (fun _ => 0) 0 l1) 1 3) 2 l3) 3 l4) 4 l5))), (h3, .inr (0, [.ref h4, .int 0, .int 0, .int 0])), (h4, .inl (k2, 1, .inl f0))] H := hP
    have hD : va_D A [(h0, .inr (9, [.int 0, .ref h1, .ref z0, .ref z1, .int 0, .int 0, .int 0])), (h1, .inl (k0, 4, .inr (.inr (.inr (.inr (va_up (va_up (va_up (va_up (fun _ => none) 0 (some ge5)) 1 (some ge5)) 2 (some ge5)) 3 (some ge5))))))), (h2, .inl (k1, 5, .inl (upd (upd (upd (upd (upd (fun _ => 0) 0 l1) 1 3) 2 l3) 3 l4) 4 l5))), (h3, .inr (0, [.ref h4, .int 0, .int 0, .int 0])), (h4, .inl (k2, 1, .inl f0))] := hD
    refine lv_if_ne (tgt := 77) hx hb dX5_type_70 (by decide) (fun _ => ?_) (fun c9 => absurd c9 (by decide))
    refine lv_iconst (v := 0) hx hb dX5_type_77 (by decide) ?_
    refine lv_ior hx hb dX5_type_78 ?_
    refine lv_topi (fun y101 ey101 => ?_)
    obtain rfl : y101 = 0 := ey101.trans (by decide)
    refine lv_istore (lv' := [(8, .int 0), (13, .int 3), (0, .ref h0), (1, .int rp), (7, .ref h2), (9, .ref h3), (10, .ref h2), (11, .int 5), (12, .int 1)]) hx hb dX5_type_79 hl (by decide) rfl (fun ls hl => ?_)
    refine lv_iload hx hb dX5_type_81 (lv_at hl 1 rfl) ?_
    refine lv_iconst (v := 0) hx hb dX5_type_83 (by decide) ?_
    refine lv_iconst (v := 3) hx hb dX5_type_84 (by decide) ?_
    have hPc := hP.sub (ws' := []) [] rfl
    have hDc := hD.sub (ws' := []) [] (by decide) rfl
    have hKc := hK.sub (tys' := []) [] rfl
    have hFc := va_free (wc := []) hD hS hA [] rfl
    refine va_calli (va_runS (As := [.int 3, .int 0, .int 3]) (rest := []) ⟨hx, hb, hml, hown, hts⟩ (kx_X5_isIn_14 l dC dI H.size) (cwS 3 hts gX5_type_X5_isIn rfl rfl rfl (by decide +kernel) ⟨Nat.le_of_ble_eq_true rfl, Nat.le_of_ble_eq_true rfl⟩) ⟨fun a U g mk q => by obtain ⟨q0, q1, qP, qK, qD⟩ := q; exact ⟨q0, q1, qP, va_K.moved (u := U) (U := U.calling g mk a) (Vm.Alike.refl U.vm) qK, qD⟩, fun U hU hW => ⟨rfl, by rw [hU], by rw [hU]; exact hPc, va_K.moved hW.alike hKc, hDc.weaken (fun _ _ _ _ => trivial)⟩⟩ rfl rfl hl.1 rfl (lv_room (Nat.le_of_ble_eq_true rfl)) dX5_type_85 ⟨Nat.le_of_ble_eq_true rfl, Nat.le_of_ble_eq_true rfl⟩) hS (fun q _ h => hFc q h) hFc (fun r9 u t H1 locs ht hvm hw hB hz1 hk1 hS => ?_)
    obtain rfl := hw
    obtain ⟨hP1, hK1, hD1⟩ := hB
    rw [ht] at hP1
    have hK1 := va_K.moved hvm.symm hK1
    obtain ⟨hP, hD⟩ := va_join (wr := [(h0, .inr (9, [.int 0, .ref h1, .ref z0, .ref z1, .int 0, .int 0, .int 0])), (h1, .inl (k0, 4, .inr (.inr (.inr (.inr (va_up (va_up (va_up (va_up (fun _ => none) 0 (some ge5)) 1 (some ge5)) 2 (some ge5)) 3 (some ge5))))))), (h2, .inl (k1, 5, .inl (upd (upd (upd (upd (upd (fun _ => 0) 0 l1) 1 3) 2 l3) 3 l4) 4 l5))), (h3, .inr (0, [.ref h4, .int 0, .int 0, .int 0])), (h4, .inl (k2, 1, .inl f0))]) (w1 := []) hP hD [] [0, 1, 2, 3, 4] rfl rfl (by decide) (by decide) hk1 hFc hP1 hD1
    generalize H1 = H at hP hS ⊢
    have hP : va_P (dC, dI) vwCl [(h0, .inr (9, [.int 0, .ref h1, .ref z0, .ref z1, .int 0, .int 0, .int 0])), (h1, .inl (k0, 4, .inr (.inr (.inr (.inr (va_up (va_up (va_up (va_up (fun _ => none) 0 (some ge5)) 1 (some ge5)) 2 (some ge5)) 3 (some ge5))))))), (h2, .inl (k1, 5, .inl (upd (upd (upd (upd (upd (fun _ => 0) 0 l1) 1 3) 2 l3) 3 l4) 4 l5))), (h3, .inr (0, [.ref h4, .int 0, .int 0, .int 0])), (h4, .inl (k2, 1, .inl f0))] H := hP
    have hD : va_D A [(h0, .inr (9, [.int 0, .ref h1, .ref z0, .ref z1, .int 0, .int 0, .int 0])), (h1, .inl (k0, 4, .inr (.inr (.inr (.inr (va_up (va_up (va_up (va_up (fun _ => none) 0 (some ge5)) 1 (some ge5)) 2 (some ge5)) 3 (some ge5))))))), (h2, .inl (k1, 5, .inl (upd (upd (upd (upd (upd (fun _ => 0) 0 l1) 1 3) 2 l3) 3 l4) 4 l5))), (h3, .inr (0, [.ref h4, .int 0, .int 0, .int 0])), (h4, .inl (k2, 1, .inl f0))] := hD
    refine lv_if_eq (tgt := 118) hx hb dX5_type_88 (by decide) (fun c9 => absurd c9 (by decide)) (fun _ => ?_)
    refine va_new (ci := 1) (fs := [.null, .int 0, .int 0, .int 0]) (C := RJ4) (T := TJ4) (N := 4) hx hb hts (by decide +kernel) tyJ4 tyJ4_ok hown (hts (.classLink RX5 49 RJ4) (by decide +kernel)) (hts (.instantiable RJ4 4) (by decide +kernel)) (hts (.initialized RJ4) (by decide +kernel)) hK hP hD hS hA rfl (fun j hj => by rcases (show j = 0 ∨ j = 1 ∨ j = 2 ∨ j = 3 by omega) with rfl | rfl | rfl | rfl <;> rfl) (Nat.le_of_ble_eq_true rfl) (Nat.le_of_ble_eq_true rfl) dX5_type_91 (fun q102 H hP hD hS => ?_)
    have hP : va_P (dC, dI) vwCl [(h0, .inr (9, [.int 0, .ref h1, .ref z0, .ref z1, .int 0, .int 0, .int 0])), (h1, .inl (k0, 4, .inr (.inr (.inr (.inr (va_up (va_up (va_up (va_up (fun _ => none) 0 (some ge5)) 1 (some ge5)) 2 (some ge5)) 3 (some ge5))))))), (h2, .inl (k1, 5, .inl (upd (upd (upd (upd (upd (fun _ => 0) 0 l1) 1 3) 2 l3) 3 l4) 4 l5))), (h3, .inr (0, [.ref h4, .int 0, .int 0, .int 0])), (h4, .inl (k2, 1, .inl f0)), (q102, .inr (1, [.null, .int 0, .int 0, .int 0]))] H := hP
    have hD : va_D A [(h0, .inr (9, [.int 0, .ref h1, .ref z0, .ref z1, .int 0, .int 0, .int 0])), (h1, .inl (k0, 4, .inr (.inr (.inr (.inr (va_up (va_up (va_up (va_up (fun _ => none) 0 (some ge5)) 1 (some ge5)) 2 (some ge5)) 3 (some ge5))))))), (h2, .inl (k1, 5, .inl (upd (upd (upd (upd (upd (fun _ => 0) 0 l1) 1 3) 2 l3) 3 l4) 4 l5))), (h3, .inr (0, [.ref h4, .int 0, .int 0, .int 0])), (h4, .inl (k2, 1, .inl f0)), (q102, .inr (1, [.null, .int 0, .int 0, .int 0]))] := hD
    refine W.widen (k := 6) (n := 34) (by omega) (by omega) ?_
    refine lv_dup hx hb dX5_type_94 rfl ?_
    have hPc := hP.sub (ws' := [(q102, .inr (1, [.null, .int 0, .int 0, .int 0]))]) [5] rfl
    have hDc := hD.sub (ws' := [(q102, .inr (1, [.null, .int 0, .int 0, .int 0]))]) [5] (by decide) rfl
    have hKc := hK.sub (tys' := []) [] rfl
    have hFc := va_free (wc := [(q102, .inr (1, [.null, .int 0, .int 0, .int 0]))]) hD hS hA [5] rfl
    refine va_callv (va_runI (As := []) (rest := [.ref q102]) ⟨hx, hb, hml, hown, hts⟩ (kx_J4_init_da8c8_0 l dC dI ge5 gea gv5 gva gde gic gi0 q102 H.size) (cwI 0 hts gX5_type_J4_init_da8c8 rfl rfl rfl (hts (.initialized RJ4) (by decide +kernel)) (hts (.methodLink RX5 51 yJ4_init_da8c8) (by decide +kernel)) (hts (.instanceMethod yJ4_init_da8c8) (by decide +kernel)) rfl (by decide +kernel) ⟨Nat.le_of_ble_eq_true rfl, Nat.le_of_ble_eq_true rfl⟩) ⟨fun a U g mk q => by obtain ⟨q0, q1, qP, qK, qD, qG⟩ := q; exact ⟨q0, q1, qP, va_K.moved (u := U) (U := U.calling g mk a) (Vm.Alike.refl U.vm) qK, qD, gv.fb qG⟩, fun U hU hW => ⟨rfl, by rw [hU], by rw [hU]; exact hPc, va_K.moved hW.alike hKc, hDc.weaken (fun _ _ _ _ => trivial), gv.pass hW hU hS hFc hG⟩⟩ rfl rfl hl.1 rfl (lv_room (Nat.le_of_ble_eq_true rfl)) dX5_type_95 ⟨Nat.le_of_ble_eq_true rfl, Nat.le_of_ble_eq_true rfl⟩) hS (fun q _ h => hFc q h) hFc (fun u t H1 locs ht hvm hw hB hz1 hk1 hS => ?_)
    obtain ⟨q103, cq104, hP1, hK1, hD1⟩ := hB
    rw [ht] at hP1
    have hK1 := va_K.moved hvm.symm hK1
    obtain ⟨hP, hD⟩ := va_join (wr := [(h0, .inr (9, [.int 0, .ref h1, .ref z0, .ref z1, .int 0, .int 0, .int 0])), (h1, .inl (k0, 4, .inr (.inr (.inr (.inr (va_up (va_up (va_up (va_up (fun _ => none) 0 (some ge5)) 1 (some ge5)) 2 (some ge5)) 3 (some ge5))))))), (h2, .inl (k1, 5, .inl (upd (upd (upd (upd (upd (fun _ => 0) 0 l1) 1 3) 2 l3) 3 l4) 4 l5))), (h3, .inr (0, [.ref h4, .int 0, .int 0, .int 0])), (h4, .inl (k2, 1, .inl f0))]) (w1 := [(q102, .inr (1, [.ref q103, .int 0, .int 0, .int 0])), (q103, .inl (cq104, 16, .inl (fun _ => 0)))]) hP hD [5] [0, 1, 2, 3, 4] rfl rfl (by decide) (by decide) hk1 hFc hP1 hD1
    have hK := hK.app (hK1.sub (tys' := [(cq104, .byte)]) [0] rfl)
    generalize H1 = H at hP hS ⊢
    have hK : va_K (dC, dI) vwCl [(k0, .object "java/lang/String"), (k1, .int), (k2, .byte), (cq104, .byte)] s := hK
    have hP : va_P (dC, dI) vwCl [(h0, .inr (9, [.int 0, .ref h1, .ref z0, .ref z1, .int 0, .int 0, .int 0])), (h1, .inl (k0, 4, .inr (.inr (.inr (.inr (va_up (va_up (va_up (va_up (fun _ => none) 0 (some ge5)) 1 (some ge5)) 2 (some ge5)) 3 (some ge5))))))), (h2, .inl (k1, 5, .inl (upd (upd (upd (upd (upd (fun _ => 0) 0 l1) 1 3) 2 l3) 3 l4) 4 l5))), (h3, .inr (0, [.ref h4, .int 0, .int 0, .int 0])), (h4, .inl (k2, 1, .inl f0)), (q102, .inr (1, [.ref q103, .int 0, .int 0, .int 0])), (q103, .inl (cq104, 16, .inl (fun _ => 0)))] H := hP
    have hD : va_D A [(h0, .inr (9, [.int 0, .ref h1, .ref z0, .ref z1, .int 0, .int 0, .int 0])), (h1, .inl (k0, 4, .inr (.inr (.inr (.inr (va_up (va_up (va_up (va_up (fun _ => none) 0 (some ge5)) 1 (some ge5)) 2 (some ge5)) 3 (some ge5))))))), (h2, .inl (k1, 5, .inl (upd (upd (upd (upd (upd (fun _ => 0) 0 l1) 1 3) 2 l3) 3 l4) 4 l5))), (h3, .inr (0, [.ref h4, .int 0, .int 0, .int 0])), (h4, .inl (k2, 1, .inl f0)), (q102, .inr (1, [.ref q103, .int 0, .int 0, .int 0])), (q103, .inl (cq104, 16, .inl (fun _ => 0)))] := hD
    refine W.widen (k := 7) (n := 50) (by omega) (by omega) ?_
    refine lv_aload hx hb dX5_type_98 (lv_at hl 5 rfl) ?_
    have hPc := hP.sub (ws' := [(h3, .inr (0, [.ref h4, .int 0, .int 0, .int 0])), (h4, .inl (k2, 1, .inl f0)), (q102, .inr (1, [.ref q103, .int 0, .int 0, .int 0])), (q103, .inl (cq104, 16, .inl (fun _ => 0)))]) [3, 4, 5, 6] rfl
    have hDc := hD.sub (ws' := [(h3, .inr (0, [.ref h4, .int 0, .int 0, .int 0])), (h4, .inl (k2, 1, .inl f0)), (q102, .inr (1, [.ref q103, .int 0, .int 0, .int 0])), (q103, .inl (cq104, 16, .inl (fun _ => 0)))]) [3, 4, 5, 6] (by decide) rfl
    have hKc := hK.sub (tys' := [(k2, .byte), (cq104, .byte)]) [2, 3] rfl
    have hFc := va_free (wc := [(h3, .inr (0, [.ref h4, .int 0, .int 0, .int 0])), (h4, .inl (k2, 1, .inl f0)), (q102, .inr (1, [.ref q103, .int 0, .int 0, .int 0])), (q103, .inl (cq104, 16, .inl (fun _ => 0)))]) hD hS hA [3, 4, 5, 6] rfl
    refine va_callr (va_runV (As := [.ref h3]) (rest := []) ⟨hx, hb, hml, hown, hts⟩ (kx_J4_append_15ec4_1 l dC dI ge5 gea gv5 gva gde gic gi0 h3 h4 q102 q103 k2 cq104 H.size f0 f0_t) (cwV 1 hts gX5_type_J4_append_15ec4 rfl rfl rfl (by decide +kernel) ⟨Nat.le_of_ble_eq_true rfl, Nat.le_of_ble_eq_true rfl⟩) ⟨fun a U g mk q => by obtain ⟨q0, q1, qP, qK, qD, qG⟩ := q; exact ⟨q0, q1, qP, va_K.moved (u := U) (U := U.calling g mk a) (Vm.Alike.refl U.vm) qK, qD, gv.fb qG⟩, va_recv hKc hPc (ci := 1) (q0 := 2) rfl rfl, fun U hU hW => ⟨rfl, by rw [hU], by rw [hU]; exact hPc, va_K.moved hW.alike hKc, hDc.weaken (fun _ _ _ _ => trivial), gv.pass hW hU hS hFc hG⟩⟩ rfl rfl hl.1 rfl (lv_room (Nat.le_of_ble_eq_true rfl)) dX5_type_100 ⟨Nat.le_of_ble_eq_true rfl, Nat.le_of_ble_eq_true rfl⟩) hS (fun q _ h => hFc q h) hFc (fun u ra t H1 locs ht hvm hw hB hz1 hk1 hS => ?_)
    obtain ⟨f105, f105_t, hra, hP1, hK1, hD1⟩ := hB
    rw [hra]
    rw [ht] at hP1
    have hK1 := va_K.moved hvm.symm hK1
    obtain ⟨hP, hD⟩ := va_join (wr := [(h0, .inr (9, [.int 0, .ref h1, .ref z0, .ref z1, .int 0, .int 0, .int 0])), (h1, .inl (k0, 4, .inr (.inr (.inr (.inr (va_up (va_up (va_up (va_up (fun _ => none) 0 (some ge5)) 1 (some ge5)) 2 (some ge5)) 3 (some ge5))))))), (h2, .inl (k1, 5, .inl (upd (upd (upd (upd (upd (fun _ => 0) 0 l1) 1 3) 2 l3) 3 l4) 4 l5)))]) (w1 := [(h3, .inr (0, [.ref h4, .int 0, .int 0, .int 0])), (h4, .inl (k2, 1, .inl f0)), (q102, .inr (1, [.ref q103, .int 0, .int 0, .int 1])), (q103, .inl (cq104, 16, .inl f105))]) hP hD [3, 4, 5, 6] [0, 1, 2] rfl rfl (by decide) (by decide) hk1 hFc hP1 hD1
    generalize H1 = H at hP hS ⊢
    have hP : va_P (dC, dI) vwCl [(h0, .inr (9, [.int 0, .ref h1, .ref z0, .ref z1, .int 0, .int 0, .int 0])), (h1, .inl (k0, 4, .inr (.inr (.inr (.inr (va_up (va_up (va_up (va_up (fun _ => none) 0 (some ge5)) 1 (some ge5)) 2 (some ge5)) 3 (some ge5))))))), (h2, .inl (k1, 5, .inl (upd (upd (upd (upd (upd (fun _ => 0) 0 l1) 1 3) 2 l3) 3 l4) 4 l5))), (h3, .inr (0, [.ref h4, .int 0, .int 0, .int 0])), (h4, .inl (k2, 1, .inl f0)), (q102, .inr (1, [.ref q103, .int 0, .int 0, .int 1])), (q103, .inl (cq104, 16, .inl f105))] H := hP
    have hD : va_D A [(h0, .inr (9, [.int 0, .ref h1, .ref z0, .ref z1, .int 0, .int 0, .int 0])), (h1, .inl (k0, 4, .inr (.inr (.inr (.inr (va_up (va_up (va_up (va_up (fun _ => none) 0 (some ge5)) 1 (some ge5)) 2 (some ge5)) 3 (some ge5))))))), (h2, .inl (k1, 5, .inl (upd (upd (upd (upd (upd (fun _ => 0) 0 l1) 1 3) 2 l3) 3 l4) 4 l5))), (h3, .inr (0, [.ref h4, .int 0, .int 0, .int 0])), (h4, .inl (k2, 1, .inl f0)), (q102, .inr (1, [.ref q103, .int 0, .int 0, .int 1])), (q103, .inl (cq104, 16, .inl f105))] := hD
    refine va_ldcS hx hb hown g_sa dX5_type_103 ?_
    refine lv_iload hx hb dX5_type_105 (lv_at hl 1 rfl) ?_
    have hPc := hP.sub (ws' := []) [] rfl
    have hDc := hD.sub (ws' := []) [] (by decide) rfl
    have hKc := hK.sub (tys' := []) [] rfl
    have hFc := va_free (wc := []) hD hS hA [] rfl
    refine va_calli (va_runV (As := [.int 3]) (rest := [.ref q102]) ⟨hx, hb, hml, hown, hts⟩ (kx_J0_charAt_5068e_3 l dC dI ge5 gea gv5 gva gde gic gi0 H.size) (cwV 1 hts gX5_type_J0_charAt_5068e rfl rfl rfl (by decide +kernel) ⟨Nat.le_of_ble_eq_true rfl, Nat.le_of_ble_eq_true rfl⟩) ⟨fun a U g mk q => by obtain ⟨q0, q1, qP, qK, qD, qG⟩ := q; exact ⟨q0, q1, qP, va_K.moved (u := U) (U := U.calling g mk a) (Vm.Alike.refl U.vm) qK, qD, gv.fb qG⟩, (by obtain ⟨cell, k1, k2, k3, -⟩ := g_oa.kept hS.2.1; exact ⟨cell, k1, k2, k3⟩), fun U hU hW => ⟨rfl, by rw [hU], by rw [hU]; exact hPc, va_K.moved hW.alike hKc, hDc.weaken (fun _ _ _ _ => trivial), gv.pass hW hU hS hFc hG⟩⟩ rfl rfl hl.1 rfl (lv_room (Nat.le_of_ble_eq_true rfl)) dX5_type_107 ⟨Nat.le_of_ble_eq_true rfl, Nat.le_of_ble_eq_true rfl⟩) hS (fun q _ h => hFc q h) hFc (fun r9 u t H1 locs ht hvm hw hB hz1 hk1 hS => ?_)
    obtain rfl := hw
    obtain ⟨hP1, hK1, hD1⟩ := hB
    rw [ht] at hP1
    have hK1 := va_K.moved hvm.symm hK1
    obtain ⟨hP, hD⟩ := va_join (wr := [(h0, .inr (9, [.int 0, .ref h1, .ref z0, .ref z1, .int 0, .int 0, .int 0])), (h1, .inl (k0, 4, .inr (.inr (.inr (.inr (va_up (va_up (va_up (va_up (fun _ => none) 0 (some ge5)) 1 (some ge5)) 2 (some ge5)) 3 (some ge5))))))), (h2, .inl (k1, 5, .inl (upd (upd (upd (upd (upd (fun _ => 0) 0 l1) 1 3) 2 l3) 3 l4) 4 l5))), (h3, .inr (0, [.ref h4, .int 0, .int 0, .int 0])), (h4, .inl (k2, 1, .inl f0)), (q102, .inr (1, [.ref q103, .int 0, .int 0, .int 1])), (q103, .inl (cq104, 16, .inl f105))]) (w1 := []) hP hD [] [0, 1, 2, 3, 4, 5, 6] rfl rfl (by decide) (by decide) hk1 hFc hP1 hD1
    generalize H1 = H at hP hS ⊢
    have hP : va_P (dC, dI) vwCl [(h0, .inr (9, [.int 0, .ref h1, .ref z0, .ref z1, .int 0, .int 0, .int 0])), (h1, .inl (k0, 4, .inr (.inr (.inr (.inr (va_up (va_up (va_up (va_up (fun _ => none) 0 (some ge5)) 1 (some ge5)) 2 (some ge5)) 3 (some ge5))))))), (h2, .inl (k1, 5, .inl (upd (upd (upd (upd (upd (fun _ => 0) 0 l1) 1 3) 2 l3) 3 l4) 4 l5))), (h3, .inr (0, [.ref h4, .int 0, .int 0, .int 0])), (h4, .inl (k2, 1, .inl f0)), (q102, .inr (1, [.ref q103, .int 0, .int 0, .int 1])), (q103, .inl (cq104, 16, .inl f105))] H := hP
    have hD : va_D A [(h0, .inr (9, [.int 0, .ref h1, .ref z0, .ref z1, .int 0, .int 0, .int 0])), (h1, .inl (k0, 4, .inr (.inr (.inr (.inr (va_up (va_up (va_up (va_up (fun _ => none) 0 (some ge5)) 1 (some ge5)) 2 (some ge5)) 3 (some ge5))))))), (h2, .inl (k1, 5, .inl (upd (upd (upd (upd (upd (fun _ => 0) 0 l1) 1 3) 2 l3) 3 l4) 4 l5))), (h3, .inr (0, [.ref h4, .int 0, .int 0, .int 0])), (h4, .inl (k2, 1, .inl f0)), (q102, .inr (1, [.ref q103, .int 0, .int 0, .int 1])), (q103, .inl (cq104, 16, .inl f105))] := hD
    have hPc := hP.sub (ws' := [(q102, .inr (1, [.ref q103, .int 0, .int 0, .int 1])), (q103, .inl (cq104, 16, .inl f105))]) [5, 6] rfl
    have hDc := hD.sub (ws' := [(q102, .inr (1, [.ref q103, .int 0, .int 0, .int 1])), (q103, .inl (cq104, 16, .inl f105))]) [5, 6] (by decide) rfl
    have hKc := hK.sub (tys' := [(cq104, .byte)]) [3] rfl
    have hFc := va_free (wc := [(q102, .inr (1, [.ref q103, .int 0, .int 0, .int 1])), (q103, .inl (cq104, 16, .inl f105))]) hD hS hA [5, 6] rfl
    refine va_callr (va_runV (As := [.int 100]) (rest := []) ⟨hx, hb, hml, hown, hts⟩ (kx_J4_append_cf468_7 l dC dI ge5 gea gv5 gva gde gic gi0 q102 q103 cq104 H.size f105 f105_t) (cwV 1 hts gX5_type_J4_append_cf468 rfl rfl rfl (by decide +kernel) ⟨Nat.le_of_ble_eq_true rfl, Nat.le_of_ble_eq_true rfl⟩) ⟨fun a U g mk q => by obtain ⟨q0, q1, qP, qK, qD, qG⟩ := q; exact ⟨q0, q1, qP, va_K.moved (u := U) (U := U.calling g mk a) (Vm.Alike.refl U.vm) qK, qD, gv.fb qG⟩, va_recv hKc hPc (ci := 1) (q0 := 0) rfl rfl, fun U hU hW => ⟨rfl, by rw [hU], by rw [hU]; exact hPc, va_K.moved hW.alike hKc, hDc.weaken (fun _ _ _ _ => trivial), gv.pass hW hU hS hFc hG⟩⟩ rfl rfl hl.1 rfl (lv_room (Nat.le_of_ble_eq_true rfl)) dX5_type_110 ⟨Nat.le_of_ble_eq_true rfl, Nat.le_of_ble_eq_true rfl⟩) hS (fun q _ h => hFc q h) hFc (fun u ra t H1 locs ht hvm hw hB hz1 hk1 hS => ?_)
    obtain ⟨f106, f106_t, hra, hP1, hK1, hD1⟩ := hB
    rw [hra]
    rw [ht] at hP1
    have hK1 := va_K.moved hvm.symm hK1
    obtain ⟨hP, hD⟩ := va_join (wr := [(h0, .inr (9, [.int 0, .ref h1, .ref z0, .ref z1, .int 0, .int 0, .int 0])), (h1, .inl (k0, 4, .inr (.inr (.inr (.inr (va_up (va_up (va_up (va_up (fun _ => none) 0 (some ge5)) 1 (some ge5)) 2 (some ge5)) 3 (some ge5))))))), (h2, .inl (k1, 5, .inl (upd (upd (upd (upd (upd (fun _ => 0) 0 l1) 1 3) 2 l3) 3 l4) 4 l5))), (h3, .inr (0, [.ref h4, .int 0, .int 0, .int 0])), (h4, .inl (k2, 1, .inl f0))]) (w1 := [(q102, .inr (1, [.ref q103, .int 0, .int 0, .int 2])), (q103, .inl (cq104, 16, .inl f106))]) hP hD [5, 6] [0, 1, 2, 3, 4] rfl rfl (by decide) (by decide) hk1 hFc hP1 hD1
    generalize H1 = H at hP hS ⊢
    have hP : va_P (dC, dI) vwCl [(h0, .inr (9, [.int 0, .ref h1, .ref z0, .ref z1, .int 0, .int 0, .int 0])), (h1, .inl (k0, 4, .inr (.inr (.inr (.inr (va_up (va_up (va_up (va_up (fun _ => none) 0 (some ge5)) 1 (some ge5)) 2 (some ge5)) 3 (some ge5))))))), (h2, .inl (k1, 5, .inl (upd (upd (upd (upd (upd (fun _ => 0) 0 l1) 1 3) 2 l3) 3 l4) 4 l5))), (h3, .inr (0, [.ref h4, .int 0, .int 0, .int 0])), (h4, .inl (k2, 1, .inl f0)), (q102, .inr (1, [.ref q103, .int 0, .int 0, .int 2])), (q103, .inl (cq104, 16, .inl f106))] H := hP
    have hD : va_D A [(h0, .inr (9, [.int 0, .ref h1, .ref z0, .ref z1, .int 0, .int 0, .int 0])), (h1, .inl (k0, 4, .inr (.inr (.inr (.inr (va_up (va_up (va_up (va_up (fun _ => none) 0 (some ge5)) 1 (some ge5)) 2 (some ge5)) 3 (some ge5))))))), (h2, .inl (k1, 5, .inl (upd (upd (upd (upd (upd (fun _ => 0) 0 l1) 1 3) 2 l3) 3 l4) 4 l5))), (h3, .inr (0, [.ref h4, .int 0, .int 0, .int 0])), (h4, .inl (k2, 1, .inl f0)), (q102, .inr (1, [.ref q103, .int 0, .int 0, .int 2])), (q103, .inl (cq104, 16, .inl f106))] := hD
    have hPc := hP.sub (ws' := [(q102, .inr (1, [.ref q103, .int 0, .int 0, .int 2])), (q103, .inl (cq104, 16, .inl f106))]) [5, 6] rfl
    have hDc := hD.sub (ws' := [(q102, .inr (1, [.ref q103, .int 0, .int 0, .int 2])), (q103, .inl (cq104, 16, .inl f106))]) [5, 6] (by decide) rfl
    have hKc := hK.sub (tys' := [(cq104, .byte)]) [3] rfl
    have hFc := va_free (wc := [(q102, .inr (1, [.ref q103, .int 0, .int 0, .int 2])), (q103, .inl (cq104, 16, .inl f106))]) hD hS hA [5, 6] rfl
    refine va_callr (va_runV (As := []) (rest := []) ⟨hx, hb, hml, hown, hts⟩ (kx_J4_toString_0e30d_2 l dC dI ge5 gea gv5 gva gde gic gi0 q102 q103 cq104 H.size f106 f106_t) (cwV 0 hts gX5_type_J4_toString_0e30d rfl rfl rfl (by decide +kernel) ⟨Nat.le_of_ble_eq_true rfl, Nat.le_of_ble_eq_true rfl⟩) ⟨fun a U g mk q => by obtain ⟨q0, q1, qP, qK, qD, qG⟩ := q; exact ⟨q0, q1, qP, va_K.moved (u := U) (U := U.calling g mk a) (Vm.Alike.refl U.vm) qK, qD, gv.fb qG⟩, va_recv hKc hPc (ci := 1) (q0 := 0) rfl rfl, fun U hU hW => ⟨rfl, by rw [hU], by rw [hU]; exact hPc, va_K.moved hW.alike hKc, hDc.weaken (fun _ _ _ _ => trivial), gv.pass hW hU hS hFc hG⟩⟩ rfl rfl hl.1 rfl (lv_room (Nat.le_of_ble_eq_true rfl)) dX5_type_113 ⟨Nat.le_of_ble_eq_true rfl, Nat.le_of_ble_eq_true rfl⟩) hS (fun q _ h => hFc q h) hFc (fun u ra t H1 locs ht hvm hw hB hz1 hk1 hS => ?_)
    obtain ⟨q107, q108, cq109, f110, f110_t, hra, hP1, hK1, hD1⟩ := hB
    rw [hra]
    rw [ht] at hP1
    have hK1 := va_K.moved hvm.symm hK1
    obtain ⟨hP, hD⟩ := va_join (wr := [(h0, .inr (9, [.int 0, .ref h1, .ref z0, .ref z1, .int 0, .int 0, .int 0])), (h1, .inl (k0, 4, .inr (.inr (.inr (.inr (va_up (va_up (va_up (va_up (fun _ => none) 0 (some ge5)) 1 (some ge5)) 2 (some ge5)) 3 (some ge5))))))), (h2, .inl (k1, 5, .inl (upd (upd (upd (upd (upd (fun _ => 0) 0 l1) 1 3) 2 l3) 3 l4) 4 l5))), (h3, .inr (0, [.ref h4, .int 0, .int 0, .int 0])), (h4, .inl (k2, 1, .inl f0))]) (w1 := [(q102, .inr (1, [.ref q103, .int 0, .int 0, .int 2])), (q103, .inl (cq104, 16, .inl f106)), (q107, .inr (0, [.ref q108, .int 0, .int 0, .int 0])), (q108, .inl (cq109, 2, .inl f110))]) hP hD [5, 6] [0, 1, 2, 3, 4] rfl rfl (by decide) (by decide) hk1 hFc hP1 hD1
    have hK := hK.app (hK1.sub (tys' := [(cq109, .byte)]) [1] rfl)
    generalize H1 = H at hP hS ⊢
    have hK : va_K (dC, dI) vwCl [(k0, .object "java/lang/String"), (k1, .int), (k2, .byte), (cq104, .byte), (cq109, .byte)] s := hK
    have hP : va_P (dC, dI) vwCl [(h0, .inr (9, [.int 0, .ref h1, .ref z0, .ref z1, .int 0, .int 0, .int 0])), (h1, .inl (k0, 4, .inr (.inr (.inr (.inr (va_up (va_up (va_up (va_up (fun _ => none) 0 (some ge5)) 1 (some ge5)) 2 (some ge5)) 3 (some ge5))))))), (h2, .inl (k1, 5, .inl (upd (upd (upd (upd (upd (fun _ => 0) 0 l1) 1 3) 2 l3) 3 l4) 4 l5))), (h3, .inr (0, [.ref h4, .int 0, .int 0, .int 0])), (h4, .inl (k2, 1, .inl f0)), (q102, .inr (1, [.ref q103, .int 0, .int 0, .int 2])), (q103, .inl (cq104, 16, .inl f106)), (q107, .inr (0, [.ref q108, .int 0, .int 0, .int 0])), (q108, .inl (cq109, 2, .inl f110))] H := hP
    have hD : va_D A [(h0, .inr (9, [.int 0, .ref h1, .ref z0, .ref z1, .int 0, .int 0, .int 0])), (h1, .inl (k0, 4, .inr (.inr (.inr (.inr (va_up (va_up (va_up (va_up (fun _ => none) 0 (some ge5)) 1 (some ge5)) 2 (some ge5)) 3 (some ge5))))))), (h2, .inl (k1, 5, .inl (upd (upd (upd (upd (upd (fun _ => 0) 0 l1) 1 3) 2 l3) 3 l4) 4 l5))), (h3, .inr (0, [.ref h4, .int 0, .int 0, .int 0])), (h4, .inl (k2, 1, .inl f0)), (q102, .inr (1, [.ref q103, .int 0, .int 0, .int 2])), (q103, .inl (cq104, 16, .inl f106)), (q107, .inr (0, [.ref q108, .int 0, .int 0, .int 0])), (q108, .inl (cq109, 2, .inl f110))] := hD
    refine W.widen (k := 9) (n := 56) (by omega) (by omega) ?_
    refine lv_astore (lv' := [(9, .ref q107), (8, .int 0), (13, .int 3), (0, .ref h0), (1, .int rp), (7, .ref h2), (10, .ref h2), (11, .int 5), (12, .int 1)]) hx hb dX5_type_116 hl (by decide) rfl (fun ls hl => ?_)
    refine lv_iinc (v := 2) (lv' := [(12, .int 2), (9, .ref q107), (8, .int 0), (13, .int 3), (0, .ref h0), (1, .int rp), (7, .ref h2), (10, .ref h2), (11, .int 5)]) hx hb dX5_type_118 hl (k := 8) rfl (by decide) (by decide) rfl (fun ls hl => ?_)
    refine lv_goto (tgt := 47) hx hb dX5_type_121 (by decide) ?_
    have hP := hP.sub (ws' := [(h0, .inr (9, [.int 0, .ref h1, .ref z0, .ref z1, .int 0, .int 0, .int 0])), (h1, .inl (k0, 4, .inr (.inr (.inr (.inr (va_up (va_up (va_up (va_up (fun _ => none) 0 (some ge5)) 1 (some ge5)) 2 (some ge5)) 3 (some ge5))))))), (h2, .inl (k1, 5, .inl (upd (upd (upd (upd (upd (fun _ => 0) 0 l1) 1 3) 2 l3) 3 l4) 4 l5))), (q107, .inr (0, [.ref q108, .int 0, .int 0, .int 0])), (q108, .inl (cq109, 2, .inl f110))]) [0, 1, 2, 7, 8] rfl
    have hD := hD.sub (ws' := [(h0, .inr (9, [.int 0, .ref h1, .ref z0, .ref z1, .int 0, .int 0, .int 0])), (h1, .inl (k0, 4, .inr (.inr (.inr (.inr (va_up (va_up (va_up (va_up (fun _ => none) 0 (some ge5)) 1 (some ge5)) 2 (some ge5)) 3 (some ge5))))))), (h2, .inl (k1, 5, .inl (upd (upd (upd (upd (upd (fun _ => 0) 0 l1) 1 3) 2 l3) 3 l4) 4 l5))), (q107, .inr (0, [.ref q108, .int 0, .int 0, .int 0])), (q108, .inl (cq109, 2, .inl f110))]) [0, 1, 2, 7, 8] (by decide) rfl
    have hK := hK.sub (tys' := [(k0, .object "java/lang/String"), (k1, .int), (cq109, .byte)]) [0, 1, 4] rfl
    have hl := lv_sub hl [4, 5, 6, 2, 1, 7, 8, 0] (show lv_pick [(12, .int 2), (9, .ref q107), (8, .int 0), (13, .int 3), (0, .ref h0), (1, .int rp), (7, .ref h2), (10, .ref h2), (11, .int 5)] [4, 5, 6, 2, 1, 7, 8, 0] = [(0, .ref h0), (1, .int rp), (7, .ref h2), (8, .int 0), (9, .ref q107), (10, .ref h2), (11, .int 5), (12, .int 2)] from rfl)
    exact kx_X5_type_h220 f110_t hR hx hb hr hml hown hts hlocks hA hG hS hK hP hD hl
  · have l2_l : (4 : Int) ≤ l2.toInt := by omega
    have l2_u : l2.toInt ≤ (2147483647 : Int) := by omega
    have hR : kz_ty rp 1 1 [l3, l4, l5] = (R, v) := (kz_ty_b (by omega)).symm.trans hR
    refine lv_iload hx hb dX5_type_47 (lv_at hl 7 rfl) ?_
    refine lv_iload hx hb dX5_type_49 (lv_at hl 6 rfl) ?_
    refine lv_icmp_ge (tgt := 124) hx hb dX5_type_51 (by decide) (fun c9 => absurd c9 (by decide)) (fun _ => ?_)
    refine lv_aload hx hb dX5_type_54 (lv_at hl 5 rfl) ?_
    refine lv_iload hx hb dX5_type_56 (lv_at hl 7 rfl) ?_
    refine va_iald (D := (dC, dI)) hx hb hK hP 2 1 rfl rfl (by unfold vp_in; decide) dX5_type_58 ?_
    refine W.eq (g2 := F0 m 59 ls [.int l2]) rfl ?_
    refine lv_istore (lv' := [(13, .int l2), (0, .ref h0), (1, .int rp), (7, .ref h2), (8, .int 0), (9, .ref h3), (10, .ref h2), (11, .int 5), (12, .int 1)]) hx hb dX5_type_59 hl (by decide) rfl (fun ls hl => ?_)
    refine lv_iload hx hb dX5_type_61 (lv_at hl 4 rfl) ?_
    refine lv_iload hx hb dX5_type_63 (lv_at hl 0 rfl) ?_
    refine lv_iconst (v := (-1)) hx hb dX5_type_65 (by decide) ?_
    refine lv_iconst (v := 3) hx hb dX5_type_66 (by decide) ?_
    have hPc := hP.sub (ws' := []) [] rfl
    have hDc := hD.sub (ws' := []) [] (by decide) rfl
    have hKc := hK.sub (tys' := []) [] rfl
    have hFc := va_free (wc := []) hD hS hA [] rfl
    refine va_calli (va_runS (As := [.int l2, .int (-1), .int 3]) (rest := [.int 0]) ⟨hx, hb, hml, hown, hts⟩ (kx_X5_isIn_15 l dC dI H.size l2 l2_l l2_u) (cwS 3 hts gX5_type_X5_isIn rfl rfl rfl (by decide +kernel) ⟨Nat.le_of_ble_eq_true rfl, Nat.le_of_ble_eq_true rfl⟩) ⟨fun a U g mk q => by obtain ⟨q0, q1, qP, qK, qD⟩ := q; exact ⟨q0, q1, qP, va_K.moved (u := U) (U := U.calling g mk a) (Vm.Alike.refl U.vm) qK, qD⟩, fun U hU hW => ⟨rfl, by rw [hU], by rw [hU]; exact hPc, va_K.moved hW.alike hKc, hDc.weaken (fun _ _ _ _ => trivial)⟩⟩ rfl rfl hl.1 rfl (lv_room (Nat.le_of_ble_eq_true rfl)) dX5_type_67 ⟨Nat.le_of_ble_eq_true rfl, Nat.le_of_ble_eq_true rfl⟩) hS (fun q _ h => hFc q h) hFc (fun r9 u t H1 locs ht hvm hw hB hz1 hk1 hS => ?_)
    obtain rfl := hw
    obtain ⟨hP1, hK1, hD1⟩ := hB
    rw [ht] at hP1
    have hK1 := va_K.moved hvm.symm hK1
    obtain ⟨hP, hD⟩ := va_join (wr := [(h0, .inr (9, [.int 0, .ref h1, .ref z0, .ref z1, .int 0, .int 0, .int 0])), (h1, .inl (k0, 4, .inr (.inr (.inr (.inr (va_up (va_up (va_up (va_up (fun _ => none) 0 (some ge5)) 1 (some ge5)) 2 (some ge5)) 3 (some ge5))))))), (h2, .inl (k1, 5, .inl (upd (upd (upd (upd (upd (fun _ => 0) 0 l1) 1 l2) 2 l3) 3 l4) 4 l5))), (h3, .inr (0, [.ref h4, .int 0, .int 0, .int 0])), (h4, .inl (k2, 1, .inl f0))]) (w1 := []) hP hD [] [0, 1, 2, 3, 4] rfl rfl (by decide) (by decide) hk1 hFc hP1 hD1
    generalize H1 = H at hP hS ⊢
    have hP : va_P (dC, dI) vwCl [(h0, .inr (9, [.int 0, .ref h1, .ref z0, .ref z1, .int 0, .int 0, .int 0])), (h1, .inl (k0, 4, .inr (.inr (.inr (.inr (va_up (va_up (va_up (va_up (fun _ => none) 0 (some ge5)) 1 (some ge5)) 2 (some ge5)) 3 (some ge5))))))), (h2, .inl (k1, 5, .inl (upd (upd (upd (upd (upd (fun _ => 0) 0 l1) 1 l2) 2 l3) 3 l4) 4 l5))), (h3, .inr (0, [.ref h4, .int 0, .int 0, .int 0])), (h4, .inl (k2, 1, .inl f0))] H := hP
    have hD : va_D A [(h0, .inr (9, [.int 0, .ref h1, .ref z0, .ref z1, .int 0, .int 0, .int 0])), (h1, .inl (k0, 4, .inr (.inr (.inr (.inr (va_up (va_up (va_up (va_up (fun _ => none) 0 (some ge5)) 1 (some ge5)) 2 (some ge5)) 3 (some ge5))))))), (h2, .inl (k1, 5, .inl (upd (upd (upd (upd (upd (fun _ => 0) 0 l1) 1 l2) 2 l3) 3 l4) 4 l5))), (h3, .inr (0, [.ref h4, .int 0, .int 0, .int 0])), (h4, .inl (k2, 1, .inl f0))] := hD
    refine lv_if_ne (tgt := 77) hx hb dX5_type_70 (by decide) (fun c9 => absurd (by decide) c9) (fun _ => ?_)
    refine lv_iconst (v := 1) hx hb dX5_type_73 (by decide) ?_
    refine lv_goto (tgt := 78) hx hb dX5_type_74 (by decide) ?_
    refine lv_ior hx hb dX5_type_78 ?_
    refine lv_topi (fun y101 ey101 => ?_)
    obtain rfl : y101 = 1 := ey101.trans (by decide)
    refine lv_istore (lv' := [(8, .int 1), (13, .int l2), (0, .ref h0), (1, .int rp), (7, .ref h2), (9, .ref h3), (10, .ref h2), (11, .int 5), (12, .int 1)]) hx hb dX5_type_79 hl (by decide) rfl (fun ls hl => ?_)
    refine lv_iload hx hb dX5_type_81 (lv_at hl 1 rfl) ?_
    refine lv_iconst (v := 0) hx hb dX5_type_83 (by decide) ?_
    refine lv_iconst (v := 3) hx hb dX5_type_84 (by decide) ?_
    have hPc := hP.sub (ws' := []) [] rfl
    have hDc := hD.sub (ws' := []) [] (by decide) rfl
    have hKc := hK.sub (tys' := []) [] rfl
    have hFc := va_free (wc := []) hD hS hA [] rfl
    refine va_calli (va_runS (As := [.int l2, .int 0, .int 3]) (rest := []) ⟨hx, hb, hml, hown, hts⟩ (kx_X5_isIn_2 l dC dI H.size l2 l2_l l2_u) (cwS 3 hts gX5_type_X5_isIn rfl rfl rfl (by decide +kernel) ⟨Nat.le_of_ble_eq_true rfl, Nat.le_of_ble_eq_true rfl⟩) ⟨fun a U g mk q => by obtain ⟨q0, q1, qP, qK, qD⟩ := q; exact ⟨q0, q1, qP, va_K.moved (u := U) (U := U.calling g mk a) (Vm.Alike.refl U.vm) qK, qD⟩, fun U hU hW => ⟨rfl, by rw [hU], by rw [hU]; exact hPc, va_K.moved hW.alike hKc, hDc.weaken (fun _ _ _ _ => trivial)⟩⟩ rfl rfl hl.1 rfl (lv_room (Nat.le_of_ble_eq_true rfl)) dX5_type_85 ⟨Nat.le_of_ble_eq_true rfl, Nat.le_of_ble_eq_true rfl⟩) hS (fun q _ h => hFc q h) hFc (fun r9 u t H1 locs ht hvm hw hB hz1 hk1 hS => ?_)
    obtain rfl := hw
    obtain ⟨hP1, hK1, hD1⟩ := hB
    rw [ht] at hP1
    have hK1 := va_K.moved hvm.symm hK1
    obtain ⟨hP, hD⟩ := va_join (wr := [(h0, .inr (9, [.int 0, .ref h1, .ref z0, .ref z1, .int 0, .int 0, .int 0])), (h1, .inl (k0, 4, .inr (.inr (.inr (.inr (va_up (va_up (va_up (va_up (fun _ => none) 0 (some ge5)) 1 (some ge5)) 2 (some ge5)) 3 (some ge5))))))), (h2, .inl (k1, 5, .inl (upd (upd (upd (upd (upd (fun _ => 0) 0 l1) 1 l2) 2 l3) 3 l4) 4 l5))), (h3, .inr (0, [.ref h4, .int 0, .int 0, .int 0])), (h4, .inl (k2, 1, .inl f0))]) (w1 := []) hP hD [] [0, 1, 2, 3, 4] rfl rfl (by decide) (by decide) hk1 hFc hP1 hD1
    generalize H1 = H at hP hS ⊢
    have hP : va_P (dC, dI) vwCl [(h0, .inr (9, [.int 0, .ref h1, .ref z0, .ref z1, .int 0, .int 0, .int 0])), (h1, .inl (k0, 4, .inr (.inr (.inr (.inr (va_up (va_up (va_up (va_up (fun _ => none) 0 (some ge5)) 1 (some ge5)) 2 (some ge5)) 3 (some ge5))))))), (h2, .inl (k1, 5, .inl (upd (upd (upd (upd (upd (fun _ => 0) 0 l1) 1 l2) 2 l3) 3 l4) 4 l5))), (h3, .inr (0, [.ref h4, .int 0, .int 0, .int 0])), (h4, .inl (k2, 1, .inl f0))] H := hP
    have hD : va_D A [(h0, .inr (9, [.int 0, .ref h1, .ref z0, .ref z1, .int 0, .int 0, .int 0])), (h1, .inl (k0, 4, .inr (.inr (.inr (.inr (va_up (va_up (va_up (va_up (fun _ => none) 0 (some ge5)) 1 (some ge5)) 2 (some ge5)) 3 (some ge5))))))), (h2, .inl (k1, 5, .inl (upd (upd (upd (upd (upd (fun _ => 0) 0 l1) 1 l2) 2 l3) 3 l4) 4 l5))), (h3, .inr (0, [.ref h4, .int 0, .int 0, .int 0])), (h4, .inl (k2, 1, .inl f0))] := hD
    refine lv_if_eq (tgt := 118) hx hb dX5_type_88 (by decide) (fun _ => ?_) (fun c9 => absurd (by decide) c9)
    refine lv_iinc (v := 2) (lv' := [(12, .int 2), (8, .int 1), (13, .int l2), (0, .ref h0), (1, .int rp), (7, .ref h2), (9, .ref h3), (10, .ref h2), (11, .int 5)]) hx hb dX5_type_118 hl (k := 8) rfl (by decide) (by decide) rfl (fun ls hl => ?_)
    refine lv_goto (tgt := 47) hx hb dX5_type_121 (by decide) ?_
    have hP := hP.sub (ws' := [(h0, .inr (9, [.int 0, .ref h1, .ref z0, .ref z1, .int 0, .int 0, .int 0])), (h1, .inl (k0, 4, .inr (.inr (.inr (.inr (va_up (va_up (va_up (va_up (fun _ => none) 0 (some ge5)) 1 (some ge5)) 2 (some ge5)) 3 (some ge5))))))), (h2, .inl (k1, 5, .inl (upd (upd (upd (upd (upd (fun _ => 0) 0 l1) 1 l2) 2 l3) 3 l4) 4 l5))), (h3, .inr (0, [.ref h4, .int 0, .int 0, .int 0])), (h4, .inl (k2, 1, .inl f0))]) [0, 1, 2, 3, 4] rfl
    have hD := hD.sub (ws' := [(h0, .inr (9, [.int 0, .ref h1, .ref z0, .ref z1, .int 0, .int 0, .int 0])), (h1, .inl (k0, 4, .inr (.inr (.inr (.inr (va_up (va_up (va_up (va_up (fun _ => none) 0 (some ge5)) 1 (some ge5)) 2 (some ge5)) 3 (some ge5))))))), (h2, .inl (k1, 5, .inl (upd (upd (upd (upd (upd (fun _ => 0) 0 l1) 1 l2) 2 l3) 3 l4) 4 l5))), (h3, .inr (0, [.ref h4, .int 0, .int 0, .int 0])), (h4, .inl (k2, 1, .inl f0))]) [0, 1, 2, 3, 4] (by decide) rfl
    have hK := hK.sub (tys' := [(k0, .object "java/lang/String"), (k1, .int), (k2, .byte)]) [0, 1, 2] rfl
    have hl := lv_sub hl [3, 4, 5, 1, 6, 7, 8, 0] (show lv_pick [(12, .int 2), (8, .int 1), (13, .int l2), (0, .ref h0), (1, .int rp), (7, .ref h2), (9, .ref h3), (10, .ref h2), (11, .int 5)] [3, 4, 5, 1, 6, 7, 8, 0] = [(0, .ref h0), (1, .int rp), (7, .ref h2), (8, .int 1), (9, .ref h3), (10, .ref h2), (11, .int 5), (12, .int 2)] from rfl)
    exact kx_X5_type_h211 f0_t hR hx hb hr hml hown hts hlocks hA hG hS hK hP hD hl
set_option maxHeartbeats 8000000 in
set_option maxRecDepth 100000 in
theorem kx_X5_type_h101 {l : Launch} {dC : Nat → ClassId} {dI : Nat → Nat → Nat} {ge5 gea gv5 gva gde gic gi0 : Nat} {h0 h1 h2 z0 z1 : Nat} {k0 k1 : ClassId} {rp l1 l2 l3 l4 l5 R v : Int32} {p : Program} {e : Env} {s : State} {m : MethodId} {args : Array Value} {below : List Frame} {meth : Method} {c : Code} {A : Nat → Prop} {H : Heap} {locs : List Loc} {ls : Array Slot} (hR : kz_ty rp 0 1 [l2, l3, l4, l5] = (R, v)) (hx : p.tables.exec = Jvm.exec) (hb : c.code = cX5_type) (hr : meth.sig.returnType = some .int) (hml : c.maxLocals = 14) (hown : s.vm.findClass RX5 = some m.cls) (hts : ∀ w ∈ wsX5_type, w.before args s = true) (hlocks : meth.locks = false) (hA : ∀ q : Nat, s.heap.size ≤ q → A q) (hG : gv ge5 gea gv5 gva gde gic gi0 A s s.heap) (hS : va_S A s.heap H locs) (hK : va_K (dC, dI) vwCl [(k0, .object "java/lang/String"), (k1, .int)] s) (hP : va_P (dC, dI) vwCl [(h0, .inr (9, [.int 0, .ref h1, .ref z0, .ref z1, .int 0, .int 0, .int 0])), (h1, .inl (k0, 4, .inr (.inr (.inr (.inr (va_up (va_up (va_up (va_up (fun _ => none) 0 (some ge5)) 1 (some ge5)) 2 (some ge5)) 3 (some ge5))))))), (h2, .inl (k1, 5, .inl (upd (upd (upd (upd (upd (fun _ => 0) 0 l1) 1 l2) 2 l3) 3 l4) 4 l5)))] H) (hD : va_D A [(h0, .inr (9, [.int 0, .ref h1, .ref z0, .ref z1, .int 0, .int 0, .int 0])), (h1, .inl (k0, 4, .inr (.inr (.inr (.inr (va_up (va_up (va_up (va_up (fun _ => none) 0 (some ge5)) 1 (some ge5)) 2 (some ge5)) 3 (some ge5))))))), (h2, .inl (k1, 5, .inl (upd (upd (upd (upd (upd (fun _ => 0) 0 l1) 1 l2) 2 l3) 3 l4) 4 l5)))]) (hl : lv_has ls 14 [(0, .ref h0), (1, .int rp), (7, .ref h2), (8, .int 1), (9, .ref ge5), (10, .ref h2), (11, .int 5), (12, .int 1)]) : W p l e (headSpec wsX5_type ({ frames := 6, cells := 25, slots := 169, locals := 171 })).room s m args below meth c H locs 1 5 (MQ below (va_Qi (fun (r : Int32) (_ : Unit) => r = R) (fun (_ : Unit) (t : State) => va_P (dC, dI) vwCl [(h0, .inr (9, [.int v, .ref h1, .ref z0, .ref z1, .int 0, .int 0, .int 0]))] t.heap ∧ va_K (dC, dI) vwCl [(k0, .object "java/lang/String")] t ∧ va_D A [(h0, .inr (9, [.int v, .ref h1, .ref z0, .ref z1, .int 0, .int 0, .int 0]))]) A) args s 25 169 A) (F0 m 47 ls []) := by
  obtain ⟨⟨g_AO_Text, g_AO_String, g_AO_Object, g_nm_RX1_20, g_nm_RX0_17, g_nm_RX3_31, g_nm_RX2_44, g_nm_RL_121, g_nf_RL_13, g_nf_RL_47, g_ca_IO, g_ca_IA, g_ca_IS, g_ca_IntObj, g_ca_StrObj, g_de_RT, g_de_EX, g_de_TH, g_nc_IA_IO, g_nc_IS_IO, g_nc_IS_IA⟩, ⟨g_s3, g_s5, g_sa, g_x278, g_x280, g_x282, g_x284, g_x286, g_x180, g_x238, g_x250⟩, ⟨g_o5, g_c5, g_v5, g_t5, g_oa, g_ca, g_va, g_ta, g_zc, g_zd, g_td, g_zf, g_zU, g_zN, g_zh, g_zk, g_tk, g_oi, g_vi⟩⟩ := id hG
  have a9 := Int32.le_toInt l2
  have b9 := Int32.toInt_lt l2
  rcases kz_cls l2 with r9 | rfl | rfl | rfl | rfl | rfl | r9
  · have l2_l : ((-2147483648) : Int) ≤ l2.toInt := by omega
    have l2_u : l2.toInt ≤ ((-2) : Int) := by omega
    have hR : kz_ty rp 0 1 [l3, l4, l5] = (R, v) := (kz_ty_b (by omega)).symm.trans hR
    refine lv_iload hx hb dX5_type_47 (lv_at hl 7 rfl) ?_
    refine lv_iload hx hb dX5_type_49 (lv_at hl 6 rfl) ?_
    refine lv_icmp_ge (tgt := 124) hx hb dX5_type_51 (by decide) (fun c9 => absurd c9 (by decide)) (fun _ => ?_)
    refine lv_aload hx hb dX5_type_54 (lv_at hl 5 rfl) ?_
    refine lv_iload hx hb dX5_type_56 (lv_at hl 7 rfl) ?_
    refine va_iald (D := (dC, dI)) hx hb hK hP 2 1 rfl rfl (by unfold vp_in; decide) dX5_type_58 ?_
    refine W.eq (g2 := F0 m 59 ls [.int l2]) rfl ?_
    refine lv_istore (lv' := [(13, .int l2), (0, .ref h0), (1, .int rp), (7, .ref h2), (8, .int 1), (9, .ref ge5), (10, .ref h2), (11, .int 5), (12, .int 1)]) hx hb dX5_type_59 hl (by decide) rfl (fun ls hl => ?_)
    refine lv_iload hx hb dX5_type_61 (lv_at hl 4 rfl) ?_
    refine lv_iload hx hb dX5_type_63 (lv_at hl 0 rfl) ?_
    refine lv_iconst (v := (-1)) hx hb dX5_type_65 (by decide) ?_
    refine lv_iconst (v := 3) hx hb dX5_type_66 (by decide) ?_
    have hPc := hP.sub (ws' := []) [] rfl
    have hDc := hD.sub (ws' := []) [] (by decide) rfl
    have hKc := hK.sub (tys' := []) [] rfl
    have hFc := va_free (wc := []) hD hS hA [] rfl
    refine va_calli (va_runS (As := [.int l2, .int (-1), .int 3]) (rest := [.int 1]) ⟨hx, hb, hml, hown, hts⟩ (kx_X5_isIn_3 l dC dI H.size l2 l2_l l2_u) (cwS 3 hts gX5_type_X5_isIn rfl rfl rfl (by decide +kernel) ⟨Nat.le_of_ble_eq_true rfl, Nat.le_of_ble_eq_true rfl⟩) ⟨fun a U g mk q => by obtain ⟨q0, q1, qP, qK, qD⟩ := q; exact ⟨q0, q1, qP, va_K.moved (u := U) (U := U.calling g mk a) (Vm.Alike.refl U.vm) qK, qD⟩, fun U hU hW => ⟨rfl, by rw [hU], by rw [hU]; exact hPc, va_K.moved hW.alike hKc, hDc.weaken (fun _ _ _ _ => trivial)⟩⟩ rfl rfl hl.1 rfl (lv_room (Nat.le_of_ble_eq_true rfl)) dX5_type_67 ⟨Nat.le_of_ble_eq_true rfl, Nat.le_of_ble_eq_true rfl⟩) hS (fun q _ h => hFc q h) hFc (fun r9 u t H1 locs ht hvm hw hB hz1 hk1 hS => ?_)
    obtain rfl := hw
    obtain ⟨hP1, hK1, hD1⟩ := hB
    rw [ht] at hP1
    have hK1 := va_K.moved hvm.symm hK1
    obtain ⟨hP, hD⟩ := va_join (wr := [(h0, .inr (9, [.int 0, .ref h1, .ref z0, .ref z1, .int 0, .int 0, .int 0])), (h1, .inl (k0, 4, .inr (.inr (.inr (.inr (va_up (va_up (va_up (va_up (fun _ => none) 0 (some ge5)) 1 (some ge5)) 2 (some ge5)) 3 (some ge5))))))), (h2, .inl (k1, 5, .inl (upd (upd (upd (upd (upd (fun _ => 0) 0 l1) 1 l2) 2 l3) 3 l4) 4 l5)))]) (w1 := []) hP hD [] [0, 1, 2] rfl rfl (by decide) (by decide) hk1 hFc hP1 hD1
    generalize H1 = H at hP hS ⊢
    have hP : va_P (dC, dI) vwCl [(h0, .inr (9, [.int 0, .ref h1, .ref z0, .ref z1, .int 0, .int 0, .int 0])), (h1, .inl (k0, 4, .inr (.inr (.inr (.inr (va_up (va_up (va_up (va_up (fun _ => none) 0 (some ge5)) 1 (some ge5)) 2 (some ge5)) 3 (some ge5))))))), (h2, .inl (k1, 5, .inl (upd (upd (upd (upd (upd (fun _ => 0) 0 l1) 1 l2) 2 l3) 3 l4) 4 l5)))] H := hP
    have hD : va_D A [(h0, .inr (9, [.int 0, .ref h1, .ref z0, .ref z1, .int 0, .int 0, .int 0])), (h1, .inl (k0, 4, .inr (.inr (.inr (.inr (va_up (va_up (va_up (va_up (fun _ => none) 0 (some ge5)) 1 (some ge5)) 2 (some ge5)) 3 (some ge5))))))), (h2, .inl (k1, 5, .inl (upd (upd (upd (upd (upd (fun _ => 0) 0 l1) 1 l2) 2 l3) 3 l4) 4 l5)))] := hD
    refine lv_if_ne (tgt := 77) hx hb dX5_type_70 (by decide) (fun c9 => absurd (by decide) c9) (fun _ => ?_)
    refine lv_iconst (v := 1) hx hb dX5_type_73 (by decide) ?_
    refine lv_goto (tgt := 78) hx hb dX5_type_74 (by decide) ?_
    refine lv_ior hx hb dX5_type_78 ?_
    refine lv_topi (fun y101 ey101 => ?_)
    obtain rfl : y101 = 1 := ey101.trans (by decide)
    refine lv_istore (lv' := [(8, .int 1), (13, .int l2), (0, .ref h0), (1, .int rp), (7, .ref h2), (9, .ref ge5), (10, .ref h2), (11, .int 5), (12, .int 1)]) hx hb dX5_type_79 hl (by decide) rfl (fun ls hl => ?_)
    refine lv_iload hx hb dX5_type_81 (lv_at hl 1 rfl) ?_
    refine lv_iconst (v := 0) hx hb dX5_type_83 (by decide) ?_
    refine lv_iconst (v := 3) hx hb dX5_type_84 (by decide) ?_
    have hPc := hP.sub (ws' := []) [] rfl
    have hDc := hD.sub (ws' := []) [] (by decide) rfl
    have hKc := hK.sub (tys' := []) [] rfl
    have hFc := va_free (wc := []) hD hS hA [] rfl
    refine va_calli (va_runS (As := [.int l2, .int 0, .int 3]) (rest := []) ⟨hx, hb, hml, hown, hts⟩ (kx_X5_isIn_4 l dC dI H.size l2 l2_l l2_u) (cwS 3 hts gX5_type_X5_isIn rfl rfl rfl (by decide +kernel) ⟨Nat.le_of_ble_eq_true rfl, Nat.le_of_ble_eq_true rfl⟩) ⟨fun a U g mk q => by obtain ⟨q0, q1, qP, qK, qD⟩ := q; exact ⟨q0, q1, qP, va_K.moved (u := U) (U := U.calling g mk a) (Vm.Alike.refl U.vm) qK, qD⟩, fun U hU hW => ⟨rfl, by rw [hU], by rw [hU]; exact hPc, va_K.moved hW.alike hKc, hDc.weaken (fun _ _ _ _ => trivial)⟩⟩ rfl rfl hl.1 rfl (lv_room (Nat.le_of_ble_eq_true rfl)) dX5_type_85 ⟨Nat.le_of_ble_eq_true rfl, Nat.le_of_ble_eq_true rfl⟩) hS (fun q _ h => hFc q h) hFc (fun r9 u t H1 locs ht hvm hw hB hz1 hk1 hS => ?_)
    obtain rfl := hw
    obtain ⟨hP1, hK1, hD1⟩ := hB
    rw [ht] at hP1
    have hK1 := va_K.moved hvm.symm hK1
    obtain ⟨hP, hD⟩ := va_join (wr := [(h0, .inr (9, [.int 0, .ref h1, .ref z0, .ref z1, .int 0, .int 0, .int 0])), (h1, .inl (k0, 4, .inr (.inr (.inr (.inr (va_up (va_up (va_up (va_up (fun _ => none) 0 (some ge5)) 1 (some ge5)) 2 (some ge5)) 3 (some ge5))))))), (h2, .inl (k1, 5, .inl (upd (upd (upd (upd (upd (fun _ => 0) 0 l1) 1 l2) 2 l3) 3 l4) 4 l5)))]) (w1 := []) hP hD [] [0, 1, 2] rfl rfl (by decide) (by decide) hk1 hFc hP1 hD1
    generalize H1 = H at hP hS ⊢
    have hP : va_P (dC, dI) vwCl [(h0, .inr (9, [.int 0, .ref h1, .ref z0, .ref z1, .int 0, .int 0, .int 0])), (h1, .inl (k0, 4, .inr (.inr (.inr (.inr (va_up (va_up (va_up (va_up (fun _ => none) 0 (some ge5)) 1 (some ge5)) 2 (some ge5)) 3 (some ge5))))))), (h2, .inl (k1, 5, .inl (upd (upd (upd (upd (upd (fun _ => 0) 0 l1) 1 l2) 2 l3) 3 l4) 4 l5)))] H := hP
    have hD : va_D A [(h0, .inr (9, [.int 0, .ref h1, .ref z0, .ref z1, .int 0, .int 0, .int 0])), (h1, .inl (k0, 4, .inr (.inr (.inr (.inr (va_up (va_up (va_up (va_up (fun _ => none) 0 (some ge5)) 1 (some ge5)) 2 (some ge5)) 3 (some ge5))))))), (h2, .inl (k1, 5, .inl (upd (upd (upd (upd (upd (fun _ => 0) 0 l1) 1 l2) 2 l3) 3 l4) 4 l5)))] := hD
    refine lv_if_eq (tgt := 118) hx hb dX5_type_88 (by decide) (fun _ => ?_) (fun c9 => absurd (by decide) c9)
    refine lv_iinc (v := 2) (lv' := [(12, .int 2), (8, .int 1), (13, .int l2), (0, .ref h0), (1, .int rp), (7, .ref h2), (9, .ref ge5), (10, .ref h2), (11, .int 5)]) hx hb dX5_type_118 hl (k := 8) rfl (by decide) (by decide) rfl (fun ls hl => ?_)
    refine lv_goto (tgt := 47) hx hb dX5_type_121 (by decide) ?_
    have hP := hP.sub (ws' := [(h0, .inr (9, [.int 0, .ref h1, .ref z0, .ref z1, .int 0, .int 0, .int 0])), (h1, .inl (k0, 4, .inr (.inr (.inr (.inr (va_up (va_up (va_up (va_up (fun _ => none) 0 (some ge5)) 1 (some ge5)) 2 (some ge5)) 3 (some ge5))))))), (h2, .inl (k1, 5, .inl (upd (upd (upd (upd (upd (fun _ => 0) 0 l1) 1 l2) 2 l3) 3 l4) 4 l5)))]) [0, 1, 2] rfl
    have hD := hD.sub (ws' := [(h0, .inr (9, [.int 0, .ref h1, .ref z0, .ref z1, .int 0, .int 0, .int 0])), (h1, .inl (k0, 4, .inr (.inr (.inr (.inr (va_up (va_up (va_up (va_up (fun _ => none) 0 (some ge5)) 1 (some ge5)) 2 (some ge5)) 3 (some ge5))))))), (h2, .inl (k1, 5, .inl (upd (upd (upd (upd (upd (fun _ => 0) 0 l1) 1 l2) 2 l3) 3 l4) 4 l5)))]) [0, 1, 2] (by decide) rfl
    have hK := hK.sub (tys' := [(k0, .object "java/lang/String"), (k1, .int)]) [0, 1] rfl
    have hl := lv_sub hl [3, 4, 5, 1, 6, 7, 8, 0] (show lv_pick [(12, .int 2), (8, .int 1), (13, .int l2), (0, .ref h0), (1, .int rp), (7, .ref h2), (9, .ref ge5), (10, .ref h2), (11, .int 5)] [3, 4, 5, 1, 6, 7, 8, 0] = [(0, .ref h0), (1, .int rp), (7, .ref h2), (8, .int 1), (9, .ref ge5), (10, .ref h2), (11, .int 5), (12, .int 2)] from rfl)
    exact kx_X5_type_h201 hR hx hb hr hml hown hts hlocks hA hG hS hK hP hD hl
  · have hR : kz_ty rp 0 1 [l3, l4, l5] = (R, v) := kz_ty_n.symm.trans hR
    refine lv_iload hx hb dX5_type_47 (lv_at hl 7 rfl) ?_
    refine lv_iload hx hb dX5_type_49 (lv_at hl 6 rfl) ?_
    refine lv_icmp_ge (tgt := 124) hx hb dX5_type_51 (by decide) (fun c9 => absurd c9 (by decide)) (fun _ => ?_)
    refine lv_aload hx hb dX5_type_54 (lv_at hl 5 rfl) ?_
    refine lv_iload hx hb dX5_type_56 (lv_at hl 7 rfl) ?_
    refine va_iald (D := (dC, dI)) hx hb hK hP 2 1 rfl rfl (by unfold vp_in; decide) dX5_type_58 ?_
    refine W.eq (g2 := F0 m 59 ls [.int (-1)]) rfl ?_
    refine lv_istore (lv' := [(13, .int (-1)), (0, .ref h0), (1, .int rp), (7, .ref h2), (8, .int 1), (9, .ref ge5), (10, .ref h2), (11, .int 5), (12, .int 1)]) hx hb dX5_type_59 hl (by decide) rfl (fun ls hl => ?_)
    refine lv_iload hx hb dX5_type_61 (lv_at hl 4 rfl) ?_
    refine lv_iload hx hb dX5_type_63 (lv_at hl 0 rfl) ?_
    refine lv_iconst (v := (-1)) hx hb dX5_type_65 (by decide) ?_
    refine lv_iconst (v := 3) hx hb dX5_type_66 (by decide) ?_
    have hPc := hP.sub (ws' := []) [] rfl
    have hDc := hD.sub (ws' := []) [] (by decide) rfl
    have hKc := hK.sub (tys' := []) [] rfl
    have hFc := va_free (wc := []) hD hS hA [] rfl
    refine va_calli (va_runS (As := [.int (-1), .int (-1), .int 3]) (rest := [.int 1]) ⟨hx, hb, hml, hown, hts⟩ (kx_X5_isIn_5 l dC dI H.size) (cwS 3 hts gX5_type_X5_isIn rfl rfl rfl (by decide +kernel) ⟨Nat.le_of_ble_eq_true rfl, Nat.le_of_ble_eq_true rfl⟩) ⟨fun a U g mk q => by obtain ⟨q0, q1, qP, qK, qD⟩ := q; exact ⟨q0, q1, qP, va_K.moved (u := U) (U := U.calling g mk a) (Vm.Alike.refl U.vm) qK, qD⟩, fun U hU hW => ⟨rfl, by rw [hU], by rw [hU]; exact hPc, va_K.moved hW.alike hKc, hDc.weaken (fun _ _ _ _ => trivial)⟩⟩ rfl rfl hl.1 rfl (lv_room (Nat.le_of_ble_eq_true rfl)) dX5_type_67 ⟨Nat.le_of_ble_eq_true rfl, Nat.le_of_ble_eq_true rfl⟩) hS (fun q _ h => hFc q h) hFc (fun r9 u t H1 locs ht hvm hw hB hz1 hk1 hS => ?_)
    obtain rfl := hw
    obtain ⟨hP1, hK1, hD1⟩ := hB
    rw [ht] at hP1
    have hK1 := va_K.moved hvm.symm hK1
    obtain ⟨hP, hD⟩ := va_join (wr := [(h0, .inr (9, [.int 0, .ref h1, .ref z0, .ref z1, .int 0, .int 0, .int 0])), (h1, .inl (k0, 4, .inr (.inr (.inr (.inr (va_up (va_up (va_up (va_up (fun _ => none) 0 (some ge5)) 1 (some ge5)) 2 (some ge5)) 3 (some ge5))))))), (h2, .inl (k1, 5, .inl (upd (upd (upd (upd (upd (fun _ => 0) 0 l1) 1 (-1)) 2 l3) 3 l4) 4 l5)))]) (w1 := []) hP hD [] [0, 1, 2] rfl rfl (by decide) (by decide) hk1 hFc hP1 hD1
    generalize H1 = H at hP hS ⊢
    have hP : va_P (dC, dI) vwCl [(h0, .inr (9, [.int 0, .ref h1, .ref z0, .ref z1, .int 0, .int 0, .int 0])), (h1, .inl (k0, 4, .inr (.inr (.inr (.inr (va_up (va_up (va_up (va_up (fun _ => none) 0 (some ge5)) 1 (some ge5)) 2 (some ge5)) 3 (some ge5))))))), (h2, .inl (k1, 5, .inl (upd (upd (upd (upd (upd (fun _ => 0) 0 l1) 1 (-1)) 2 l3) 3 l4) 4 l5)))] H := hP
    have hD : va_D A [(h0, .inr (9, [.int 0, .ref h1, .ref z0, .ref z1, .int 0, .int 0, .int 0])), (h1, .inl (k0, 4, .inr (.inr (.inr (.inr (va_up (va_up (va_up (va_up (fun _ => none) 0 (some ge5)) 1 (some ge5)) 2 (some ge5)) 3 (some ge5))))))), (h2, .inl (k1, 5, .inl (upd (upd (upd (upd (upd (fun _ => 0) 0 l1) 1 (-1)) 2 l3) 3 l4) 4 l5)))] := hD
    refine lv_if_ne (tgt := 77) hx hb dX5_type_70 (by decide) (fun _ => ?_) (fun c9 => absurd c9 (by decide))
    refine lv_iconst (v := 0) hx hb dX5_type_77 (by decide) ?_
    refine lv_ior hx hb dX5_type_78 ?_
    refine lv_topi (fun y101 ey101 => ?_)
    obtain rfl : y101 = 1 := ey101.trans (by decide)
    refine lv_istore (lv' := [(8, .int 1), (13, .int (-1)), (0, .ref h0), (1, .int rp), (7, .ref h2), (9, .ref ge5), (10, .ref h2), (11, .int 5), (12, .int 1)]) hx hb dX5_type_79 hl (by decide) rfl (fun ls hl => ?_)
    refine lv_iload hx hb dX5_type_81 (lv_at hl 1 rfl) ?_
    refine lv_iconst (v := 0) hx hb dX5_type_83 (by decide) ?_
    refine lv_iconst (v := 3) hx hb dX5_type_84 (by decide) ?_
    have hPc := hP.sub (ws' := []) [] rfl
    have hDc := hD.sub (ws' := []) [] (by decide) rfl
    have hKc := hK.sub (tys' := []) [] rfl
    have hFc := va_free (wc := []) hD hS hA [] rfl
    refine va_calli (va_runS (As := [.int (-1), .int 0, .int 3]) (rest := []) ⟨hx, hb, hml, hown, hts⟩ (kx_X5_isIn_6 l dC dI H.size) (cwS 3 hts gX5_type_X5_isIn rfl rfl rfl (by decide +kernel) ⟨Nat.le_of_ble_eq_true rfl, Nat.le_of_ble_eq_true rfl⟩) ⟨fun a U g mk q => by obtain ⟨q0, q1, qP, qK, qD⟩ := q; exact ⟨q0, q1, qP, va_K.moved (u := U) (U := U.calling g mk a) (Vm.Alike.refl U.vm) qK, qD⟩, fun U hU hW => ⟨rfl, by rw [hU], by rw [hU]; exact hPc, va_K.moved hW.alike hKc, hDc.weaken (fun _ _ _ _ => trivial)⟩⟩ rfl rfl hl.1 rfl (lv_room (Nat.le_of_ble_eq_true rfl)) dX5_type_85 ⟨Nat.le_of_ble_eq_true rfl, Nat.le_of_ble_eq_true rfl⟩) hS (fun q _ h => hFc q h) hFc (fun r9 u t H1 locs ht hvm hw hB hz1 hk1 hS => ?_)
    obtain rfl := hw
    obtain ⟨hP1, hK1, hD1⟩ := hB
    rw [ht] at hP1
    have hK1 := va_K.moved hvm.symm hK1
    obtain ⟨hP, hD⟩ := va_join (wr := [(h0, .inr (9, [.int 0, .ref h1, .ref z0, .ref z1, .int 0, .int 0, .int 0])), (h1, .inl (k0, 4, .inr (.inr (.inr (.inr (va_up (va_up (va_up (va_up (fun _ => none) 0 (some ge5)) 1 (some ge5)) 2 (some ge5)) 3 (some ge5))))))), (h2, .inl (k1, 5, .inl (upd (upd (upd (upd (upd (fun _ => 0) 0 l1) 1 (-1)) 2 l3) 3 l4) 4 l5)))]) (w1 := []) hP hD [] [0, 1, 2] rfl rfl (by decide) (by decide) hk1 hFc hP1 hD1
    generalize H1 = H at hP hS ⊢
    have hP : va_P (dC, dI) vwCl [(h0, .inr (9, [.int 0, .ref h1, .ref z0, .ref z1, .int 0, .int 0, .int 0])), (h1, .inl (k0, 4, .inr (.inr (.inr (.inr (va_up (va_up (va_up (va_up (fun _ => none) 0 (some ge5)) 1 (some ge5)) 2 (some ge5)) 3 (some ge5))))))), (h2, .inl (k1, 5, .inl (upd (upd (upd (upd (upd (fun _ => 0) 0 l1) 1 (-1)) 2 l3) 3 l4) 4 l5)))] H := hP
    have hD : va_D A [(h0, .inr (9, [.int 0, .ref h1, .ref z0, .ref z1, .int 0, .int 0, .int 0])), (h1, .inl (k0, 4, .inr (.inr (.inr (.inr (va_up (va_up (va_up (va_up (fun _ => none) 0 (some ge5)) 1 (some ge5)) 2 (some ge5)) 3 (some ge5))))))), (h2, .inl (k1, 5, .inl (upd (upd (upd (upd (upd (fun _ => 0) 0 l1) 1 (-1)) 2 l3) 3 l4) 4 l5)))] := hD
    refine lv_if_eq (tgt := 118) hx hb dX5_type_88 (by decide) (fun _ => ?_) (fun c9 => absurd (by decide) c9)
    refine lv_iinc (v := 2) (lv' := [(12, .int 2), (8, .int 1), (13, .int (-1)), (0, .ref h0), (1, .int rp), (7, .ref h2), (9, .ref ge5), (10, .ref h2), (11, .int 5)]) hx hb dX5_type_118 hl (k := 8) rfl (by decide) (by decide) rfl (fun ls hl => ?_)
    refine lv_goto (tgt := 47) hx hb dX5_type_121 (by decide) ?_
    have hP := hP.sub (ws' := [(h0, .inr (9, [.int 0, .ref h1, .ref z0, .ref z1, .int 0, .int 0, .int 0])), (h1, .inl (k0, 4, .inr (.inr (.inr (.inr (va_up (va_up (va_up (va_up (fun _ => none) 0 (some ge5)) 1 (some ge5)) 2 (some ge5)) 3 (some ge5))))))), (h2, .inl (k1, 5, .inl (upd (upd (upd (upd (upd (fun _ => 0) 0 l1) 1 (-1)) 2 l3) 3 l4) 4 l5)))]) [0, 1, 2] rfl
    have hD := hD.sub (ws' := [(h0, .inr (9, [.int 0, .ref h1, .ref z0, .ref z1, .int 0, .int 0, .int 0])), (h1, .inl (k0, 4, .inr (.inr (.inr (.inr (va_up (va_up (va_up (va_up (fun _ => none) 0 (some ge5)) 1 (some ge5)) 2 (some ge5)) 3 (some ge5))))))), (h2, .inl (k1, 5, .inl (upd (upd (upd (upd (upd (fun _ => 0) 0 l1) 1 (-1)) 2 l3) 3 l4) 4 l5)))]) [0, 1, 2] (by decide) rfl
    have hK := hK.sub (tys' := [(k0, .object "java/lang/String"), (k1, .int)]) [0, 1] rfl
    have hl := lv_sub hl [3, 4, 5, 1, 6, 7, 8, 0] (show lv_pick [(12, .int 2), (8, .int 1), (13, .int (-1)), (0, .ref h0), (1, .int rp), (7, .ref h2), (9, .ref ge5), (10, .ref h2), (11, .int 5)] [3, 4, 5, 1, 6, 7, 8, 0] = [(0, .ref h0), (1, .int rp), (7, .ref h2), (8, .int 1), (9, .ref ge5), (10, .ref h2), (11, .int 5), (12, .int 2)] from rfl)
    exact kx_X5_type_h201 hR hx hb hr hml hown hts hlocks hA hG hS hK hP hD hl
  · have hR : kz_ty rp 1 1 [l3, l4, l5] = (R, v) := (kz_ty_g (by decide) (by decide)).symm.trans hR
    refine lv_iload hx hb dX5_type_47 (lv_at hl 7 rfl) ?_
    refine lv_iload hx hb dX5_type_49 (lv_at hl 6 rfl) ?_
    refine lv_icmp_ge (tgt := 124) hx hb dX5_type_51 (by decide) (fun c9 => absurd c9 (by decide)) (fun _ => ?_)
    refine lv_aload hx hb dX5_type_54 (lv_at hl 5 rfl) ?_
    refine lv_iload hx hb dX5_type_56 (lv_at hl 7 rfl) ?_
    refine va_iald (D := (dC, dI)) hx hb hK hP 2 1 rfl rfl (by unfold vp_in; decide) dX5_type_58 ?_
    refine W.eq (g2 := F0 m 59 ls [.int 0]) rfl ?_
    refine lv_istore (lv' := [(13, .int 0), (0, .ref h0), (1, .int rp), (7, .ref h2), (8, .int 1), (9, .ref ge5), (10, .ref h2), (11, .int 5), (12, .int 1)]) hx hb dX5_type_59 hl (by decide) rfl (fun ls hl => ?_)
    refine lv_iload hx hb dX5_type_61 (lv_at hl 4 rfl) ?_
    refine lv_iload hx hb dX5_type_63 (lv_at hl 0 rfl) ?_
    refine lv_iconst (v := (-1)) hx hb dX5_type_65 (by decide) ?_
    refine lv_iconst (v := 3) hx hb dX5_type_66 (by decide) ?_
    have hPc := hP.sub (ws' := []) [] rfl
    have hDc := hD.sub (ws' := []) [] (by decide) rfl
    have hKc := hK.sub (tys' := []) [] rfl
    have hFc := va_free (wc := []) hD hS hA [] rfl
    refine va_calli (va_runS (As := [.int 0, .int (-1), .int 3]) (rest := [.int 1]) ⟨hx, hb, hml, hown, hts⟩ (kx_X5_isIn_7 l dC dI H.size) (cwS 3 hts gX5_type_X5_isIn rfl rfl rfl (by decide +kernel) ⟨Nat.le_of_ble_eq_true rfl, Nat.le_of_ble_eq_true rfl⟩) ⟨fun a U g mk q => by obtain ⟨q0, q1, qP, qK, qD⟩ := q; exact ⟨q0, q1, qP, va_K.moved (u := U) (U := U.calling g mk a) (Vm.Alike.refl U.vm) qK, qD⟩, fun U hU hW => ⟨rfl, by rw [hU], by rw [hU]; exact hPc, va_K.moved hW.alike hKc, hDc.weaken (fun _ _ _ _ => trivial)⟩⟩ rfl rfl hl.1 rfl (lv_room (Nat.le_of_ble_eq_true rfl)) dX5_type_67 ⟨Nat.le_of_ble_eq_true rfl, Nat.le_of_ble_eq_true rfl⟩) hS (fun q _ h => hFc q h) hFc (fun r9 u t H1 locs ht hvm hw hB hz1 hk1 hS => ?_)
    obtain rfl := hw
    obtain ⟨hP1, hK1, hD1⟩ := hB
    rw [ht] at hP1
    have hK1 := va_K.moved hvm.symm hK1
    obtain ⟨hP, hD⟩ := va_join (wr := [(h0, .inr (9, [.int 0, .ref h1, .ref z0, .ref z1, .int 0, .int 0, .int 0])), (h1, .inl (k0, 4, .inr (.inr (.inr (.inr (va_up (va_up (va_up (va_up (fun _ => none) 0 (some ge5)) 1 (some ge5)) 2 (some ge5)) 3 (some ge5))))))), (h2, .inl (k1, 5, .inl (upd (upd (upd (upd (upd (fun _ => 0) 0 l1) 1 0) 2 l3) 3 l4) 4 l5)))]) (w1 := []) hP hD [] [0, 1, 2] rfl rfl (by decide) (by decide) hk1 hFc hP1 hD1
    generalize H1 = H at hP hS ⊢
    have hP : va_P (dC, dI) vwCl [(h0, .inr (9, [.int 0, .ref h1, .ref z0, .ref z1, .int 0, .int 0, .int 0])), (h1, .inl (k0, 4, .inr (.inr (.inr (.inr (va_up (va_up (va_up (va_up (fun _ => none) 0 (some ge5)) 1 (some ge5)) 2 (some ge5)) 3 (some ge5))))))), (h2, .inl (k1, 5, .inl (upd (upd (upd (upd (upd (fun _ => 0) 0 l1) 1 0) 2 l3) 3 l4) 4 l5)))] H := hP
    have hD : va_D A [(h0, .inr (9, [.int 0, .ref h1, .ref z0, .ref z1, .int 0, .int 0, .int 0])), (h1, .inl (k0, 4, .inr (.inr (.inr (.inr (va_up (va_up (va_up (va_up (fun _ => none) 0 (some ge5)) 1 (some ge5)) 2 (some ge5)) 3 (some ge5))))))), (h2, .inl (k1, 5, .inl (upd (upd (upd (upd (upd (fun _ => 0) 0 l1) 1 0) 2 l3) 3 l4) 4 l5)))] := hD
    refine lv_if_ne (tgt := 77) hx hb dX5_type_70 (by decide) (fun _ => ?_) (fun c9 => absurd c9 (by decide))
    refine lv_iconst (v := 0) hx hb dX5_type_77 (by decide) ?_
    refine lv_ior hx hb dX5_type_78 ?_
    refine lv_topi (fun y101 ey101 => ?_)
    obtain rfl : y101 = 1 := ey101.trans (by decide)
    refine lv_istore (lv' := [(8, .int 1), (13, .int 0), (0, .ref h0), (1, .int rp), (7, .ref h2), (9, .ref ge5), (10, .ref h2), (11, .int 5), (12, .int 1)]) hx hb dX5_type_79 hl (by decide) rfl (fun ls hl => ?_)
    refine lv_iload hx hb dX5_type_81 (lv_at hl 1 rfl) ?_
    refine lv_iconst (v := 0) hx hb dX5_type_83 (by decide) ?_
    refine lv_iconst (v := 3) hx hb dX5_type_84 (by decide) ?_
    have hPc := hP.sub (ws' := []) [] rfl
    have hDc := hD.sub (ws' := []) [] (by decide) rfl
    have hKc := hK.sub (tys' := []) [] rfl
    have hFc := va_free (wc := []) hD hS hA [] rfl
    refine va_calli (va_runS (As := [.int 0, .int 0, .int 3]) (rest := []) ⟨hx, hb, hml, hown, hts⟩ (kx_X5_isIn_8 l dC dI H.size) (cwS 3 hts gX5_type_X5_isIn rfl rfl rfl (by decide +kernel) ⟨Nat.le_of_ble_eq_true rfl, Nat.le_of_ble_eq_true rfl⟩) ⟨fun a U g mk q => by obtain ⟨q0, q1, qP, qK, qD⟩ := q; exact ⟨q0, q1, qP, va_K.moved (u := U) (U := U.calling g mk a) (Vm.Alike.refl U.vm) qK, qD⟩, fun U hU hW => ⟨rfl, by rw [hU], by rw [hU]; exact hPc, va_K.moved hW.alike hKc, hDc.weaken (fun _ _ _ _ => trivial)⟩⟩ rfl rfl hl.1 rfl (lv_room (Nat.le_of_ble_eq_true rfl)) dX5_type_85 ⟨Nat.le_of_ble_eq_true rfl, Nat.le_of_ble_eq_true rfl⟩) hS (fun q _ h => hFc q h) hFc (fun r9 u t H1 locs ht hvm hw hB hz1 hk1 hS => ?_)
    obtain rfl := hw
    obtain ⟨hP1, hK1, hD1⟩ := hB
    rw [ht] at hP1
    have hK1 := va_K.moved hvm.symm hK1
    obtain ⟨hP, hD⟩ := va_join (wr := [(h0, .inr (9, [.int 0, .ref h1, .ref z0, .ref z1, .int 0, .int 0, .int 0])), (h1, .inl (k0, 4, .inr (.inr (.inr (.inr (va_up (va_up (va_up (va_up (fun _ => none) 0 (some ge5)) 1 (some ge5)) 2 (some ge5)) 3 (some ge5))))))), (h2, .inl (k1, 5, .inl (upd (upd (upd (upd (upd (fun _ => 0) 0 l1) 1 0) 2 l3) 3 l4) 4 l5)))]) (w1 := []) hP hD [] [0, 1, 2] rfl rfl (by decide) (by decide) hk1 hFc hP1 hD1
    generalize H1 = H at hP hS ⊢
    have hP : va_P (dC, dI) vwCl [(h0, .inr (9, [.int 0, .ref h1, .ref z0, .ref z1, .int 0, .int 0, .int 0])), (h1, .inl (k0, 4, .inr (.inr (.inr (.inr (va_up (va_up (va_up (va_up (fun _ => none) 0 (some ge5)) 1 (some ge5)) 2 (some ge5)) 3 (some ge5))))))), (h2, .inl (k1, 5, .inl (upd (upd (upd (upd (upd (fun _ => 0) 0 l1) 1 0) 2 l3) 3 l4) 4 l5)))] H := hP
    have hD : va_D A [(h0, .inr (9, [.int 0, .ref h1, .ref z0, .ref z1, .int 0, .int 0, .int 0])), (h1, .inl (k0, 4, .inr (.inr (.inr (.inr (va_up (va_up (va_up (va_up (fun _ => none) 0 (some ge5)) 1 (some ge5)) 2 (some ge5)) 3 (some ge5))))))), (h2, .inl (k1, 5, .inl (upd (upd (upd (upd (upd (fun _ => 0) 0 l1) 1 0) 2 l3) 3 l4) 4 l5)))] := hD
    refine lv_if_eq (tgt := 118) hx hb dX5_type_88 (by decide) (fun c9 => absurd c9 (by decide)) (fun _ => ?_)
    refine va_new (ci := 1) (fs := [.null, .int 0, .int 0, .int 0]) (C := RJ4) (T := TJ4) (N := 4) hx hb hts (by decide +kernel) tyJ4 tyJ4_ok hown (hts (.classLink RX5 49 RJ4) (by decide +kernel)) (hts (.instantiable RJ4 4) (by decide +kernel)) (hts (.initialized RJ4) (by decide +kernel)) hK hP hD hS hA rfl (fun j hj => by rcases (show j = 0 ∨ j = 1 ∨ j = 2 ∨ j = 3 by omega) with rfl | rfl | rfl | rfl <;> rfl) (Nat.le_of_ble_eq_true rfl) (Nat.le_of_ble_eq_true rfl) dX5_type_91 (fun q102 H hP hD hS => ?_)
    have hP : va_P (dC, dI) vwCl [(h0, .inr (9, [.int 0, .ref h1, .ref z0, .ref z1, .int 0, .int 0, .int 0])), (h1, .inl (k0, 4, .inr (.inr (.inr (.inr (va_up (va_up (va_up (va_up (fun _ => none) 0 (some ge5)) 1 (some ge5)) 2 (some ge5)) 3 (some ge5))))))), (h2, .inl (k1, 5, .inl (upd (upd (upd (upd (upd (fun _ => 0) 0 l1) 1 0) 2 l3) 3 l4) 4 l5))), (q102, .inr (1, [.null, .int 0, .int 0, .int 0]))] H := hP
    have hD : va_D A [(h0, .inr (9, [.int 0, .ref h1, .ref z0, .ref z1, .int 0, .int 0, .int 0])), (h1, .inl (k0, 4, .inr (.inr (.inr (.inr (va_up (va_up (va_up (va_up (fun _ => none) 0 (some ge5)) 1 (some ge5)) 2 (some ge5)) 3 (some ge5))))))), (h2, .inl (k1, 5, .inl (upd (upd (upd (upd (upd (fun _ => 0) 0 l1) 1 0) 2 l3) 3 l4) 4 l5))), (q102, .inr (1, [.null, .int 0, .int 0, .int 0]))] := hD
    refine W.widen (k := 2) (n := 9) (by omega) (by omega) ?_
    refine lv_dup hx hb dX5_type_94 rfl ?_
    have hPc := hP.sub (ws' := [(q102, .inr (1, [.null, .int 0, .int 0, .int 0]))]) [3] rfl
    have hDc := hD.sub (ws' := [(q102, .inr (1, [.null, .int 0, .int 0, .int 0]))]) [3] (by decide) rfl
    have hKc := hK.sub (tys' := []) [] rfl
    have hFc := va_free (wc := [(q102, .inr (1, [.null, .int 0, .int 0, .int 0]))]) hD hS hA [3] rfl
    refine va_callv (va_runI (As := []) (rest := [.ref q102]) ⟨hx, hb, hml, hown, hts⟩ (kx_J4_init_da8c8_0 l dC dI ge5 gea gv5 gva gde gic gi0 q102 H.size) (cwI 0 hts gX5_type_J4_init_da8c8 rfl rfl rfl (hts (.initialized RJ4) (by decide +kernel)) (hts (.methodLink RX5 51 yJ4_init_da8c8) (by decide +kernel)) (hts (.instanceMethod yJ4_init_da8c8) (by decide +kernel)) rfl (by decide +kernel) ⟨Nat.le_of_ble_eq_true rfl, Nat.le_of_ble_eq_true rfl⟩) ⟨fun a U g mk q => by obtain ⟨q0, q1, qP, qK, qD, qG⟩ := q; exact ⟨q0, q1, qP, va_K.moved (u := U) (U := U.calling g mk a) (Vm.Alike.refl U.vm) qK, qD, gv.fb qG⟩, fun U hU hW => ⟨rfl, by rw [hU], by rw [hU]; exact hPc, va_K.moved hW.alike hKc, hDc.weaken (fun _ _ _ _ => trivial), gv.pass hW hU hS hFc hG⟩⟩ rfl rfl hl.1 rfl (lv_room (Nat.le_of_ble_eq_true rfl)) dX5_type_95 ⟨Nat.le_of_ble_eq_true rfl, Nat.le_of_ble_eq_true rfl⟩) hS (fun q _ h => hFc q h) hFc (fun u t H1 locs ht hvm hw hB hz1 hk1 hS => ?_)
    obtain ⟨q103, cq104, hP1, hK1, hD1⟩ := hB
    rw [ht] at hP1
    have hK1 := va_K.moved hvm.symm hK1
    obtain ⟨hP, hD⟩ := va_join (wr := [(h0, .inr (9, [.int 0, .ref h1, .ref z0, .ref z1, .int 0, .int 0, .int 0])), (h1, .inl (k0, 4, .inr (.inr (.inr (.inr (va_up (va_up (va_up (va_up (fun _ => none) 0 (some ge5)) 1 (some ge5)) 2 (some ge5)) 3 (some ge5))))))), (h2, .inl (k1, 5, .inl (upd (upd (upd (upd (upd (fun _ => 0) 0 l1) 1 0) 2 l3) 3 l4) 4 l5)))]) (w1 := [(q102, .inr (1, [.ref q103, .int 0, .int 0, .int 0])), (q103, .inl (cq104, 16, .inl (fun _ => 0)))]) hP hD [3] [0, 1, 2] rfl rfl (by decide) (by decide) hk1 hFc hP1 hD1
    have hK := hK.app (hK1.sub (tys' := [(cq104, .byte)]) [0] rfl)
    generalize H1 = H at hP hS ⊢
    have hK : va_K (dC, dI) vwCl [(k0, .object "java/lang/String"), (k1, .int), (cq104, .byte)] s := hK
    have hP : va_P (dC, dI) vwCl [(h0, .inr (9, [.int 0, .ref h1, .ref z0, .ref z1, .int 0, .int 0, .int 0])), (h1, .inl (k0, 4, .inr (.inr (.inr (.inr (va_up (va_up (va_up (va_up (fun _ => none) 0 (some ge5)) 1 (some ge5)) 2 (some ge5)) 3 (some ge5))))))), (h2, .inl (k1, 5, .inl (upd (upd (upd (upd (upd (fun _ => 0) 0 l1) 1 0) 2 l3) 3 l4) 4 l5))), (q102, .inr (1, [.ref q103, .int 0, .int 0, .int 0])), (q103, .inl (cq104, 16, .inl (fun _ => 0)))] H := hP
    have hD : va_D A [(h0, .inr (9, [.int 0, .ref h1, .ref z0, .ref z1, .int 0, .int 0, .int 0])), (h1, .inl (k0, 4, .inr (.inr (.inr (.inr (va_up (va_up (va_up (va_up (fun _ => none) 0 (some ge5)) 1 (some ge5)) 2 (some ge5)) 3 (some ge5))))))), (h2, .inl (k1, 5, .inl (upd (upd (upd (upd (upd (fun _ => 0) 0 l1) 1 0) 2 l3) 3 l4) 4 l5))), (q102, .inr (1, [.ref q103, .int 0, .int 0, .int 0])), (q103, .inl (cq104, 16, .inl (fun _ => 0)))] := hD
    refine W.widen (k := 3) (n := 25) (by omega) (by omega) ?_
    refine lv_aload hx hb dX5_type_98 (lv_at hl 5 rfl) ?_
    have hPc := hP.sub (ws' := [(q102, .inr (1, [.ref q103, .int 0, .int 0, .int 0])), (q103, .inl (cq104, 16, .inl (fun _ => 0)))]) [3, 4] rfl
    have hDc := hD.sub (ws' := [(q102, .inr (1, [.ref q103, .int 0, .int 0, .int 0])), (q103, .inl (cq104, 16, .inl (fun _ => 0)))]) [3, 4] (by decide) rfl
    have hKc := hK.sub (tys' := [(cq104, .byte)]) [2] rfl
    have hFc := va_free (wc := [(q102, .inr (1, [.ref q103, .int 0, .int 0, .int 0])), (q103, .inl (cq104, 16, .inl (fun _ => 0)))]) hD hS hA [3, 4] rfl
    refine va_callr (va_runV (As := [.ref ge5]) (rest := []) ⟨hx, hb, hml, hown, hts⟩ (kx_J4_append_15ec4_0 l dC dI ge5 gea gv5 gva gde gic gi0 q102 q103 cq104 H.size) (cwV 1 hts gX5_type_J4_append_15ec4 rfl rfl rfl (by decide +kernel) ⟨Nat.le_of_ble_eq_true rfl, Nat.le_of_ble_eq_true rfl⟩) ⟨fun a U g mk q => by obtain ⟨q0, q1, qP, qK, qD, qG⟩ := q; exact ⟨q0, q1, qP, va_K.moved (u := U) (U := U.calling g mk a) (Vm.Alike.refl U.vm) qK, qD, gv.fb qG⟩, va_recv hKc hPc (ci := 1) (q0 := 0) rfl rfl, fun U hU hW => ⟨rfl, by rw [hU], by rw [hU]; exact hPc, va_K.moved hW.alike hKc, hDc.weaken (fun _ _ _ _ => trivial), gv.pass hW hU hS hFc hG⟩⟩ rfl rfl hl.1 rfl (lv_room (Nat.le_of_ble_eq_true rfl)) dX5_type_100 ⟨Nat.le_of_ble_eq_true rfl, Nat.le_of_ble_eq_true rfl⟩) hS (fun q _ h => hFc q h) hFc (fun u ra t H1 locs ht hvm hw hB hz1 hk1 hS => ?_)
    obtain ⟨hra, hP1, hK1, hD1⟩ := hB
    rw [hra]
    rw [ht] at hP1
    have hK1 := va_K.moved hvm.symm hK1
    obtain ⟨hP, hD⟩ := va_join (wr := [(h0, .inr (9, [.int 0, .ref h1, .ref z0, .ref z1, .int 0, .int 0, .int 0])), (h1, .inl (k0, 4, .inr (.inr (.inr (.inr (va_up (va_up (va_up (va_up (fun _ => none) 0 (some ge5)) 1 (some ge5)) 2 (some ge5)) 3 (some ge5))))))), (h2, .inl (k1, 5, .inl (upd (upd (upd (upd (upd (fun _ => 0) 0 l1) 1 0) 2 l3) 3 l4) 4 l5)))]) (w1 := [(q102, .inr (1, [.ref q103, .int 0, .int 0, .int 0])), (q103, .inl (cq104, 16, .inl (fun _ => 0)))]) hP hD [3, 4] [0, 1, 2] rfl rfl (by decide) (by decide) hk1 hFc hP1 hD1
    generalize H1 = H at hP hS ⊢
    have hP : va_P (dC, dI) vwCl [(h0, .inr (9, [.int 0, .ref h1, .ref z0, .ref z1, .int 0, .int 0, .int 0])), (h1, .inl (k0, 4, .inr (.inr (.inr (.inr (va_up (va_up (va_up (va_up (fun _ => none) 0 (some ge5)) 1 (some ge5)) 2 (some ge5)) 3 (some ge5))))))), (h2, .inl (k1, 5, .inl (upd (upd (upd (upd (upd (fun _ => 0) 0 l1) 1 0) 2 l3) 3 l4) 4 l5))), (q102, .inr (1, [.ref q103, .int 0, .int 0, .int 0])), (q103, .inl (cq104, 16, .inl (fun _ => 0)))] H := hP
    have hD : va_D A [(h0, .inr (9, [.int 0, .ref h1, .ref z0, .ref z1, .int 0, .int 0, .int 0])), (h1, .inl (k0, 4, .inr (.inr (.inr (.inr (va_up (va_up (va_up (va_up (fun _ => none) 0 (some ge5)) 1 (some ge5)) 2 (some ge5)) 3 (some ge5))))))), (h2, .inl (k1, 5, .inl (upd (upd (upd (upd (upd (fun _ => 0) 0 l1) 1 0) 2 l3) 3 l4) 4 l5))), (q102, .inr (1, [.ref q103, .int 0, .int 0, .int 0])), (q103, .inl (cq104, 16, .inl (fun _ => 0)))] := hD
    refine va_ldcS hx hb hown g_sa dX5_type_103 ?_
    refine lv_iload hx hb dX5_type_105 (lv_at hl 1 rfl) ?_
    have hPc := hP.sub (ws' := []) [] rfl
    have hDc := hD.sub (ws' := []) [] (by decide) rfl
    have hKc := hK.sub (tys' := []) [] rfl
    have hFc := va_free (wc := []) hD hS hA [] rfl
    refine va_calli (va_runV (As := [.int 0]) (rest := [.ref q102]) ⟨hx, hb, hml, hown, hts⟩ (kx_J0_charAt_5068e_0 l dC dI ge5 gea gv5 gva gde gic gi0 H.size) (cwV 1 hts gX5_type_J0_charAt_5068e rfl rfl rfl (by decide +kernel) ⟨Nat.le_of_ble_eq_true rfl, Nat.le_of_ble_eq_true rfl⟩) ⟨fun a U g mk q => by obtain ⟨q0, q1, qP, qK, qD, qG⟩ := q; exact ⟨q0, q1, qP, va_K.moved (u := U) (U := U.calling g mk a) (Vm.Alike.refl U.vm) qK, qD, gv.fb qG⟩, (by obtain ⟨cell, k1, k2, k3, -⟩ := g_oa.kept hS.2.1; exact ⟨cell, k1, k2, k3⟩), fun U hU hW => ⟨rfl, by rw [hU], by rw [hU]; exact hPc, va_K.moved hW.alike hKc, hDc.weaken (fun _ _ _ _ => trivial), gv.pass hW hU hS hFc hG⟩⟩ rfl rfl hl.1 rfl (lv_room (Nat.le_of_ble_eq_true rfl)) dX5_type_107 ⟨Nat.le_of_ble_eq_true rfl, Nat.le_of_ble_eq_true rfl⟩) hS (fun q _ h => hFc q h) hFc (fun r9 u t H1 locs ht hvm hw hB hz1 hk1 hS => ?_)
    obtain rfl := hw
    obtain ⟨hP1, hK1, hD1⟩ := hB
    rw [ht] at hP1
    have hK1 := va_K.moved hvm.symm hK1
    obtain ⟨hP, hD⟩ := va_join (wr := [(h0, .inr (9, [.int 0, .ref h1, .ref z0, .ref z1, .int 0, .int 0, .int 0])), (h1, .inl (k0, 4, .inr (.inr (.inr (.inr (va_up (va_up (va_up (va_up (fun _ => none) 0 (some ge5)) 1 (some ge5)) 2 (some ge5)) 3 (some ge5))))))), (h2, .inl (k1, 5, .inl (upd (upd (upd (upd (upd (fun _ => 0) 0 l1) 1 0) 2 l3) 3 l4) 4 l5))), (q102, .inr (1, [.ref q103, .int 0, .int 0, .int 0])), (q103, .inl (cq104, 16, .inl (fun _ => 0)))]) (w1 := []) hP hD [] [0, 1, 2, 3, 4] rfl rfl (by decide) (by decide) hk1 hFc hP1 hD1
    generalize H1 = H at hP hS ⊢
    have hP : va_P (dC, dI) vwCl [(h0, .inr (9, [.int 0, .ref h1, .ref z0, .ref z1, .int 0, .int 0, .int 0])), (h1, .inl (k0, 4, .inr (.inr (.inr (.inr (va_up (va_up (va_up (va_up (fun _ => none) 0 (some ge5)) 1 (some ge5)) 2 (some ge5)) 3 (some ge5))))))), (h2, .inl (k1, 5, .inl (upd (upd (upd (upd (upd (fun _ => 0) 0 l1) 1 0) 2 l3) 3 l4) 4 l5))), (q102, .inr (1, [.ref q103, .int 0, .int 0, .int 0])), (q103, .inl (cq104, 16, .inl (fun _ => 0)))] H := hP
    have hD : va_D A [(h0, .inr (9, [.int 0, .ref h1, .ref z0, .ref z1, .int 0, .int 0, .int 0])), (h1, .inl (k0, 4, .inr (.inr (.inr (.inr (va_up (va_up (va_up (va_up (fun _ => none) 0 (some ge5)) 1 (some ge5)) 2 (some ge5)) 3 (some ge5))))))), (h2, .inl (k1, 5, .inl (upd (upd (upd (upd (upd (fun _ => 0) 0 l1) 1 0) 2 l3) 3 l4) 4 l5))), (q102, .inr (1, [.ref q103, .int 0, .int 0, .int 0])), (q103, .inl (cq104, 16, .inl (fun _ => 0)))] := hD
    have hPc := hP.sub (ws' := [(q102, .inr (1, [.ref q103, .int 0, .int 0, .int 0])), (q103, .inl (cq104, 16, .inl (fun _ => 0)))]) [3, 4] rfl
    have hDc := hD.sub (ws' := [(q102, .inr (1, [.ref q103, .int 0, .int 0, .int 0])), (q103, .inl (cq104, 16, .inl (fun _ => 0)))]) [3, 4] (by decide) rfl
    have hKc := hK.sub (tys' := [(cq104, .byte)]) [2] rfl
    have hFc := va_free (wc := [(q102, .inr (1, [.ref q103, .int 0, .int 0, .int 0])), (q103, .inl (cq104, 16, .inl (fun _ => 0)))]) hD hS hA [3, 4] rfl
    refine va_callr (va_runV (As := [.int 97]) (rest := []) ⟨hx, hb, hml, hown, hts⟩ (kx_J4_append_cf468_0 l dC dI ge5 gea gv5 gva gde gic gi0 q102 q103 cq104 H.size) (cwV 1 hts gX5_type_J4_append_cf468 rfl rfl rfl (by decide +kernel) ⟨Nat.le_of_ble_eq_true rfl, Nat.le_of_ble_eq_true rfl⟩) ⟨fun a U g mk q => by obtain ⟨q0, q1, qP, qK, qD, qG⟩ := q; exact ⟨q0, q1, qP, va_K.moved (u := U) (U := U.calling g mk a) (Vm.Alike.refl U.vm) qK, qD, gv.fb qG⟩, va_recv hKc hPc (ci := 1) (q0 := 0) rfl rfl, fun U hU hW => ⟨rfl, by rw [hU], by rw [hU]; exact hPc, va_K.moved hW.alike hKc, hDc.weaken (fun _ _ _ _ => trivial), gv.pass hW hU hS hFc hG⟩⟩ rfl rfl hl.1 rfl (lv_room (Nat.le_of_ble_eq_true rfl)) dX5_type_110 ⟨Nat.le_of_ble_eq_true rfl, Nat.le_of_ble_eq_true rfl⟩) hS (fun q _ h => hFc q h) hFc (fun u ra t H1 locs ht hvm hw hB hz1 hk1 hS => ?_)
    obtain ⟨f105, f105_t, hra, hP1, hK1, hD1⟩ := hB
    rw [hra]
    rw [ht] at hP1
    have hK1 := va_K.moved hvm.symm hK1
    obtain ⟨hP, hD⟩ := va_join (wr := [(h0, .inr (9, [.int 0, .ref h1, .ref z0, .ref z1, .int 0, .int 0, .int 0])), (h1, .inl (k0, 4, .inr (.inr (.inr (.inr (va_up (va_up (va_up (va_up (fun _ => none) 0 (some ge5)) 1 (some ge5)) 2 (some ge5)) 3 (some ge5))))))), (h2, .inl (k1, 5, .inl (upd (upd (upd (upd (upd (fun _ => 0) 0 l1) 1 0) 2 l3) 3 l4) 4 l5)))]) (w1 := [(q102, .inr (1, [.ref q103, .int 0, .int 0, .int 1])), (q103, .inl (cq104, 16, .inl f105))]) hP hD [3, 4] [0, 1, 2] rfl rfl (by decide) (by decide) hk1 hFc hP1 hD1
    generalize H1 = H at hP hS ⊢
    have hP : va_P (dC, dI) vwCl [(h0, .inr (9, [.int 0, .ref h1, .ref z0, .ref z1, .int 0, .int 0, .int 0])), (h1, .inl (k0, 4, .inr (.inr (.inr (.inr (va_up (va_up (va_up (va_up (fun _ => none) 0 (some ge5)) 1 (some ge5)) 2 (some ge5)) 3 (some ge5))))))), (h2, .inl (k1, 5, .inl (upd (upd (upd (upd (upd (fun _ => 0) 0 l1) 1 0) 2 l3) 3 l4) 4 l5))), (q102, .inr (1, [.ref q103, .int 0, .int 0, .int 1])), (q103, .inl (cq104, 16, .inl f105))] H := hP
    have hD : va_D A [(h0, .inr (9, [.int 0, .ref h1, .ref z0, .ref z1, .int 0, .int 0, .int 0])), (h1, .inl (k0, 4, .inr (.inr (.inr (.inr (va_up (va_up (va_up (va_up (fun _ => none) 0 (some ge5)) 1 (some ge5)) 2 (some ge5)) 3 (some ge5))))))), (h2, .inl (k1, 5, .inl (upd (upd (upd (upd (upd (fun _ => 0) 0 l1) 1 0) 2 l3) 3 l4) 4 l5))), (q102, .inr (1, [.ref q103, .int 0, .int 0, .int 1])), (q103, .inl (cq104, 16, .inl f105))] := hD
    have hPc := hP.sub (ws' := [(q102, .inr (1, [.ref q103, .int 0, .int 0, .int 1])), (q103, .inl (cq104, 16, .inl f105))]) [3, 4] rfl
    have hDc := hD.sub (ws' := [(q102, .inr (1, [.ref q103, .int 0, .int 0, .int 1])), (q103, .inl (cq104, 16, .inl f105))]) [3, 4] (by decide) rfl
    have hKc := hK.sub (tys' := [(cq104, .byte)]) [2] rfl
    have hFc := va_free (wc := [(q102, .inr (1, [.ref q103, .int 0, .int 0, .int 1])), (q103, .inl (cq104, 16, .inl f105))]) hD hS hA [3, 4] rfl
    refine va_callr (va_runV (As := []) (rest := []) ⟨hx, hb, hml, hown, hts⟩ (kx_J4_toString_0e30d_1 l dC dI ge5 gea gv5 gva gde gic gi0 q102 q103 cq104 H.size f105 f105_t) (cwV 0 hts gX5_type_J4_toString_0e30d rfl rfl rfl (by decide +kernel) ⟨Nat.le_of_ble_eq_true rfl, Nat.le_of_ble_eq_true rfl⟩) ⟨fun a U g mk q => by obtain ⟨q0, q1, qP, qK, qD, qG⟩ := q; exact ⟨q0, q1, qP, va_K.moved (u := U) (U := U.calling g mk a) (Vm.Alike.refl U.vm) qK, qD, gv.fb qG⟩, va_recv hKc hPc (ci := 1) (q0 := 0) rfl rfl, fun U hU hW => ⟨rfl, by rw [hU], by rw [hU]; exact hPc, va_K.moved hW.alike hKc, hDc.weaken (fun _ _ _ _ => trivial), gv.pass hW hU hS hFc hG⟩⟩ rfl rfl hl.1 rfl (lv_room (Nat.le_of_ble_eq_true rfl)) dX5_type_113 ⟨Nat.le_of_ble_eq_true rfl, Nat.le_of_ble_eq_true rfl⟩) hS (fun q _ h => hFc q h) hFc (fun u ra t H1 locs ht hvm hw hB hz1 hk1 hS => ?_)
    obtain ⟨q106, q107, cq108, f109, f109_t, hra, hP1, hK1, hD1⟩ := hB
    rw [hra]
    rw [ht] at hP1
    have hK1 := va_K.moved hvm.symm hK1
    obtain ⟨hP, hD⟩ := va_join (wr := [(h0, .inr (9, [.int 0, .ref h1, .ref z0, .ref z1, .int 0, .int 0, .int 0])), (h1, .inl (k0, 4, .inr (.inr (.inr (.inr (va_up (va_up (va_up (va_up (fun _ => none) 0 (some ge5)) 1 (some ge5)) 2 (some ge5)) 3 (some ge5))))))), (h2, .inl (k1, 5, .inl (upd (upd (upd (upd (upd (fun _ => 0) 0 l1) 1 0) 2 l3) 3 l4) 4 l5)))]) (w1 := [(q102, .inr (1, [.ref q103, .int 0, .int 0, .int 1])), (q103, .inl (cq104, 16, .inl f105)), (q106, .inr (0, [.ref q107, .int 0, .int 0, .int 0])), (q107, .inl (cq108, 1, .inl f109))]) hP hD [3, 4] [0, 1, 2] rfl rfl (by decide) (by decide) hk1 hFc hP1 hD1
    have hK := hK.app (hK1.sub (tys' := [(cq108, .byte)]) [1] rfl)
    generalize H1 = H at hP hS ⊢
    have hK : va_K (dC, dI) vwCl [(k0, .object "java/lang/String"), (k1, .int), (cq104, .byte), (cq108, .byte)] s := hK
    have hP : va_P (dC, dI) vwCl [(h0, .inr (9, [.int 0, .ref h1, .ref z0, .ref z1, .int 0, .int 0, .int 0])), (h1, .inl (k0, 4, .inr (.inr (.inr (.inr (va_up (va_up (va_up (va_up (fun _ => none) 0 (some ge5)) 1 (some ge5)) 2 (some ge5)) 3 (some ge5))))))), (h2, .inl (k1, 5, .inl (upd (upd (upd (upd (upd (fun _ => 0) 0 l1) 1 0) 2 l3) 3 l4) 4 l5))), (q102, .inr (1, [.ref q103, .int 0, .int 0, .int 1])), (q103, .inl (cq104, 16, .inl f105)), (q106, .inr (0, [.ref q107, .int 0, .int 0, .int 0])), (q107, .inl (cq108, 1, .inl f109))] H := hP
    have hD : va_D A [(h0, .inr (9, [.int 0, .ref h1, .ref z0, .ref z1, .int 0, .int 0, .int 0])), (h1, .inl (k0, 4, .inr (.inr (.inr (.inr (va_up (va_up (va_up (va_up (fun _ => none) 0 (some ge5)) 1 (some ge5)) 2 (some ge5)) 3 (some ge5))))))), (h2, .inl (k1, 5, .inl (upd (upd (upd (upd (upd (fun _ => 0) 0 l1) 1 0) 2 l3) 3 l4) 4 l5))), (q102, .inr (1, [.ref q103, .int 0, .int 0, .int 1])), (q103, .inl (cq104, 16, .inl f105)), (q106, .inr (0, [.ref q107, .int 0, .int 0, .int 0])), (q107, .inl (cq108, 1, .inl f109))] := hD
    refine W.widen (k := 5) (n := 30) (by omega) (by omega) ?_
    refine lv_astore (lv' := [(9, .ref q106), (8, .int 1), (13, .int 0), (0, .ref h0), (1, .int rp), (7, .ref h2), (10, .ref h2), (11, .int 5), (12, .int 1)]) hx hb dX5_type_116 hl (by decide) rfl (fun ls hl => ?_)
    refine lv_iinc (v := 2) (lv' := [(12, .int 2), (9, .ref q106), (8, .int 1), (13, .int 0), (0, .ref h0), (1, .int rp), (7, .ref h2), (10, .ref h2), (11, .int 5)]) hx hb dX5_type_118 hl (k := 8) rfl (by decide) (by decide) rfl (fun ls hl => ?_)
    refine lv_goto (tgt := 47) hx hb dX5_type_121 (by decide) ?_
    have hP := hP.sub (ws' := [(h0, .inr (9, [.int 0, .ref h1, .ref z0, .ref z1, .int 0, .int 0, .int 0])), (h1, .inl (k0, 4, .inr (.inr (.inr (.inr (va_up (va_up (va_up (va_up (fun _ => none) 0 (some ge5)) 1 (some ge5)) 2 (some ge5)) 3 (some ge5))))))), (h2, .inl (k1, 5, .inl (upd (upd (upd (upd (upd (fun _ => 0) 0 l1) 1 0) 2 l3) 3 l4) 4 l5))), (q106, .inr (0, [.ref q107, .int 0, .int 0, .int 0])), (q107, .inl (cq108, 1, .inl f109))]) [0, 1, 2, 5, 6] rfl
    have hD := hD.sub (ws' := [(h0, .inr (9, [.int 0, .ref h1, .ref z0, .ref z1, .int 0, .int 0, .int 0])), (h1, .inl (k0, 4, .inr (.inr (.inr (.inr (va_up (va_up (va_up (va_up (fun _ => none) 0 (some ge5)) 1 (some ge5)) 2 (some ge5)) 3 (some ge5))))))), (h2, .inl (k1, 5, .inl (upd (upd (upd (upd (upd (fun _ => 0) 0 l1) 1 0) 2 l3) 3 l4) 4 l5))), (q106, .inr (0, [.ref q107, .int 0, .int 0, .int 0])), (q107, .inl (cq108, 1, .inl f109))]) [0, 1, 2, 5, 6] (by decide) rfl
    have hK := hK.sub (tys' := [(k0, .object "java/lang/String"), (k1, .int), (cq108, .byte)]) [0, 1, 3] rfl
    have hl := lv_sub hl [4, 5, 6, 2, 1, 7, 8, 0] (show lv_pick [(12, .int 2), (9, .ref q106), (8, .int 1), (13, .int 0), (0, .ref h0), (1, .int rp), (7, .ref h2), (10, .ref h2), (11, .int 5)] [4, 5, 6, 2, 1, 7, 8, 0] = [(0, .ref h0), (1, .int rp), (7, .ref h2), (8, .int 1), (9, .ref q106), (10, .ref h2), (11, .int 5), (12, .int 2)] from rfl)
    exact kx_X5_type_h211 f109_t hR hx hb hr hml hown hts hlocks hA hG hS hK hP hD hl
  · have hR : kz_ty rp 1 1 [l3, l4, l5] = (R, v) := (kz_ty_g (by decide) (by decide)).symm.trans hR
    refine lv_iload hx hb dX5_type_47 (lv_at hl 7 rfl) ?_
    refine lv_iload hx hb dX5_type_49 (lv_at hl 6 rfl) ?_
    refine lv_icmp_ge (tgt := 124) hx hb dX5_type_51 (by decide) (fun c9 => absurd c9 (by decide)) (fun _ => ?_)
    refine lv_aload hx hb dX5_type_54 (lv_at hl 5 rfl) ?_
    refine lv_iload hx hb dX5_type_56 (lv_at hl 7 rfl) ?_
    refine va_iald (D := (dC, dI)) hx hb hK hP 2 1 rfl rfl (by unfold vp_in; decide) dX5_type_58 ?_
    refine W.eq (g2 := F0 m 59 ls [.int 1]) rfl ?_
    refine lv_istore (lv' := [(13, .int 1), (0, .ref h0), (1, .int rp), (7, .ref h2), (8, .int 1), (9, .ref ge5), (10, .ref h2), (11, .int 5), (12, .int 1)]) hx hb dX5_type_59 hl (by decide) rfl (fun ls hl => ?_)
    refine lv_iload hx hb dX5_type_61 (lv_at hl 4 rfl) ?_
    refine lv_iload hx hb dX5_type_63 (lv_at hl 0 rfl) ?_
    refine lv_iconst (v := (-1)) hx hb dX5_type_65 (by decide) ?_
    refine lv_iconst (v := 3) hx hb dX5_type_66 (by decide) ?_
    have hPc := hP.sub (ws' := []) [] rfl
    have hDc := hD.sub (ws' := []) [] (by decide) rfl
    have hKc := hK.sub (tys' := []) [] rfl
    have hFc := va_free (wc := []) hD hS hA [] rfl
    refine va_calli (va_runS (As := [.int 1, .int (-1), .int 3]) (rest := [.int 1]) ⟨hx, hb, hml, hown, hts⟩ (kx_X5_isIn_9 l dC dI H.size) (cwS 3 hts gX5_type_X5_isIn rfl rfl rfl (by decide +kernel) ⟨Nat.le_of_ble_eq_true rfl, Nat.le_of_ble_eq_true rfl⟩) ⟨fun a U g mk q => by obtain ⟨q0, q1, qP, qK, qD⟩ := q; exact ⟨q0, q1, qP, va_K.moved (u := U) (U := U.calling g mk a) (Vm.Alike.refl U.vm) qK, qD⟩, fun U hU hW => ⟨rfl, by rw [hU], by rw [hU]; exact hPc, va_K.moved hW.alike hKc, hDc.weaken (fun _ _ _ _ => trivial)⟩⟩ rfl rfl hl.1 rfl (lv_room (Nat.le_of_ble_eq_true rfl)) dX5_type_67 ⟨Nat.le_of_ble_eq_true rfl, Nat.le_of_ble_eq_true rfl⟩) hS (fun q _ h => hFc q h) hFc (fun r9 u t H1 locs ht hvm hw hB hz1 hk1 hS => ?_)
    obtain rfl := hw
    obtain ⟨hP1, hK1, hD1⟩ := hB
    rw [ht] at hP1
    have hK1 := va_K.moved hvm.symm hK1
    obtain ⟨hP, hD⟩ := va_join (wr := [(h0, .inr (9, [.int 0, .ref h1, .ref z0, .ref z1, .int 0, .int 0, .int 0])), (h1, .inl (k0, 4, .inr (.inr (.inr (.inr (va_up (va_up (va_up (va_up (fun _ => none) 0 (some ge5)) 1 (some ge5)) 2 (some ge5)) 3 (some ge5))))))), (h2, .inl (k1, 5, .inl (upd (upd (upd (upd (upd (fun _ => 0) 0 l1) 1 1) 2 l3) 3 l4) 4 l5)))]) (w1 := []) hP hD [] [0, 1, 2] rfl rfl (by decide) (by decide) hk1 hFc hP1 hD1
    generalize H1 = H at hP hS ⊢
    have hP : va_P (dC, dI) vwCl [(h0, .inr (9, [.int 0, .ref h1, .ref z0, .ref z1, .int 0, .int 0, .int 0])), (h1, .inl (k0, 4, .inr (.inr (.inr (.inr (va_up (va_up (va_up (va_up (fun _ => none) 0 (some ge5)) 1 (some ge5)) 2 (some ge5)) 3 (some ge5))))))), (h2, .inl (k1, 5, .inl (upd (upd (upd (upd (upd (fun _ => 0) 0 l1) 1 1) 2 l3) 3 l4) 4 l5)))] H := hP
    have hD : va_D A [(h0, .inr (9, [.int 0, .ref h1, .ref z0, .ref z1, .int 0, .int 0, .int 0])), (h1, .inl (k0, 4, .inr (.inr (.inr (.inr (va_up (va_up (va_up (va_up (fun _ => none) 0 (some ge5)) 1 (some ge5)) 2 (some ge5)) 3 (some ge5))))))), (h2, .inl (k1, 5, .inl (upd (upd (upd (upd (upd (fun _ => 0) 0 l1) 1 1) 2 l3) 3 l4) 4 l5)))] := hD
    refine lv_if_ne (tgt := 77) hx hb dX5_type_70 (by decide) (fun _ => ?_) (fun c9 => absurd c9 (by decide))
    refine lv_iconst (v := 0) hx hb dX5_type_77 (by decide) ?_
    refine lv_ior hx hb dX5_type_78 ?_
    refine lv_topi (fun y101 ey101 => ?_)
    obtain rfl : y101 = 1 := ey101.trans (by decide)
    refine lv_istore (lv' := [(8, .int 1), (13, .int 1), (0, .ref h0), (1, .int rp), (7, .ref h2), (9, .ref ge5), (10, .ref h2), (11, .int 5), (12, .int 1)]) hx hb dX5_type_79 hl (by decide) rfl (fun ls hl => ?_)
    refine lv_iload hx hb dX5_type_81 (lv_at hl 1 rfl) ?_
    refine lv_iconst (v := 0) hx hb dX5_type_83 (by decide) ?_
    refine lv_iconst (v := 3) hx hb dX5_type_84 (by decide) ?_
    have hPc := hP.sub (ws' := []) [] rfl
    have hDc := hD.sub (ws' := []) [] (by decide) rfl
    have hKc := hK.sub (tys' := []) [] rfl
    have hFc := va_free (wc := []) hD hS hA [] rfl
    refine va_calli (va_runS (As := [.int 1, .int 0, .int 3]) (rest := []) ⟨hx, hb, hml, hown, hts⟩ (kx_X5_isIn_10 l dC dI H.size) (cwS 3 hts gX5_type_X5_isIn rfl rfl rfl (by decide +kernel) ⟨Nat.le_of_ble_eq_true rfl, Nat.le_of_ble_eq_true rfl⟩) ⟨fun a U g mk q => by obtain ⟨q0, q1, qP, qK, qD⟩ := q; exact ⟨q0, q1, qP, va_K.moved (u := U) (U := U.calling g mk a) (Vm.Alike.refl U.vm) qK, qD⟩, fun U hU hW => ⟨rfl, by rw [hU], by rw [hU]; exact hPc, va_K.moved hW.alike hKc, hDc.weaken (fun _ _ _ _ => trivial)⟩⟩ rfl rfl hl.1 rfl (lv_room (Nat.le_of_ble_eq_true rfl)) dX5_type_85 ⟨Nat.le_of_ble_eq_true rfl, Nat.le_of_ble_eq_true rfl⟩) hS (fun q _ h => hFc q h) hFc (fun r9 u t H1 locs ht hvm hw hB hz1 hk1 hS => ?_)
    obtain rfl := hw
    obtain ⟨hP1, hK1, hD1⟩ := hB
    rw [ht] at hP1
    have hK1 := va_K.moved hvm.symm hK1
    obtain ⟨hP, hD⟩ := va_join (wr := [(h0, .inr (9, [.int 0, .ref h1, .ref z0, .ref z1, .int 0, .int 0, .int 0])), (h1, .inl (k0, 4, .inr (.inr (.inr (.inr (va_up (va_up (va_up (va_up (fun _ => none) 0 (some ge5)) 1 (some ge5)) 2 (some ge5)) 3 (some ge5))))))), (h2, .inl (k1, 5, .inl (upd (upd (upd (upd (upd (fun _ => 0) 0 l1) 1 1) 2 l3) 3 l4) 4 l5)))]) (w1 := []) hP hD [] [0, 1, 2] rfl rfl (by decide) (by decide) hk1 hFc hP1 hD1
    generalize H1 = H at hP hS ⊢
    have hP : va_P (dC, dI) vwCl [(h0, .inr (9, [.int 0, .ref h1, .ref z0, .ref z1, .int 0, .int 0, .int 0])), (h1, .inl (k0, 4, .inr (.inr (.inr (.inr (va_up (va_up (va_up (va_up (fun _ => none) 0 (some ge5)) 1 (some ge5)) 2 (some ge5)) 3 (some ge5))))))), (h2, .inl (k1, 5, .inl (upd (upd (upd (upd (upd (fun _ => 0) 0 l1) 1 1) 2 l3) 3 l4) 4 l5)))] H := hP
    have hD : va_D A [(h0, .inr (9, [.int 0, .ref h1, .ref z0, .ref z1, .int 0, .int 0, .int 0])), (h1, .inl (k0, 4, .inr (.inr (.inr (.inr (va_up (va_up (va_up (va_up (fun _ => none) 0 (some ge5)) 1 (some ge5)) 2 (some ge5)) 3 (some ge5))))))), (h2, .inl (k1, 5, .inl (upd (upd (upd (upd (upd (fun _ => 0) 0 l1) 1 1) 2 l3) 3 l4) 4 l5)))] := hD
    refine lv_if_eq (tgt := 118) hx hb dX5_type_88 (by decide) (fun c9 => absurd c9 (by decide)) (fun _ => ?_)
    refine va_new (ci := 1) (fs := [.null, .int 0, .int 0, .int 0]) (C := RJ4) (T := TJ4) (N := 4) hx hb hts (by decide +kernel) tyJ4 tyJ4_ok hown (hts (.classLink RX5 49 RJ4) (by decide +kernel)) (hts (.instantiable RJ4 4) (by decide +kernel)) (hts (.initialized RJ4) (by decide +kernel)) hK hP hD hS hA rfl (fun j hj => by rcases (show j = 0 ∨ j = 1 ∨ j = 2 ∨ j = 3 by omega) with rfl | rfl | rfl | rfl <;> rfl) (Nat.le_of_ble_eq_true rfl) (Nat.le_of_ble_eq_true rfl) dX5_type_91 (fun q102 H hP hD hS => ?_)
    have hP : va_P (dC, dI) vwCl [(h0, .inr (9, [.int 0, .ref h1, .ref z0, .ref z1, .int 0, .int 0, .int 0])), (h1, .inl (k0, 4, .inr (.inr (.inr (.inr (va_up (va_up (va_up (va_up (fun _ => none) 0 (some ge5)) 1 (some ge5)) 2 (some ge5)) 3 (some ge5))))))), (h2, .inl (k1, 5, .inl (upd (upd (upd (upd (upd (fun _ => 0) 0 l1) 1 1) 2 l3) 3 l4) 4 l5))), (q102, .inr (1, [.null, .int 0, .int 0, .int 0]))] H := hP
    have hD : va_D A [(h0, .inr (9, [.int 0, .ref h1, .ref z0, .ref z1, .int 0, .int 0, .int 0])), (h1, .inl (k0, 4, .inr (.inr (.inr (.inr (va_up (va_up (va_up (va_up (fun _ => none) 0 (some ge5)) 1 (some ge5)) 2 (some ge5)) 3 (some ge5))))))), (h2, .inl (k1, 5, .inl (upd (upd (upd (upd (upd (fun _ => 0) 0 l1) 1 1) 2 l3) 3 l4) 4 l5))), (q102, .inr (1, [.null, .int 0, .int 0, .int 0]))] := hD
    refine W.widen (k := 2) (n := 9) (by omega) (by omega) ?_
    refine lv_dup hx hb dX5_type_94 rfl ?_
    have hPc := hP.sub (ws' := [(q102, .inr (1, [.null, .int 0, .int 0, .int 0]))]) [3] rfl
    have hDc := hD.sub (ws' := [(q102, .inr (1, [.null, .int 0, .int 0, .int 0]))]) [3] (by decide) rfl
    have hKc := hK.sub (tys' := []) [] rfl
    have hFc := va_free (wc := [(q102, .inr (1, [.null, .int 0, .int 0, .int 0]))]) hD hS hA [3] rfl
    refine va_callv (va_runI (As := []) (rest := [.ref q102]) ⟨hx, hb, hml, hown, hts⟩ (kx_J4_init_da8c8_0 l dC dI ge5 gea gv5 gva gde gic gi0 q102 H.size) (cwI 0 hts gX5_type_J4_init_da8c8 rfl rfl rfl (hts (.initialized RJ4) (by decide +kernel)) (hts (.methodLink RX5 51 yJ4_init_da8c8) (by decide +kernel)) (hts (.instanceMethod yJ4_init_da8c8) (by decide +kernel)) rfl (by decide +kernel) ⟨Nat.le_of_ble_eq_true rfl, Nat.le_of_ble_eq_true rfl⟩) ⟨fun a U g mk q => by obtain ⟨q0, q1, qP, qK, qD, qG⟩ := q; exact ⟨q0, q1, qP, va_K.moved (u := U) (U := U.calling g mk a) (Vm.Alike.refl U.vm) qK, qD, gv.fb qG⟩, fun U hU hW => ⟨rfl, by rw [hU], by rw [hU]; exact hPc, va_K.moved hW.alike hKc, hDc.weaken (fun _ _ _ _ => trivial), gv.pass hW hU hS hFc hG⟩⟩ rfl rfl hl.1 rfl (lv_room (Nat.le_of_ble_eq_true rfl)) dX5_type_95 ⟨Nat.le_of_ble_eq_true rfl, Nat.le_of_ble_eq_true rfl⟩) hS (fun q _ h => hFc q h) hFc (fun u t H1 locs ht hvm hw hB hz1 hk1 hS => ?_)
    obtain ⟨q103, cq104, hP1, hK1, hD1⟩ := hB
    rw [ht] at hP1
    have hK1 := va_K.moved hvm.symm hK1
    obtain ⟨hP, hD⟩ := va_join (wr := [(h0, .inr (9, [.int 0, .ref h1, .ref z0, .ref z1, .int 0, .int 0, .int 0])), (h1, .inl (k0, 4, .inr (.inr (.inr (.inr (va_up (va_up (va_up (va_up (fun _ => none) 0 (some ge5)) 1 (some ge5)) 2 (some ge5)) 3 (some ge5))))))), (h2, .inl (k1, 5, .inl (upd (upd (upd (upd (upd (fun _ => 0) 0 l1) 1 1) 2 l3) 3 l4) 4 l5)))]) (w1 := [(q102, .inr (1, [.ref q103, .int 0, .int 0, .int 0])), (q103, .inl (cq104, 16, .inl (fun _ => 0)))]) hP hD [3] [0, 1, 2] rfl rfl (by decide) (by decide) hk1 hFc hP1 hD1
    have hK := hK.app (hK1.sub (tys' := [(cq104, .byte)]) [0] rfl)
    generalize H1 = H at hP hS ⊢
    have hK : va_K (dC, dI) vwCl [(k0, .object "java/lang/String"), (k1, .int), (cq104, .byte)] s := hK
    have hP : va_P (dC, dI) vwCl [(h0, .inr (9, [.int 0, .ref h1, .ref z0, .ref z1, .int 0, .int 0, .int 0])), (h1, .inl (k0, 4, .inr (.inr (.inr (.inr (va_up (va_up (va_up (va_up (fun _ => none) 0 (some ge5)) 1 (some ge5)) 2 (some ge5)) 3 (some ge5))))))), (h2, .inl (k1, 5, .inl (upd (upd (upd (upd (upd (fun _ => 0) 0 l1) 1 1) 2 l3) 3 l4) 4 l5))), (q102, .inr (1, [.ref q103, .int 0, .int 0, .int 0])), (q103, .inl (cq104, 16, .inl (fun _ => 0)))] H := hP
    have hD : va_D A [(h0, .inr (9, [.int 0, .ref h1, .ref z0, .ref z1, .int 0, .int 0, .int 0])), (h1, .inl (k0, 4, .inr (.inr (.inr (.inr (va_up (va_up (va_up (va_up (fun _ => none) 0 (some ge5)) 1 (some ge5)) 2 (some ge5)) 3 (some ge5))))))), (h2, .inl (k1, 5, .inl (upd (upd (upd (upd (upd (fun _ => 0) 0 l1) 1 1) 2 l3) 3 l4) 4 l5))), (q102, .inr (1, [.ref q103, .int 0, .int 0, .int 0])), (q103, .inl (cq104, 16, .inl (fun _ => 0)))] := hD
    refine W.widen (k := 3) (n := 25) (by omega) (by omega) ?_
    refine lv_aload hx hb dX5_type_98 (lv_at hl 5 rfl) ?_
    have hPc := hP.sub (ws' := [(q102, .inr (1, [.ref q103, .int 0, .int 0, .int 0])), (q103, .inl (cq104, 16, .inl (fun _ => 0)))]) [3, 4] rfl
    have hDc := hD.sub (ws' := [(q102, .inr (1, [.ref q103, .int 0, .int 0, .int 0])), (q103, .inl (cq104, 16, .inl (fun _ => 0)))]) [3, 4] (by decide) rfl
    have hKc := hK.sub (tys' := [(cq104, .byte)]) [2] rfl
    have hFc := va_free (wc := [(q102, .inr (1, [.ref q103, .int 0, .int 0, .int 0])), (q103, .inl (cq104, 16, .inl (fun _ => 0)))]) hD hS hA [3, 4] rfl
    refine va_callr (va_runV (As := [.ref ge5]) (rest := []) ⟨hx, hb, hml, hown, hts⟩ (kx_J4_append_15ec4_0 l dC dI ge5 gea gv5 gva gde gic gi0 q102 q103 cq104 H.size) (cwV 1 hts gX5_type_J4_append_15ec4 rfl rfl rfl (by decide +kernel) ⟨Nat.le_of_ble_eq_true rfl, Nat.le_of_ble_eq_true rfl⟩) ⟨fun a U g mk q => by obtain ⟨q0, q1, qP, qK, qD, qG⟩ := q; exact ⟨q0, q1, qP, va_K.moved (u := U) (U := U.calling g mk a) (Vm.Alike.refl U.vm) qK, qD, gv.fb qG⟩, va_recv hKc hPc (ci := 1) (q0 := 0) rfl rfl, fun U hU hW => ⟨rfl, by rw [hU], by rw [hU]; exact hPc, va_K.moved hW.alike hKc, hDc.weaken (fun _ _ _ _ => trivial), gv.pass hW hU hS hFc hG⟩⟩ rfl rfl hl.1 rfl (lv_room (Nat.le_of_ble_eq_true rfl)) dX5_type_100 ⟨Nat.le_of_ble_eq_true rfl, Nat.le_of_ble_eq_true rfl⟩) hS (fun q _ h => hFc q h) hFc (fun u ra t H1 locs ht hvm hw hB hz1 hk1 hS => ?_)
    obtain ⟨hra, hP1, hK1, hD1⟩ := hB
    rw [hra]
    rw [ht] at hP1
    have hK1 := va_K.moved hvm.symm hK1
    obtain ⟨hP, hD⟩ := va_join (wr := [(h0, .inr (9, [.int 0, .ref h1, .ref z0, .ref z1, .int 0, .int 0, .int 0])), (h1, .inl (k0, 4, .inr (.inr (.inr (.inr (va_up (va_up (va_up (va_up (fun _ => none) 0 (some ge5)) 1 (some ge5)) 2 (some ge5)) 3 (some ge5))))))), (h2, .inl (k1, 5, .inl (upd (upd (upd (upd (upd (fun _ => 0) 0 l1) 1 1) 2 l3) 3 l4) 4 l5)))]) (w1 := [(q102, .inr (1, [.ref q103, .int 0, .int 0, .int 0])), (q103, .inl (cq104, 16, .inl (fun _ => 0)))]) hP hD [3, 4] [0, 1, 2] rfl rfl (by decide) (by decide) hk1 hFc hP1 hD1
    generalize H1 = H at hP hS ⊢
    have hP : va_P (dC, dI) vwCl [(h0, .inr (9, [.int 0, .ref h1, .ref z0, .ref z1, .int 0, .int 0, .int 0])), (h1, .inl (k0, 4, .inr (.inr (.inr (.inr (va_up (va_up (va_up (va_up (fun _ => none) 0 (some ge5)) 1 (some ge5)) 2 (some ge5)) 3 (some ge5))))))), (h2, .inl (k1, 5, .inl (upd (upd (upd (upd (upd (fun _ => 0) 0 l1) 1 1) 2 l3) 3 l4) 4 l5))), (q102, .inr (1, [.ref q103, .int 0, .int 0, .int 0])), (q103, .inl (cq104, 16, .inl (fun _ => 0)))] H := hP
    have hD : va_D A [(h0, .inr (9, [.int 0, .ref h1, .ref z0, .ref z1, .int 0, .int 0, .int 0])), (h1, .inl (k0, 4, .inr (.inr (.inr (.inr (va_up (va_up (va_up (va_up (fun _ => none) 0 (some ge5)) 1 (some ge5)) 2 (some ge5)) 3 (some ge5))))))), (h2, .inl (k1, 5, .inl (upd (upd (upd (upd (upd (fun _ => 0) 0 l1) 1 1) 2 l3) 3 l4) 4 l5))), (q102, .inr (1, [.ref q103, .int 0, .int 0, .int 0])), (q103, .inl (cq104, 16, .inl (fun _ => 0)))] := hD
    refine va_ldcS hx hb hown g_sa dX5_type_103 ?_
    refine lv_iload hx hb dX5_type_105 (lv_at hl 1 rfl) ?_
    have hPc := hP.sub (ws' := []) [] rfl
    have hDc := hD.sub (ws' := []) [] (by decide) rfl
    have hKc := hK.sub (tys' := []) [] rfl
    have hFc := va_free (wc := []) hD hS hA [] rfl
    refine va_calli (va_runV (As := [.int 1]) (rest := [.ref q102]) ⟨hx, hb, hml, hown, hts⟩ (kx_J0_charAt_5068e_1 l dC dI ge5 gea gv5 gva gde gic gi0 H.size) (cwV 1 hts gX5_type_J0_charAt_5068e rfl rfl rfl (by decide +kernel) ⟨Nat.le_of_ble_eq_true rfl, Nat.le_of_ble_eq_true rfl⟩) ⟨fun a U g mk q => by obtain ⟨q0, q1, qP, qK, qD, qG⟩ := q; exact ⟨q0, q1, qP, va_K.moved (u := U) (U := U.calling g mk a) (Vm.Alike.refl U.vm) qK, qD, gv.fb qG⟩, (by obtain ⟨cell, k1, k2, k3, -⟩ := g_oa.kept hS.2.1; exact ⟨cell, k1, k2, k3⟩), fun U hU hW => ⟨rfl, by rw [hU], by rw [hU]; exact hPc, va_K.moved hW.alike hKc, hDc.weaken (fun _ _ _ _ => trivial), gv.pass hW hU hS hFc hG⟩⟩ rfl rfl hl.1 rfl (lv_room (Nat.le_of_ble_eq_true rfl)) dX5_type_107 ⟨Nat.le_of_ble_eq_true rfl, Nat.le_of_ble_eq_true rfl⟩) hS (fun q _ h => hFc q h) hFc (fun r9 u t H1 locs ht hvm hw hB hz1 hk1 hS => ?_)
    obtain rfl := hw
    obtain ⟨hP1, hK1, hD1⟩ := hB
    rw [ht] at hP1
    have hK1 := va_K.moved hvm.symm hK1
    obtain ⟨hP, hD⟩ := va_join (wr := [(h0, .inr (9, [.int 0, .ref h1, .ref z0, .ref z1, .int 0, .int 0, .int 0])), (h1, .inl (k0, 4, .inr (.inr (.inr (.inr (va_up (va_up (va_up (va_up (fun _ => none) 0 (some ge5)) 1 (some ge5)) 2 (some ge5)) 3 (some ge5))))))), (h2, .inl (k1, 5, .inl (upd (upd (upd (upd (upd (fun _ => 0) 0 l1) 1 1) 2 l3) 3 l4) 4 l5))), (q102, .inr (1, [.ref q103, .int 0, .int 0, .int 0])), (q103, .inl (cq104, 16, .inl (fun _ => 0)))]) (w1 := []) hP hD [] [0, 1, 2, 3, 4] rfl rfl (by decide) (by decide) hk1 hFc hP1 hD1
    generalize H1 = H at hP hS ⊢
    have hP : va_P (dC, dI) vwCl [(h0, .inr (9, [.int 0, .ref h1, .ref z0, .ref z1, .int 0, .int 0, .int 0])), (h1, .inl (k0, 4, .inr (.inr (.inr (.inr (va_up (va_up (va_up (va_up (fun _ => none) 0 (some ge5)) 1 (some ge5)) 2 (some ge5)) 3 (some ge5))))))), (h2, .inl (k1, 5, .inl (upd (upd (upd (upd (upd (fun _ => 0) 0 l1) 1 1) 2 l3) 3 l4) 4 l5))), (q102, .inr (1, [.ref q103, .int 0, .int 0, .int 0])), (q103, .inl (cq104, 16, .inl (fun _ => 0)))] H := hP
    have hD : va_D A [(h0, .inr (9, [.int 0, .ref h1, .ref z0, .ref z1, .int 0, .int 0, .int 0])), (h1, .inl (k0, 4, .inr (.inr (.inr (.inr (va_up (va_up (va_up (va_up (fun _ => none) 0 (some ge5)) 1 (some ge5)) 2 (some ge5)) 3 (some ge5))))))), (h2, .inl (k1, 5, .inl (upd (upd (upd (upd (upd (fun _ => 0) 0 l1) 1 1) 2 l3) 3 l4) 4 l5))), (q102, .inr (1, [.ref q103, .int 0, .int 0, .int 0])), (q103, .inl (cq104, 16, .inl (fun _ => 0)))] := hD
    have hPc := hP.sub (ws' := [(q102, .inr (1, [.ref q103, .int 0, .int 0, .int 0])), (q103, .inl (cq104, 16, .inl (fun _ => 0)))]) [3, 4] rfl
    have hDc := hD.sub (ws' := [(q102, .inr (1, [.ref q103, .int 0, .int 0, .int 0])), (q103, .inl (cq104, 16, .inl (fun _ => 0)))]) [3, 4] (by decide) rfl
    have hKc := hK.sub (tys' := [(cq104, .byte)]) [2] rfl
    have hFc := va_free (wc := [(q102, .inr (1, [.ref q103, .int 0, .int 0, .int 0])), (q103, .inl (cq104, 16, .inl (fun _ => 0)))]) hD hS hA [3, 4] rfl
    refine va_callr (va_runV (As := [.int 98]) (rest := []) ⟨hx, hb, hml, hown, hts⟩ (kx_J4_append_cf468_1 l dC dI ge5 gea gv5 gva gde gic gi0 q102 q103 cq104 H.size) (cwV 1 hts gX5_type_J4_append_cf468 rfl rfl rfl (by decide +kernel) ⟨Nat.le_of_ble_eq_true rfl, Nat.le_of_ble_eq_true rfl⟩) ⟨fun a U g mk q => by obtain ⟨q0, q1, qP, qK, qD, qG⟩ := q; exact ⟨q0, q1, qP, va_K.moved (u := U) (U := U.calling g mk a) (Vm.Alike.refl U.vm) qK, qD, gv.fb qG⟩, va_recv hKc hPc (ci := 1) (q0 := 0) rfl rfl, fun U hU hW => ⟨rfl, by rw [hU], by rw [hU]; exact hPc, va_K.moved hW.alike hKc, hDc.weaken (fun _ _ _ _ => trivial), gv.pass hW hU hS hFc hG⟩⟩ rfl rfl hl.1 rfl (lv_room (Nat.le_of_ble_eq_true rfl)) dX5_type_110 ⟨Nat.le_of_ble_eq_true rfl, Nat.le_of_ble_eq_true rfl⟩) hS (fun q _ h => hFc q h) hFc (fun u ra t H1 locs ht hvm hw hB hz1 hk1 hS => ?_)
    obtain ⟨f105, f105_t, hra, hP1, hK1, hD1⟩ := hB
    rw [hra]
    rw [ht] at hP1
    have hK1 := va_K.moved hvm.symm hK1
    obtain ⟨hP, hD⟩ := va_join (wr := [(h0, .inr (9, [.int 0, .ref h1, .ref z0, .ref z1, .int 0, .int 0, .int 0])), (h1, .inl (k0, 4, .inr (.inr (.inr (.inr (va_up (va_up (va_up (va_up (fun _ => none) 0 (some ge5)) 1 (some ge5)) 2 (some ge5)) 3 (some ge5))))))), (h2, .inl (k1, 5, .inl (upd (upd (upd (upd (upd (fun _ => 0) 0 l1) 1 1) 2 l3) 3 l4) 4 l5)))]) (w1 := [(q102, .inr (1, [.ref q103, .int 0, .int 0, .int 1])), (q103, .inl (cq104, 16, .inl f105))]) hP hD [3, 4] [0, 1, 2] rfl rfl (by decide) (by decide) hk1 hFc hP1 hD1
    generalize H1 = H at hP hS ⊢
    have hP : va_P (dC, dI) vwCl [(h0, .inr (9, [.int 0, .ref h1, .ref z0, .ref z1, .int 0, .int 0, .int 0])), (h1, .inl (k0, 4, .inr (.inr (.inr (.inr (va_up (va_up (va_up (va_up (fun _ => none) 0 (some ge5)) 1 (some ge5)) 2 (some ge5)) 3 (some ge5))))))), (h2, .inl (k1, 5, .inl (upd (upd (upd (upd (upd (fun _ => 0) 0 l1) 1 1) 2 l3) 3 l4) 4 l5))), (q102, .inr (1, [.ref q103, .int 0, .int 0, .int 1])), (q103, .inl (cq104, 16, .inl f105))] H := hP
    have hD : va_D A [(h0, .inr (9, [.int 0, .ref h1, .ref z0, .ref z1, .int 0, .int 0, .int 0])), (h1, .inl (k0, 4, .inr (.inr (.inr (.inr (va_up (va_up (va_up (va_up (fun _ => none) 0 (some ge5)) 1 (some ge5)) 2 (some ge5)) 3 (some ge5))))))), (h2, .inl (k1, 5, .inl (upd (upd (upd (upd (upd (fun _ => 0) 0 l1) 1 1) 2 l3) 3 l4) 4 l5))), (q102, .inr (1, [.ref q103, .int 0, .int 0, .int 1])), (q103, .inl (cq104, 16, .inl f105))] := hD
    have hPc := hP.sub (ws' := [(q102, .inr (1, [.ref q103, .int 0, .int 0, .int 1])), (q103, .inl (cq104, 16, .inl f105))]) [3, 4] rfl
    have hDc := hD.sub (ws' := [(q102, .inr (1, [.ref q103, .int 0, .int 0, .int 1])), (q103, .inl (cq104, 16, .inl f105))]) [3, 4] (by decide) rfl
    have hKc := hK.sub (tys' := [(cq104, .byte)]) [2] rfl
    have hFc := va_free (wc := [(q102, .inr (1, [.ref q103, .int 0, .int 0, .int 1])), (q103, .inl (cq104, 16, .inl f105))]) hD hS hA [3, 4] rfl
    refine va_callr (va_runV (As := []) (rest := []) ⟨hx, hb, hml, hown, hts⟩ (kx_J4_toString_0e30d_1 l dC dI ge5 gea gv5 gva gde gic gi0 q102 q103 cq104 H.size f105 f105_t) (cwV 0 hts gX5_type_J4_toString_0e30d rfl rfl rfl (by decide +kernel) ⟨Nat.le_of_ble_eq_true rfl, Nat.le_of_ble_eq_true rfl⟩) ⟨fun a U g mk q => by obtain ⟨q0, q1, qP, qK, qD, qG⟩ := q; exact ⟨q0, q1, qP, va_K.moved (u := U) (U := U.calling g mk a) (Vm.Alike.refl U.vm) qK, qD, gv.fb qG⟩, va_recv hKc hPc (ci := 1) (q0 := 0) rfl rfl, fun U hU hW => ⟨rfl, by rw [hU], by rw [hU]; exact hPc, va_K.moved hW.alike hKc, hDc.weaken (fun _ _ _ _ => trivial), gv.pass hW hU hS hFc hG⟩⟩ rfl rfl hl.1 rfl (lv_room (Nat.le_of_ble_eq_true rfl)) dX5_type_113 ⟨Nat.le_of_ble_eq_true rfl, Nat.le_of_ble_eq_true rfl⟩) hS (fun q _ h => hFc q h) hFc (fun u ra t H1 locs ht hvm hw hB hz1 hk1 hS => ?_)
    obtain ⟨q106, q107, cq108, f109, f109_t, hra, hP1, hK1, hD1⟩ := hB
    rw [hra]
    rw [ht] at hP1
    have hK1 := va_K.moved hvm.symm hK1
    obtain ⟨hP, hD⟩ := va_join (wr := [(h0, .inr (9, [.int 0, .ref h1, .ref z0, .ref z1, .int 0, .int 0, .int 0])), (h1, .inl (k0, 4, .inr (.inr (.inr (.inr (va_up (va_up (va_up (va_up (fun _ => none) 0 (some ge5)) 1 (some ge5)) 2 (some ge5)) 3 (some ge5))))))), (h2, .inl (k1, 5, .inl (upd (upd (upd (upd (upd (fun _ => 0) 0 l1) 1 1) 2 l3) 3 l4) 4 l5)))]) (w1 := [(q102, .inr (1, [.ref q103, .int 0, .int 0, .int 1])), (q103, .inl (cq104, 16, .inl f105)), (q106, .inr (0, [.ref q107, .int 0, .int 0, .int 0])), (q107, .inl (cq108, 1, .inl f109))]) hP hD [3, 4] [0, 1, 2] rfl rfl (by decide) (by decide) hk1 hFc hP1 hD1
    have hK := hK.app (hK1.sub (tys' := [(cq108, .byte)]) [1] rfl)
    generalize H1 = H at hP hS ⊢
    have hK : va_K (dC, dI) vwCl [(k0, .object "java/lang/String"), (k1, .int), (cq104, .byte), (cq108, .byte)] s := hK
    have hP : va_P (dC, dI) vwCl [(h0, .inr (9, [.int 0, .ref h1, .ref z0, .ref z1, .int 0, .int 0, .int 0])), (h1, .inl (k0, 4, .inr (.inr (.inr (.inr (va_up (va_up (va_up (va_up (fun _ => none) 0 (some ge5)) 1 (some ge5)) 2 (some ge5)) 3 (some ge5))))))), (h2, .inl (k1, 5, .inl (upd (upd (upd (upd (upd (fun _ => 0) 0 l1) 1 1) 2 l3) 3 l4) 4 l5))), (q102, .inr (1, [.ref q103, .int 0, .int 0, .int 1])), (q103, .inl (cq104, 16, .inl f105)), (q106, .inr (0, [.ref q107, .int 0, .int 0, .int 0])), (q107, .inl (cq108, 1, .inl f109))] H := hP
    have hD : va_D A [(h0, .inr (9, [.int 0, .ref h1, .ref z0, .ref z1, .int 0, .int 0, .int 0])), (h1, .inl (k0, 4, .inr (.inr (.inr (.inr (va_up (va_up (va_up (va_up (fun _ => none) 0 (some ge5)) 1 (some ge5)) 2 (some ge5)) 3 (some ge5))))))), (h2, .inl (k1, 5, .inl (upd (upd (upd (upd (upd (fun _ => 0) 0 l1) 1 1) 2 l3) 3 l4) 4 l5))), (q102, .inr (1, [.ref q103, .int 0, .int 0, .int 1])), (q103, .inl (cq104, 16, .inl f105)), (q106, .inr (0, [.ref q107, .int 0, .int 0, .int 0])), (q107, .inl (cq108, 1, .inl f109))] := hD
    refine W.widen (k := 5) (n := 30) (by omega) (by omega) ?_
    refine lv_astore (lv' := [(9, .ref q106), (8, .int 1), (13, .int 1), (0, .ref h0), (1, .int rp), (7, .ref h2), (10, .ref h2), (11, .int 5), (12, .int 1)]) hx hb dX5_type_116 hl (by decide) rfl (fun ls hl => ?_)
    refine lv_iinc (v := 2) (lv' := [(12, .int 2), (9, .ref q106), (8, .int 1), (13, .int 1), (0, .ref h0), (1, .int rp), (7, .ref h2), (10, .ref h2), (11, .int 5)]) hx hb dX5_type_118 hl (k := 8) rfl (by decide) (by decide) rfl (fun ls hl => ?_)
    refine lv_goto (tgt := 47) hx hb dX5_type_121 (by decide) ?_
    have hP := hP.sub (ws' := [(h0, .inr (9, [.int 0, .ref h1, .ref z0, .ref z1, .int 0, .int 0, .int 0])), (h1, .inl (k0, 4, .inr (.inr (.inr (.inr (va_up (va_up (va_up (va_up (fun _ => none) 0 (some ge5)) 1 (some ge5)) 2 (some ge5)) 3 (some ge5))))))), (h2, .inl (k1, 5, .inl (upd (upd (upd (upd (upd (fun _ => 0) 0 l1) 1 1) 2 l3) 3 l4) 4 l5))), (q106, .inr (0, [.ref q107, .int 0, .int 0, .int 0])), (q107, .inl (cq108, 1, .inl f109))]) [0, 1, 2, 5, 6] rfl
    have hD := hD.sub (ws' := [(h0, .inr (9, [.int 0, .ref h1, .ref z0, .ref z1, .int 0, .int 0, .int 0])), (h1, .inl (k0, 4, .inr (.inr (.inr (.inr (va_up (va_up (va_up (va_up (fun _ => none) 0 (some ge5)) 1 (some ge5)) 2 (some ge5)) 3 (some ge5))))))), (h2, .inl (k1, 5, .inl (upd (upd (upd (upd (upd (fun _ => 0) 0 l1) 1 1) 2 l3) 3 l4) 4 l5))), (q106, .inr (0, [.ref q107, .int 0, .int 0, .int 0])), (q107, .inl (cq108, 1, .inl f109))]) [0, 1, 2, 5, 6] (by decide) rfl
    have hK := hK.sub (tys' := [(k0, .object "java/lang/String"), (k1, .int), (cq108, .byte)]) [0, 1, 3] rfl
    have hl := lv_sub hl [4, 5, 6, 2, 1, 7, 8, 0] (show lv_pick [(12, .int 2), (9, .ref q106), (8, .int 1), (13, .int 1), (0, .ref h0), (1, .int rp), (7, .ref h2), (10, .ref h2), (11, .int 5)] [4, 5, 6, 2, 1, 7, 8, 0] = [(0, .ref h0), (1, .int rp), (7, .ref h2), (8, .int 1), (9, .ref q106), (10, .ref h2), (11, .int 5), (12, .int 2)] from rfl)
    exact kx_X5_type_h211 f109_t hR hx hb hr hml hown hts hlocks hA hG hS hK hP hD hl
  · have hR : kz_ty rp 1 1 [l3, l4, l5] = (R, v) := (kz_ty_g (by decide) (by decide)).symm.trans hR
    refine lv_iload hx hb dX5_type_47 (lv_at hl 7 rfl) ?_
    refine lv_iload hx hb dX5_type_49 (lv_at hl 6 rfl) ?_
    refine lv_icmp_ge (tgt := 124) hx hb dX5_type_51 (by decide) (fun c9 => absurd c9 (by decide)) (fun _ => ?_)
    refine lv_aload hx hb dX5_type_54 (lv_at hl 5 rfl) ?_
    refine lv_iload hx hb dX5_type_56 (lv_at hl 7 rfl) ?_
    refine va_iald (D := (dC, dI)) hx hb hK hP 2 1 rfl rfl (by unfold vp_in; decide) dX5_type_58 ?_
    refine W.eq (g2 := F0 m 59 ls [.int 2]) rfl ?_
    refine lv_istore (lv' := [(13, .int 2), (0, .ref h0), (1, .int rp), (7, .ref h2), (8, .int 1), (9, .ref ge5), (10, .ref h2), (11, .int 5), (12, .int 1)]) hx hb dX5_type_59 hl (by decide) rfl (fun ls hl => ?_)
    refine lv_iload hx hb dX5_type_61 (lv_at hl 4 rfl) ?_
    refine lv_iload hx hb dX5_type_63 (lv_at hl 0 rfl) ?_
    refine lv_iconst (v := (-1)) hx hb dX5_type_65 (by decide) ?_
    refine lv_iconst (v := 3) hx hb dX5_type_66 (by decide) ?_
    have hPc := hP.sub (ws' := []) [] rfl
    have hDc := hD.sub (ws' := []) [] (by decide) rfl
    have hKc := hK.sub (tys' := []) [] rfl
    have hFc := va_free (wc := []) hD hS hA [] rfl
    refine va_calli (va_runS (As := [.int 2, .int (-1), .int 3]) (rest := [.int 1]) ⟨hx, hb, hml, hown, hts⟩ (kx_X5_isIn_11 l dC dI H.size) (cwS 3 hts gX5_type_X5_isIn rfl rfl rfl (by decide +kernel) ⟨Nat.le_of_ble_eq_true rfl, Nat.le_of_ble_eq_true rfl⟩) ⟨fun a U g mk q => by obtain ⟨q0, q1, qP, qK, qD⟩ := q; exact ⟨q0, q1, qP, va_K.moved (u := U) (U := U.calling g mk a) (Vm.Alike.refl U.vm) qK, qD⟩, fun U hU hW => ⟨rfl, by rw [hU], by rw [hU]; exact hPc, va_K.moved hW.alike hKc, hDc.weaken (fun _ _ _ _ => trivial)⟩⟩ rfl rfl hl.1 rfl (lv_room (Nat.le_of_ble_eq_true rfl)) dX5_type_67 ⟨Nat.le_of_ble_eq_true rfl, Nat.le_of_ble_eq_true rfl⟩) hS (fun q _ h => hFc q h) hFc (fun r9 u t H1 locs ht hvm hw hB hz1 hk1 hS => ?_)
    obtain rfl := hw
    obtain ⟨hP1, hK1, hD1⟩ := hB
    rw [ht] at hP1
    have hK1 := va_K.moved hvm.symm hK1
    obtain ⟨hP, hD⟩ := va_join (wr := [(h0, .inr (9, [.int 0, .ref h1, .ref z0, .ref z1, .int 0, .int 0, .int 0])), (h1, .inl (k0, 4, .inr (.inr (.inr (.inr (va_up (va_up (va_up (va_up (fun _ => none) 0 (some ge5)) 1 (some ge5)) 2 (some ge5)) 3 (some ge5))))))), (h2, .inl (k1, 5, .inl (upd (upd (upd (upd (upd (fun _ => 0) 0 l1) 1 2) 2 l3) 3 l4) 4 l5)))]) (w1 := []) hP hD [] [0, 1, 2] rfl rfl (by decide) (by decide) hk1 hFc hP1 hD1
    generalize H1 = H at hP hS ⊢
    have hP : va_P (dC, dI) vwCl [(h0, .inr (9, [.int 0, .ref h1, .ref z0, .ref z1, .int 0, .int 0, .int 0])), (h1, .inl (k0, 4, .inr (.inr (.inr (.inr (va_up (va_up (va_up (va_up (fun _ => none) 0 (some ge5)) 1 (some ge5)) 2 (some ge5)) 3 (some ge5))))))), (h2, .inl (k1, 5, .inl (upd (upd (upd (upd (upd (fun _ => 0) 0 l1) 1 2) 2 l3) 3 l4) 4 l5)))] H := hP
    have hD : va_D A [(h0, .inr (9, [.int 0, .ref h1, .ref z0, .ref z1, .int 0, .int 0, .int 0])), (h1, .inl (k0, 4, .inr (.inr (.inr (.inr (va_up (va_up (va_up (va_up (fun _ => none) 0 (some ge5)) 1 (some ge5)) 2 (some ge5)) 3 (some ge5))))))), (h2, .inl (k1, 5, .inl (upd (upd (upd (upd (upd (fun _ => 0) 0 l1) 1 2) 2 l3) 3 l4) 4 l5)))] := hD
    refine lv_if_ne (tgt := 77) hx hb dX5_type_70 (by decide) (fun _ => ?_) (fun c9 => absurd c9 (by decide))
    refine lv_iconst (v := 0) hx hb dX5_type_77 (by decide) ?_
    refine lv_ior hx hb dX5_type_78 ?_
    refine lv_topi (fun y101 ey101 => ?_)
    obtain rfl : y101 = 1 := ey101.trans (by decide)
    refine lv_istore (lv' := [(8, .int 1), (13, .int 2), (0, .ref h0), (1, .int rp), (7, .ref h2), (9, .ref ge5), (10, .ref h2), (11, .int 5), (12, .int 1)]) hx hb dX5_type_79 hl (by decide) rfl (fun ls hl => ?_)
    refine lv_iload hx hb dX5_type_81 (lv_at hl 1 rfl) ?_
    refine lv_iconst (v := 0) hx hb dX5_type_83 (by decide) ?_
    refine lv_iconst (v := 3) hx hb dX5_type_84 (by decide) ?_
    have hPc := hP.sub (ws' := []) [] rfl
    have hDc := hD.sub (ws' := []) [] (by decide) rfl
    have hKc := hK.sub (tys' := []) [] rfl
    have hFc := va_free (wc := []) hD hS hA [] rfl
    refine va_calli (va_runS (As := [.int 2, .int 0, .int 3]) (rest := []) ⟨hx, hb, hml, hown, hts⟩ (kx_X5_isIn_12 l dC dI H.size) (cwS 3 hts gX5_type_X5_isIn rfl rfl rfl (by decide +kernel) ⟨Nat.le_of_ble_eq_true rfl, Nat.le_of_ble_eq_true rfl⟩) ⟨fun a U g mk q => by obtain ⟨q0, q1, qP, qK, qD⟩ := q; exact ⟨q0, q1, qP, va_K.moved (u := U) (U := U.calling g mk a) (Vm.Alike.refl U.vm) qK, qD⟩, fun U hU hW => ⟨rfl, by rw [hU], by rw [hU]; exact hPc, va_K.moved hW.alike hKc, hDc.weaken (fun _ _ _ _ => trivial)⟩⟩ rfl rfl hl.1 rfl (lv_room (Nat.le_of_ble_eq_true rfl)) dX5_type_85 ⟨Nat.le_of_ble_eq_true rfl, Nat.le_of_ble_eq_true rfl⟩) hS (fun q _ h => hFc q h) hFc (fun r9 u t H1 locs ht hvm hw hB hz1 hk1 hS => ?_)
    obtain rfl := hw
    obtain ⟨hP1, hK1, hD1⟩ := hB
    rw [ht] at hP1
    have hK1 := va_K.moved hvm.symm hK1
    obtain ⟨hP, hD⟩ := va_join (wr := [(h0, .inr (9, [.int 0, .ref h1, .ref z0, .ref z1, .int 0, .int 0, .int 0])), (h1, .inl (k0, 4, .inr (.inr (.inr (.inr (va_up (va_up (va_up (va_up (fun _ => none) 0 (some ge5)) 1 (some ge5)) 2 (some ge5)) 3 (some ge5))))))), (h2, .inl (k1, 5, .inl (upd (upd (upd (upd (upd (fun _ => 0) 0 l1) 1 2) 2 l3) 3 l4) 4 l5)))]) (w1 := []) hP hD [] [0, 1, 2] rfl rfl (by decide) (by decide) hk1 hFc hP1 hD1
    generalize H1 = H at hP hS ⊢
    have hP : va_P (dC, dI) vwCl [(h0, .inr (9, [.int 0, .ref h1, .ref z0, .ref z1, .int 0, .int 0, .int 0])), (h1, .inl (k0, 4, .inr (.inr (.inr (.inr (va_up (va_up (va_up (va_up (fun _ => none) 0 (some ge5)) 1 (some ge5)) 2 (some ge5)) 3 (some ge5))))))), (h2, .inl (k1, 5, .inl (upd (upd (upd (upd (upd (fun _ => 0) 0 l1) 1 2) 2 l3) 3 l4) 4 l5)))] H := hP
    have hD : va_D A [(h0, .inr (9, [.int 0, .ref h1, .ref z0, .ref z1, .int 0, .int 0, .int 0])), (h1, .inl (k0, 4, .inr (.inr (.inr (.inr (va_up (va_up (va_up (va_up (fun _ => none) 0 (some ge5)) 1 (some ge5)) 2 (some ge5)) 3 (some ge5))))))), (h2, .inl (k1, 5, .inl (upd (upd (upd (upd (upd (fun _ => 0) 0 l1) 1 2) 2 l3) 3 l4) 4 l5)))] := hD
    refine lv_if_eq (tgt := 118) hx hb dX5_type_88 (by decide) (fun c9 => absurd c9 (by decide)) (fun _ => ?_)
    refine va_new (ci := 1) (fs := [.null, .int 0, .int 0, .int 0]) (C := RJ4) (T := TJ4) (N := 4) hx hb hts (by decide +kernel) tyJ4 tyJ4_ok hown (hts (.classLink RX5 49 RJ4) (by decide +kernel)) (hts (.instantiable RJ4 4) (by decide +kernel)) (hts (.initialized RJ4) (by decide +kernel)) hK hP hD hS hA rfl (fun j hj => by rcases (show j = 0 ∨ j = 1 ∨ j = 2 ∨ j = 3 by omega) with rfl | rfl | rfl | rfl <;> rfl) (Nat.le_of_ble_eq_true rfl) (Nat.le_of_ble_eq_true rfl) dX5_type_91 (fun q102 H hP hD hS => ?_)
    have hP : va_P (dC, dI) vwCl [(h0, .inr (9, [.int 0, .ref h1, .ref z0, .ref z1, .int 0, .int 0, .int 0])), (h1, .inl (k0, 4, .inr (.inr (.inr (.inr (va_up (va_up (va_up (va_up (fun _ => none) 0 (some ge5)) 1 (some ge5)) 2 (some ge5)) 3 (some ge5))))))), (h2, .inl (k1, 5, .inl (upd (upd (upd (upd (upd (fun _ => 0) 0 l1) 1 2) 2 l3) 3 l4) 4 l5))), (q102, .inr (1, [.null, .int 0, .int 0, .int 0]))] H := hP
    have hD : va_D A [(h0, .inr (9, [.int 0, .ref h1, .ref z0, .ref z1, .int 0, .int 0, .int 0])), (h1, .inl (k0, 4, .inr (.inr (.inr (.inr (va_up (va_up (va_up (va_up (fun _ => none) 0 (some ge5)) 1 (some ge5)) 2 (some ge5)) 3 (some ge5))))))), (h2, .inl (k1, 5, .inl (upd (upd (upd (upd (upd (fun _ => 0) 0 l1) 1 2) 2 l3) 3 l4) 4 l5))), (q102, .inr (1, [.null, .int 0, .int 0, .int 0]))] := hD
    refine W.widen (k := 2) (n := 9) (by omega) (by omega) ?_
    refine lv_dup hx hb dX5_type_94 rfl ?_
    have hPc := hP.sub (ws' := [(q102, .inr (1, [.null, .int 0, .int 0, .int 0]))]) [3] rfl
    have hDc := hD.sub (ws' := [(q102, .inr (1, [.null, .int 0, .int 0, .int 0]))]) [3] (by decide) rfl
    have hKc := hK.sub (tys' := []) [] rfl
    have hFc := va_free (wc := [(q102, .inr (1, [.null, .int 0, .int 0, .int 0]))]) hD hS hA [3] rfl
    refine va_callv (va_runI (As := []) (rest := [.ref q102]) ⟨hx, hb, hml, hown, hts⟩ (kx_J4_init_da8c8_0 l dC dI ge5 gea gv5 gva gde gic gi0 q102 H.size) (cwI 0 hts gX5_type_J4_init_da8c8 rfl rfl rfl (hts (.initialized RJ4) (by decide +kernel)) (hts (.methodLink RX5 51 yJ4_init_da8c8) (by decide +kernel)) (hts (.instanceMethod yJ4_init_da8c8) (by decide +kernel)) rfl (by decide +kernel) ⟨Nat.le_of_ble_eq_true rfl, Nat.le_of_ble_eq_true rfl⟩) ⟨fun a U g mk q => by obtain ⟨q0, q1, qP, qK, qD, qG⟩ := q; exact ⟨q0, q1, qP, va_K.moved (u := U) (U := U.calling g mk a) (Vm.Alike.refl U.vm) qK, qD, gv.fb qG⟩, fun U hU hW => ⟨rfl, by rw [hU], by rw [hU]; exact hPc, va_K.moved hW.alike hKc, hDc.weaken (fun _ _ _ _ => trivial), gv.pass hW hU hS hFc hG⟩⟩ rfl rfl hl.1 rfl (lv_room (Nat.le_of_ble_eq_true rfl)) dX5_type_95 ⟨Nat.le_of_ble_eq_true rfl, Nat.le_of_ble_eq_true rfl⟩) hS (fun q _ h => hFc q h) hFc (fun u t H1 locs ht hvm hw hB hz1 hk1 hS => ?_)
    obtain ⟨q103, cq104, hP1, hK1, hD1⟩ := hB
    rw [ht] at hP1
    have hK1 := va_K.moved hvm.symm hK1
    obtain ⟨hP, hD⟩ := va_join (wr := [(h0, .inr (9, [.int 0, .ref h1, .ref z0, .ref z1, .int 0, .int 0, .int 0])), (h1, .inl (k0, 4, .inr (.inr (.inr (.inr (va_up (va_up (va_up (va_up (fun _ => none) 0 (some ge5)) 1 (some ge5)) 2 (some ge5)) 3 (some ge5))))))), (h2, .inl (k1, 5, .inl (upd (upd (upd (upd (upd (fun _ => 0) 0 l1) 1 2) 2 l3) 3 l4) 4 l5)))]) (w1 := [(q102, .inr (1, [.ref q103, .int 0, .int 0, .int 0])), (q103, .inl (cq104, 16, .inl (fun _ => 0)))]) hP hD [3] [0, 1, 2] rfl rfl (by decide) (by decide) hk1 hFc hP1 hD1
    have hK := hK.app (hK1.sub (tys' := [(cq104, .byte)]) [0] rfl)
    generalize H1 = H at hP hS ⊢
    have hK : va_K (dC, dI) vwCl [(k0, .object "java/lang/String"), (k1, .int), (cq104, .byte)] s := hK
    have hP : va_P (dC, dI) vwCl [(h0, .inr (9, [.int 0, .ref h1, .ref z0, .ref z1, .int 0, .int 0, .int 0])), (h1, .inl (k0, 4, .inr (.inr (.inr (.inr (va_up (va_up (va_up (va_up (fun _ => none) 0 (some ge5)) 1 (some ge5)) 2 (some ge5)) 3 (some ge5))))))), (h2, .inl (k1, 5, .inl (upd (upd (upd (upd (upd (fun _ => 0) 0 l1) 1 2) 2 l3) 3 l4) 4 l5))), (q102, .inr (1, [.ref q103, .int 0, .int 0, .int 0])), (q103, .inl (cq104, 16, .inl (fun _ => 0)))] H := hP
    have hD : va_D A [(h0, .inr (9, [.int 0, .ref h1, .ref z0, .ref z1, .int 0, .int 0, .int 0])), (h1, .inl (k0, 4, .inr (.inr (.inr (.inr (va_up (va_up (va_up (va_up (fun _ => none) 0 (some ge5)) 1 (some ge5)) 2 (some ge5)) 3 (some ge5))))))), (h2, .inl (k1, 5, .inl (upd (upd (upd (upd (upd (fun _ => 0) 0 l1) 1 2) 2 l3) 3 l4) 4 l5))), (q102, .inr (1, [.ref q103, .int 0, .int 0, .int 0])), (q103, .inl (cq104, 16, .inl (fun _ => 0)))] := hD
    refine W.widen (k := 3) (n := 25) (by omega) (by omega) ?_
    refine lv_aload hx hb dX5_type_98 (lv_at hl 5 rfl) ?_
    have hPc := hP.sub (ws' := [(q102, .inr (1, [.ref q103, .int 0, .int 0, .int 0])), (q103, .inl (cq104, 16, .inl (fun _ => 0)))]) [3, 4] rfl
    have hDc := hD.sub (ws' := [(q102, .inr (1, [.ref q103, .int 0, .int 0, .int 0])), (q103, .inl (cq104, 16, .inl (fun _ => 0)))]) [3, 4] (by decide) rfl
    have hKc := hK.sub (tys' := [(cq104, .byte)]) [2] rfl
    have hFc := va_free (wc := [(q102, .inr (1, [.ref q103, .int 0, .int 0, .int 0])), (q103, .inl (cq104, 16, .inl (fun _ => 0)))]) hD hS hA [3, 4] rfl
    refine va_callr (va_runV (As := [.ref ge5]) (rest := []) ⟨hx, hb, hml, hown, hts⟩ (kx_J4_append_15ec4_0 l dC dI ge5 gea gv5 gva gde gic gi0 q102 q103 cq104 H.size) (cwV 1 hts gX5_type_J4_append_15ec4 rfl rfl rfl (by decide +kernel) ⟨Nat.le_of_ble_eq_true rfl, Nat.le_of_ble_eq_true rfl⟩) ⟨fun a U g mk q => by obtain ⟨q0, q1, qP, qK, qD, qG⟩ := q; exact ⟨q0, q1, qP, va_K.moved (u := U) (U := U.calling g mk a) (Vm.Alike.refl U.vm) qK, qD, gv.fb qG⟩, va_recv hKc hPc (ci := 1) (q0 := 0) rfl rfl, fun U hU hW => ⟨rfl, by rw [hU], by rw [hU]; exact hPc, va_K.moved hW.alike hKc, hDc.weaken (fun _ _ _ _ => trivial), gv.pass hW hU hS hFc hG⟩⟩ rfl rfl hl.1 rfl (lv_room (Nat.le_of_ble_eq_true rfl)) dX5_type_100 ⟨Nat.le_of_ble_eq_true rfl, Nat.le_of_ble_eq_true rfl⟩) hS (fun q _ h => hFc q h) hFc (fun u ra t H1 locs ht hvm hw hB hz1 hk1 hS => ?_)
    obtain ⟨hra, hP1, hK1, hD1⟩ := hB
    rw [hra]
    rw [ht] at hP1
    have hK1 := va_K.moved hvm.symm hK1
    obtain ⟨hP, hD⟩ := va_join (wr := [(h0, .inr (9, [.int 0, .ref h1, .ref z0, .ref z1, .int 0, .int 0, .int 0])), (h1, .inl (k0, 4, .inr (.inr (.inr (.inr (va_up (va_up (va_up (va_up (fun _ => none) 0 (some ge5)) 1 (some ge5)) 2 (some ge5)) 3 (some ge5))))))), (h2, .inl (k1, 5, .inl (upd (upd (upd (upd (upd (fun _ => 0) 0 l1) 1 2) 2 l3) 3 l4) 4 l5)))]) (w1 := [(q102, .inr (1, [.ref q103, .int 0, .int 0, .int 0])), (q103, .inl (cq104, 16, .inl (fun _ => 0)))]) hP hD [3, 4] [0, 1, 2] rfl rfl (by decide) (by decide) hk1 hFc hP1 hD1
    generalize H1 = H at hP hS ⊢
    have hP : va_P (dC, dI) vwCl [(h0, .inr (9, [.int 0, .ref h1, .ref z0, .ref z1, .int 0, .int 0, .int 0])), (h1, .inl (k0, 4, .inr (.inr (.inr (.inr (va_up (va_up (va_up (va_up (fun _ => none) 0 (some ge5)) 1 (some ge5)) 2 (some ge5)) 3 (some ge5))))))), (h2, .inl (k1, 5, .inl (upd (upd (upd (upd (upd (fun _ => 0) 0 l1) 1 2) 2 l3) 3 l4) 4 l5))), (q102, .inr (1, [.ref q103, .int 0, .int 0, .int 0])), (q103, .inl (cq104, 16, .inl (fun _ => 0)))] H := hP
    have hD : va_D A [(h0, .inr (9, [.int 0, .ref h1, .ref z0, .ref z1, .int 0, .int 0, .int 0])), (h1, .inl (k0, 4, .inr (.inr (.inr (.inr (va_up (va_up (va_up (va_up (fun _ => none) 0 (some ge5)) 1 (some ge5)) 2 (some ge5)) 3 (some ge5))))))), (h2, .inl (k1, 5, .inl (upd (upd (upd (upd (upd (fun _ => 0) 0 l1) 1 2) 2 l3) 3 l4) 4 l5))), (q102, .inr (1, [.ref q103, .int 0, .int 0, .int 0])), (q103, .inl (cq104, 16, .inl (fun _ => 0)))] := hD
    refine va_ldcS hx hb hown g_sa dX5_type_103 ?_
    refine lv_iload hx hb dX5_type_105 (lv_at hl 1 rfl) ?_
    have hPc := hP.sub (ws' := []) [] rfl
    have hDc := hD.sub (ws' := []) [] (by decide) rfl
    have hKc := hK.sub (tys' := []) [] rfl
    have hFc := va_free (wc := []) hD hS hA [] rfl
    refine va_calli (va_runV (As := [.int 2]) (rest := [.ref q102]) ⟨hx, hb, hml, hown, hts⟩ (kx_J0_charAt_5068e_2 l dC dI ge5 gea gv5 gva gde gic gi0 H.size) (cwV 1 hts gX5_type_J0_charAt_5068e rfl rfl rfl (by decide +kernel) ⟨Nat.le_of_ble_eq_true rfl, Nat.le_of_ble_eq_true rfl⟩) ⟨fun a U g mk q => by obtain ⟨q0, q1, qP, qK, qD, qG⟩ := q; exact ⟨q0, q1, qP, va_K.moved (u := U) (U := U.calling g mk a) (Vm.Alike.refl U.vm) qK, qD, gv.fb qG⟩, (by obtain ⟨cell, k1, k2, k3, -⟩ := g_oa.kept hS.2.1; exact ⟨cell, k1, k2, k3⟩), fun U hU hW => ⟨rfl, by rw [hU], by rw [hU]; exact hPc, va_K.moved hW.alike hKc, hDc.weaken (fun _ _ _ _ => trivial), gv.pass hW hU hS hFc hG⟩⟩ rfl rfl hl.1 rfl (lv_room (Nat.le_of_ble_eq_true rfl)) dX5_type_107 ⟨Nat.le_of_ble_eq_true rfl, Nat.le_of_ble_eq_true rfl⟩) hS (fun q _ h => hFc q h) hFc (fun r9 u t H1 locs ht hvm hw hB hz1 hk1 hS => ?_)
    obtain rfl := hw
    obtain ⟨hP1, hK1, hD1⟩ := hB
    rw [ht] at hP1
    have hK1 := va_K.moved hvm.symm hK1
    obtain ⟨hP, hD⟩ := va_join (wr := [(h0, .inr (9, [.int 0, .ref h1, .ref z0, .ref z1, .int 0, .int 0, .int 0])), (h1, .inl (k0, 4, .inr (.inr (.inr (.inr (va_up (va_up (va_up (va_up (fun _ => none) 0 (some ge5)) 1 (some ge5)) 2 (some ge5)) 3 (some ge5))))))), (h2, .inl (k1, 5, .inl (upd (upd (upd (upd (upd (fun _ => 0) 0 l1) 1 2) 2 l3) 3 l4) 4 l5))), (q102, .inr (1, [.ref q103, .int 0, .int 0, .int 0])), (q103, .inl (cq104, 16, .inl (fun _ => 0)))]) (w1 := []) hP hD [] [0, 1, 2, 3, 4] rfl rfl (by decide) (by decide) hk1 hFc hP1 hD1
    generalize H1 = H at hP hS ⊢
    have hP : va_P (dC, dI) vwCl [(h0, .inr (9, [.int 0, .ref h1, .ref z0, .ref z1, .int 0, .int 0, .int 0])), (h1, .inl (k0, 4, .inr (.inr (.inr (.inr (va_up (va_up (va_up (va_up (fun _ => none) 0 (some ge5)) 1 (some ge5)) 2 (some ge5)) 3 (some ge5))))))), (h2, .inl (k1, 5, .inl (upd (upd (upd (upd (upd (fun _ => 0) 0 l1) 1 2) 2 l3) 3 l4) 4 l5))), (q102, .inr (1, [.ref q103, .int 0, .int 0, .int 0])), (q103, .inl (cq104, 16, .inl (fun _ => 0)))] H := hP
    have hD : va_D A [(h0, .inr (9, [.int 0, .ref h1, .ref z0, .ref z1, .int 0, .int 0, .int 0])), (h1, .inl (k0, 4, .inr (.inr (.inr (.inr (va_up (va_up (va_up (va_up (fun _ => none) 0 (some ge5)) 1 (some ge5)) 2 (some ge5)) 3 (some ge5))))))), (h2, .inl (k1, 5, .inl (upd (upd (upd (upd (upd (fun _ => 0) 0 l1) 1 2) 2 l3) 3 l4) 4 l5))), (q102, .inr (1, [.ref q103, .int 0, .int 0, .int 0])), (q103, .inl (cq104, 16, .inl (fun _ => 0)))] := hD
    have hPc := hP.sub (ws' := [(q102, .inr (1, [.ref q103, .int 0, .int 0, .int 0])), (q103, .inl (cq104, 16, .inl (fun _ => 0)))]) [3, 4] rfl
    have hDc := hD.sub (ws' := [(q102, .inr (1, [.ref q103, .int 0, .int 0, .int 0])), (q103, .inl (cq104, 16, .inl (fun _ => 0)))]) [3, 4] (by decide) rfl
    have hKc := hK.sub (tys' := [(cq104, .byte)]) [2] rfl
    have hFc := va_free (wc := [(q102, .inr (1, [.ref q103, .int 0, .int 0, .int 0])), (q103, .inl (cq104, 16, .inl (fun _ => 0)))]) hD hS hA [3, 4] rfl
    refine va_callr (va_runV (As := [.int 99]) (rest := []) ⟨hx, hb, hml, hown, hts⟩ (kx_J4_append_cf468_2 l dC dI ge5 gea gv5 gva gde gic gi0 q102 q103 cq104 H.size) (cwV 1 hts gX5_type_J4_append_cf468 rfl rfl rfl (by decide +kernel) ⟨Nat.le_of_ble_eq_true rfl, Nat.le_of_ble_eq_true rfl⟩) ⟨fun a U g mk q => by obtain ⟨q0, q1, qP, qK, qD, qG⟩ := q; exact ⟨q0, q1, qP, va_K.moved (u := U) (U := U.calling g mk a) (Vm.Alike.refl U.vm) qK, qD, gv.fb qG⟩, va_recv hKc hPc (ci := 1) (q0 := 0) rfl rfl, fun U hU hW => ⟨rfl, by rw [hU], by rw [hU]; exact hPc, va_K.moved hW.alike hKc, hDc.weaken (fun _ _ _ _ => trivial), gv.pass hW hU hS hFc hG⟩⟩ rfl rfl hl.1 rfl (lv_room (Nat.le_of_ble_eq_true rfl)) dX5_type_110 ⟨Nat.le_of_ble_eq_true rfl, Nat.le_of_ble_eq_true rfl⟩) hS (fun q _ h => hFc q h) hFc (fun u ra t H1 locs ht hvm hw hB hz1 hk1 hS => ?_)
    obtain ⟨f105, f105_t, hra, hP1, hK1, hD1⟩ := hB
    rw [hra]
    rw [ht] at hP1
    have hK1 := va_K.moved hvm.symm hK1
    obtain ⟨hP, hD⟩ := va_join (wr := [(h0, .inr (9, [.int 0, .ref h1, .ref z0, .ref z1, .int 0, .int 0, .int 0])), (h1, .inl (k0, 4, .inr (.inr (.inr (.inr (va_up (va_up (va_up (va_up (fun _ => none) 0 (some ge5)) 1 (some ge5)) 2 (some ge5)) 3 (some ge5))))))), (h2, .inl (k1, 5, .inl (upd (upd (upd (upd (upd (fun _ => 0) 0 l1) 1 2) 2 l3) 3 l4) 4 l5)))]) (w1 := [(q102, .inr (1, [.ref q103, .int 0, .int 0, .int 1])), (q103, .inl (cq104, 16, .inl f105))]) hP hD [3, 4] [0, 1, 2] rfl rfl (by decide) (by decide) hk1 hFc hP1 hD1
    generalize H1 = H at hP hS ⊢
    have hP : va_P (dC, dI) vwCl [(h0, .inr (9, [.int 0, .ref h1, .ref z0, .ref z1, .int 0, .int 0, .int 0])), (h1, .inl (k0, 4, .inr (.inr (.inr (.inr (va_up (va_up (va_up (va_up (fun _ => none) 0 (some ge5)) 1 (some ge5)) 2 (some ge5)) 3 (some ge5))))))), (h2, .inl (k1, 5, .inl (upd (upd (upd (upd (upd (fun _ => 0) 0 l1) 1 2) 2 l3) 3 l4) 4 l5))), (q102, .inr (1, [.ref q103, .int 0, .int 0, .int 1])), (q103, .inl (cq104, 16, .inl f105))] H := hP
    have hD : va_D A [(h0, .inr (9, [.int 0, .ref h1, .ref z0, .ref z1, .int 0, .int 0, .int 0])), (h1, .inl (k0, 4, .inr (.inr (.inr (.inr (va_up (va_up (va_up (va_up (fun _ => none) 0 (some ge5)) 1 (some ge5)) 2 (some ge5)) 3 (some ge5))))))), (h2, .inl (k1, 5, .inl (upd (upd (upd (upd (upd (fun _ => 0) 0 l1) 1 2) 2 l3) 3 l4) 4 l5))), (q102, .inr (1, [.ref q103, .int 0, .int 0, .int 1])), (q103, .inl (cq104, 16, .inl f105))] := hD
    have hPc := hP.sub (ws' := [(q102, .inr (1, [.ref q103, .int 0, .int 0, .int 1])), (q103, .inl (cq104, 16, .inl f105))]) [3, 4] rfl
    have hDc := hD.sub (ws' := [(q102, .inr (1, [.ref q103, .int 0, .int 0, .int 1])), (q103, .inl (cq104, 16, .inl f105))]) [3, 4] (by decide) rfl
    have hKc := hK.sub (tys' := [(cq104, .byte)]) [2] rfl
    have hFc := va_free (wc := [(q102, .inr (1, [.ref q103, .int 0, .int 0, .int 1])), (q103, .inl (cq104, 16, .inl f105))]) hD hS hA [3, 4] rfl
    refine va_callr (va_runV (As := []) (rest := []) ⟨hx, hb, hml, hown, hts⟩ (kx_J4_toString_0e30d_1 l dC dI ge5 gea gv5 gva gde gic gi0 q102 q103 cq104 H.size f105 f105_t) (cwV 0 hts gX5_type_J4_toString_0e30d rfl rfl rfl (by decide +kernel) ⟨Nat.le_of_ble_eq_true rfl, Nat.le_of_ble_eq_true rfl⟩) ⟨fun a U g mk q => by obtain ⟨q0, q1, qP, qK, qD, qG⟩ := q; exact ⟨q0, q1, qP, va_K.moved (u := U) (U := U.calling g mk a) (Vm.Alike.refl U.vm) qK, qD, gv.fb qG⟩, va_recv hKc hPc (ci := 1) (q0 := 0) rfl rfl, fun U hU hW => ⟨rfl, by rw [hU], by rw [hU]; exact hPc, va_K.moved hW.alike hKc, hDc.weaken (fun _ _ _ _ => trivial), gv.pass hW hU hS hFc hG⟩⟩ rfl rfl hl.1 rfl (lv_room (Nat.le_of_ble_eq_true rfl)) dX5_type_113 ⟨Nat.le_of_ble_eq_true rfl, Nat.le_of_ble_eq_true rfl⟩) hS (fun q _ h => hFc q h) hFc (fun u ra t H1 locs ht hvm hw hB hz1 hk1 hS => ?_)
    obtain ⟨q106, q107, cq108, f109, f109_t, hra, hP1, hK1, hD1⟩ := hB
    rw [hra]
    rw [ht] at hP1
    have hK1 := va_K.moved hvm.symm hK1
    obtain ⟨hP, hD⟩ := va_join (wr := [(h0, .inr (9, [.int 0, .ref h1, .ref z0, .ref z1, .int 0, .int 0, .int 0])), (h1, .inl (k0, 4, .inr (.inr (.inr (.inr (va_up (va_up (va_up (va_up (fun _ => none) 0 (some ge5)) 1 (some ge5)) 2 (some ge5)) 3 (some ge5))))))), (h2, .inl (k1, 5, .inl (upd (upd (upd (upd (upd (fun _ => 0) 0 l1) 1 2) 2 l3) 3 l4) 4 l5)))]) (w1 := [(q102, .inr (1, [.ref q103, .int 0, .int 0, .int 1])), (q103, .inl (cq104, 16, .inl f105)), (q106, .inr (0, [.ref q107, .int 0, .int 0, .int 0])), (q107, .inl (cq108, 1, .inl f109))]) hP hD [3, 4] [0, 1, 2] rfl rfl (by decide) (by decide) hk1 hFc hP1 hD1
    have hK := hK.app (hK1.sub (tys' := [(cq108, .byte)]) [1] rfl)
    generalize H1 = H at hP hS ⊢
    have hK : va_K (dC, dI) vwCl [(k0, .object "java/lang/String"), (k1, .int), (cq104, .byte), (cq108, .byte)] s := hK
    have hP : va_P (dC, dI) vwCl [(h0, .inr (9, [.int 0, .ref h1, .ref z0, .ref z1, .int 0, .int 0, .int 0])), (h1, .inl (k0, 4, .inr (.inr (.inr (.inr (va_up (va_up (va_up (va_up (fun _ => none) 0 (some ge5)) 1 (some ge5)) 2 (some ge5)) 3 (some ge5))))))), (h2, .inl (k1, 5, .inl (upd (upd (upd (upd (upd (fun _ => 0) 0 l1) 1 2) 2 l3) 3 l4) 4 l5))), (q102, .inr (1, [.ref q103, .int 0, .int 0, .int 1])), (q103, .inl (cq104, 16, .inl f105)), (q106, .inr (0, [.ref q107, .int 0, .int 0, .int 0])), (q107, .inl (cq108, 1, .inl f109))] H := hP
    have hD : va_D A [(h0, .inr (9, [.int 0, .ref h1, .ref z0, .ref z1, .int 0, .int 0, .int 0])), (h1, .inl (k0, 4, .inr (.inr (.inr (.inr (va_up (va_up (va_up (va_up (fun _ => none) 0 (some ge5)) 1 (some ge5)) 2 (some ge5)) 3 (some ge5))))))), (h2, .inl (k1, 5, .inl (upd (upd (upd (upd (upd (fun _ => 0) 0 l1) 1 2) 2 l3) 3 l4) 4 l5))), (q102, .inr (1, [.ref q103, .int 0, .int 0, .int 1])), (q103, .inl (cq104, 16, .inl f105)), (q106, .inr (0, [.ref q107, .int 0, .int 0, .int 0])), (q107, .inl (cq108, 1, .inl f109))] := hD
    refine W.widen (k := 5) (n := 30) (by omega) (by omega) ?_
    refine lv_astore (lv' := [(9, .ref q106), (8, .int 1), (13, .int 2), (0, .ref h0), (1, .int rp), (7, .ref h2), (10, .ref h2), (11, .int 5), (12, .int 1)]) hx hb dX5_type_116 hl (by decide) rfl (fun ls hl => ?_)
    refine lv_iinc (v := 2) (lv' := [(12, .int 2), (9, .ref q106), (8, .int 1), (13, .int 2), (0, .ref h0), (1, .int rp), (7, .ref h2), (10, .ref h2), (11, .int 5)]) hx hb dX5_type_118 hl (k := 8) rfl (by decide) (by decide) rfl (fun ls hl => ?_)
    refine lv_goto (tgt := 47) hx hb dX5_type_121 (by decide) ?_
    have hP := hP.sub (ws' := [(h0, .inr (9, [.int 0, .ref h1, .ref z0, .ref z1, .int 0, .int 0, .int 0])), (h1, .inl (k0, 4, .inr (.inr (.inr (.inr (va_up (va_up (va_up (va_up (fun _ => none) 0 (some ge5)) 1 (some ge5)) 2 (some ge5)) 3 (some ge5))))))), (h2, .inl (k1, 5, .inl (upd (upd (upd (upd (upd (fun _ => 0) 0 l1) 1 2) 2 l3) 3 l4) 4 l5))), (q106, .inr (0, [.ref q107, .int 0, .int 0, .int 0])), (q107, .inl (cq108, 1, .inl f109))]) [0, 1, 2, 5, 6] rfl
    have hD := hD.sub (ws' := [(h0, .inr (9, [.int 0, .ref h1, .ref z0, .ref z1, .int 0, .int 0, .int 0])), (h1, .inl (k0, 4, .inr (.inr (.inr (.inr (va_up (va_up (va_up (va_up (fun _ => none) 0 (some ge5)) 1 (some ge5)) 2 (some ge5)) 3 (some ge5))))))), (h2, .inl (k1, 5, .inl (upd (upd (upd (upd (upd (fun _ => 0) 0 l1) 1 2) 2 l3) 3 l4) 4 l5))), (q106, .inr (0, [.ref q107, .int 0, .int 0, .int 0])), (q107, .inl (cq108, 1, .inl f109))]) [0, 1, 2, 5, 6] (by decide) rfl
    have hK := hK.sub (tys' := [(k0, .object "java/lang/String"), (k1, .int), (cq108, .byte)]) [0, 1, 3] rfl
    have hl := lv_sub hl [4, 5, 6, 2, 1, 7, 8, 0] (show lv_pick [(12, .int 2), (9, .ref q106), (8, .int 1), (13, .int 2), (0, .ref h0), (1, .int rp), (7, .ref h2), (10, .ref h2), (11, .int 5)] [4, 5, 6, 2, 1, 7, 8, 0] = [(0, .ref h0), (1, .int rp), (7, .ref h2), (8, .int 1), (9, .ref q106), (10, .ref h2), (11, .int 5), (12, .int 2)] from rfl)
    exact kx_X5_type_h211 f109_t hR hx hb hr hml hown hts hlocks hA hG hS hK hP hD hl
  · have hR : kz_ty rp 1 1 [l3, l4, l5] = (R, v) := (kz_ty_g (by decide) (by decide)).symm.trans hR
    refine lv_iload hx hb dX5_type_47 (lv_at hl 7 rfl) ?_
    refine lv_iload hx hb dX5_type_49 (lv_at hl 6 rfl) ?_
    refine lv_icmp_ge (tgt := 124) hx hb dX5_type_51 (by decide) (fun c9 => absurd c9 (by decide)) (fun _ => ?_)
    refine lv_aload hx hb dX5_type_54 (lv_at hl 5 rfl) ?_
    refine lv_iload hx hb dX5_type_56 (lv_at hl 7 rfl) ?_
    refine va_iald (D := (dC, dI)) hx hb hK hP 2 1 rfl rfl (by unfold vp_in; decide) dX5_type_58 ?_
    refine W.eq (g2 := F0 m 59 ls [.int 3]) rfl ?_
    refine lv_istore (lv' := [(13, .int 3), (0, .ref h0), (1, .int rp), (7, .ref h2), (8, .int 1), (9, .ref ge5), (10, .ref h2), (11, .int 5), (12, .int 1)]) hx hb dX5_type_59 hl (by decide) rfl (fun ls hl => ?_)
    refine lv_iload hx hb dX5_type_61 (lv_at hl 4 rfl) ?_
    refine lv_iload hx hb dX5_type_63 (lv_at hl 0 rfl) ?_
    refine lv_iconst (v := (-1)) hx hb dX5_type_65 (by decide) ?_
    refine lv_iconst (v := 3) hx hb dX5_type_66 (by decide) ?_
    have hPc := hP.sub (ws' := []) [] rfl
    have hDc := hD.sub (ws' := []) [] (by decide) rfl
    have hKc := hK.sub (tys' := []) [] rfl
    have hFc := va_free (wc := []) hD hS hA [] rfl
    refine va_calli (va_runS (As := [.int 3, .int (-1), .int 3]) (rest := [.int 1]) ⟨hx, hb, hml, hown, hts⟩ (kx_X5_isIn_13 l dC dI H.size) (cwS 3 hts gX5_type_X5_isIn rfl rfl rfl (by decide +kernel) ⟨Nat.le_of_ble_eq_true rfl, Nat.le_of_ble_eq_true rfl⟩) ⟨fun a U g mk q => by obtain ⟨q0, q1, qP, qK, qD⟩ := q; exact ⟨q0, q1, qP, va_K.moved (u := U) (U := U.calling g mk a) (Vm.Alike.refl U.vm) qK, qD⟩, fun U hU hW => ⟨rfl, by rw [hU], by rw [hU]; exact hPc, va_K.moved hW.alike hKc, hDc.weaken (fun _ _ _ _ => trivial)⟩⟩ rfl rfl hl.1 rfl (lv_room (Nat.le_of_ble_eq_true rfl)) dX5_type_67 ⟨Nat.le_of_ble_eq_true rfl, Nat.le_of_ble_eq_true rfl⟩) hS (fun q _ h => hFc q h) hFc (fun r9 u t H1 locs ht hvm hw hB hz1 hk1 hS => ?_)
    obtain rfl := hw
    obtain ⟨hP1, hK1, hD1⟩ := hB
    rw [ht] at hP1
    have hK1 := va_K.moved hvm.symm hK1
    obtain ⟨hP, hD⟩ := va_join (wr := [(h0, .inr (9, [.int 0, .ref h1, .ref z0, .ref z1, .int 0, .int 0, .int 0])), (h1, .inl (k0, 4, .inr (.inr (.inr (.inr (va_up (va_up (va_up (va_up (fun _ => none) 0 (some ge5)) 1 (some ge5)) 2 (some ge5)) 3 (some ge5))))))), (h2, .inl (k1, 5, .inl (upd (upd (upd (upd (upd (fun _ => 0) 0 l1) 1 3) 2 l3) 3 l4) 4 l5)))]) (w1 := []) hP hD [] [0, 1, 2] rfl rfl (by decide) (by decide) hk1 hFc hP1 hD1
    generalize H1 = H at hP hS ⊢
    have hP : va_P (dC, dI) vwCl [(h0, .inr (9, [.int 0, .ref h1, .ref z0, .ref z1, .int 0, .int 0, .int 0])), (h1, .inl (k0, 4, .inr (.inr (.inr (.inr (va_up (va_up (va_up (va_up (fun _ => none) 0 (some ge5)) 1 (some ge5)) 2 (some ge5)) 3 (some ge5))))))), (h2, .inl (k1, 5, .inl (upd (upd (upd (upd (upd (fun _ => 0) 0 l1) 1 3) 2 l3) 3 l4) 4 l5)))] H := hP
    have hD : va_D A [(h0, .inr (9, [.int 0, .ref h1, .ref z0, .ref z1, .int 0, .int 0, .int 0])), (h1, .inl (k0, 4, .inr (.inr (.inr (.inr (va_up (va_up (va_up (va_up (fun _ => none) 0 (some ge5)) 1 (some ge5)) 2 (some ge5)) 3 (some ge5))))))), (h2, .inl (k1, 5, .inl (upd (upd (upd (upd (upd (fun _ => 0) 0 l1) 1 3) 2 l3) 3 l4) 4 l5)))] := hD
    refine lv_if_ne (tgt := 77) hx hb dX5_type_70 (by decide) (fun _ => ?_) (fun c9 => absurd c9 (by decide))
    refine lv_iconst (v := 0) hx hb dX5_type_77 (by decide) ?_
    refine lv_ior hx hb dX5_type_78 ?_
    refine lv_topi (fun y101 ey101 => ?_)
    obtain rfl : y101 = 1 := ey101.trans (by decide)
    refine lv_istore (lv' := [(8, .int 1), (13, .int 3), (0, .ref h0), (1, .int rp), (7, .ref h2), (9, .ref ge5), (10, .ref h2), (11, .int 5), (12, .int 1)]) hx hb dX5_type_79 hl (by decide) rfl (fun ls hl => ?_)
    refine lv_iload hx hb dX5_type_81 (lv_at hl 1 rfl) ?_
    refine lv_iconst (v := 0) hx hb dX5_type_83 (by decide) ?_
    refine lv_iconst (v := 3) hx hb dX5_type_84 (by decide) ?_
    have hPc := hP.sub (ws' := []) [] rfl
    have hDc := hD.sub (ws' := []) [] (by decide) rfl
    have hKc := hK.sub (tys' := []) [] rfl
    have hFc := va_free (wc := []) hD hS hA [] rfl
    refine va_calli (va_runS (As := [.int 3, .int 0, .int 3]) (rest := []) ⟨hx, hb, hml, hown, hts⟩ (kx_X5_isIn_14 l dC dI H.size) (cwS 3 hts gX5_type_X5_isIn rfl rfl rfl (by decide +kernel) ⟨Nat.le_of_ble_eq_true rfl, Nat.le_of_ble_eq_true rfl⟩) ⟨fun a U g mk q => by obtain ⟨q0, q1, qP, qK, qD⟩ := q; exact ⟨q0, q1, qP, va_K.moved (u := U) (U := U.calling g mk a) (Vm.Alike.refl U.vm) qK, qD⟩, fun U hU hW => ⟨rfl, by rw [hU], by rw [hU]; exact hPc, va_K.moved hW.alike hKc, hDc.weaken (fun _ _ _ _ => trivial)⟩⟩ rfl rfl hl.1 rfl (lv_room (Nat.le_of_ble_eq_true rfl)) dX5_type_85 ⟨Nat.le_of_ble_eq_true rfl, Nat.le_of_ble_eq_true rfl⟩) hS (fun q _ h => hFc q h) hFc (fun r9 u t H1 locs ht hvm hw hB hz1 hk1 hS => ?_)
    obtain rfl := hw
    obtain ⟨hP1, hK1, hD1⟩ := hB
    rw [ht] at hP1
    have hK1 := va_K.moved hvm.symm hK1
    obtain ⟨hP, hD⟩ := va_join (wr := [(h0, .inr (9, [.int 0, .ref h1, .ref z0, .ref z1, .int 0, .int 0, .int 0])), (h1, .inl (k0, 4, .inr (.inr (.inr (.inr (va_up (va_up (va_up (va_up (fun _ => none) 0 (some ge5)) 1 (some ge5)) 2 (some ge5)) 3 (some ge5))))))), (h2, .inl (k1, 5, .inl (upd (upd (upd (upd (upd (fun _ => 0) 0 l1) 1 3) 2 l3) 3 l4) 4 l5)))]) (w1 := []) hP hD [] [0, 1, 2] rfl rfl (by decide) (by decide) hk1 hFc hP1 hD1
    generalize H1 = H at hP hS ⊢
    have hP : va_P (dC, dI) vwCl [(h0, .inr (9, [.int 0, .ref h1, .ref z0, .ref z1, .int 0, .int 0, .int 0])), (h1, .inl (k0, 4, .inr (.inr (.inr (.inr (va_up (va_up (va_up (va_up (fun _ => none) 0 (some ge5)) 1 (some ge5)) 2 (some ge5)) 3 (some ge5))))))), (h2, .inl (k1, 5, .inl (upd (upd (upd (upd (upd (fun _ => 0) 0 l1) 1 3) 2 l3) 3 l4) 4 l5)))] H := hP
    have hD : va_D A [(h0, .inr (9, [.int 0, .ref h1, .ref z0, .ref z1, .int 0, .int 0, .int 0])), (h1, .inl (k0, 4, .inr (.inr (.inr (.inr (va_up (va_up (va_up (va_up (fun _ => none) 0 (some ge5)) 1 (some ge5)) 2 (some ge5)) 3 (some ge5))))))), (h2, .inl (k1, 5, .inl (upd (upd (upd (upd (upd (fun _ => 0) 0 l1) 1 3) 2 l3) 3 l4) 4 l5)))] := hD
    refine lv_if_eq (tgt := 118) hx hb dX5_type_88 (by decide) (fun c9 => absurd c9 (by decide)) (fun _ => ?_)
    refine va_new (ci := 1) (fs := [.null, .int 0, .int 0, .int 0]) (C := RJ4) (T := TJ4) (N := 4) hx hb hts (by decide +kernel) tyJ4 tyJ4_ok hown (hts (.classLink RX5 49 RJ4) (by decide +kernel)) (hts (.instantiable RJ4 4) (by decide +kernel)) (hts (.initialized RJ4) (by decide +kernel)) hK hP hD hS hA rfl (fun j hj => by rcases (show j = 0 ∨ j = 1 ∨ j = 2 ∨ j = 3 by omega) with rfl | rfl | rfl | rfl <;> rfl) (Nat.le_of_ble_eq_true rfl) (Nat.le_of_ble_eq_true rfl) dX5_type_91 (fun q102 H hP hD hS => ?_)
    have hP : va_P (dC, dI) vwCl [(h0, .inr (9, [.int 0, .ref h1, .ref z0, .ref z1, .int 0, .int 0, .int 0])), (h1, .inl (k0, 4, .inr (.inr (.inr (.inr (va_up (va_up (va_up (va_up (fun _ => none) 0 (some ge5)) 1 (some ge5)) 2 (some ge5)) 3 (some ge5))))))), (h2, .inl (k1, 5, .inl (upd (upd (upd (upd (upd (fun _ => 0) 0 l1) 1 3) 2 l3) 3 l4) 4 l5))), (q102, .inr (1, [.null, .int 0, .int 0, .int 0]))] H := hP
    have hD : va_D A [(h0, .inr (9, [.int 0, .ref h1, .ref z0, .ref z1, .int 0, .int 0, .int 0])), (h1, .inl (k0, 4, .inr (.inr (.inr (.inr (va_up (va_up (va_up (va_up (fun _ => none) 0 (some ge5)) 1 (some ge5)) 2 (some ge5)) 3 (some ge5))))))), (h2, .inl (k1, 5, .inl (upd (upd (upd (upd (upd (fun _ => 0) 0 l1) 1 3) 2 l3) 3 l4) 4 l5))), (q102, .inr (1, [.null, .int 0, .int 0, .int 0]))] := hD
    refine W.widen (k := 2) (n := 9) (by omega) (by omega) ?_
    refine lv_dup hx hb dX5_type_94 rfl ?_
    have hPc := hP.sub (ws' := [(q102, .inr (1, [.null, .int 0, .int 0, .int 0]))]) [3] rfl
    have hDc := hD.sub (ws' := [(q102, .inr (1, [.null, .int 0, .int 0, .int 0]))]) [3] (by decide) rfl
    have hKc := hK.sub (tys' := []) [] rfl
    have hFc := va_free (wc := [(q102, .inr (1, [.null, .int 0, .int 0, .int 0]))]) hD hS hA [3] rfl
    refine va_callv (va_runI (As := []) (rest := [.ref q102]) ⟨hx, hb, hml, hown, hts⟩ (kx_J4_init_da8c8_0 l dC dI ge5 gea gv5 gva gde gic gi0 q102 H.size) (cwI 0 hts gX5_type_J4_init_da8c8 rfl rfl rfl (hts (.initialized RJ4) (by decide +kernel)) (hts (.methodLink RX5 51 yJ4_init_da8c8) (by decide +kernel)) (hts (.instanceMethod yJ4_init_da8c8) (by decide +kernel)) rfl (by decide +kernel) ⟨Nat.le_of_ble_eq_true rfl, Nat.le_of_ble_eq_true rfl⟩) ⟨fun a U g mk q => by obtain ⟨q0, q1, qP, qK, qD, qG⟩ := q; exact ⟨q0, q1, qP, va_K.moved (u := U) (U := U.calling g mk a) (Vm.Alike.refl U.vm) qK, qD, gv.fb qG⟩, fun U hU hW => ⟨rfl, by rw [hU], by rw [hU]; exact hPc, va_K.moved hW.alike hKc, hDc.weaken (fun _ _ _ _ => trivial), gv.pass hW hU hS hFc hG⟩⟩ rfl rfl hl.1 rfl (lv_room (Nat.le_of_ble_eq_true rfl)) dX5_type_95 ⟨Nat.le_of_ble_eq_true rfl, Nat.le_of_ble_eq_true rfl⟩) hS (fun q _ h => hFc q h) hFc (fun u t H1 locs ht hvm hw hB hz1 hk1 hS => ?_)
    obtain ⟨q103, cq104, hP1, hK1, hD1⟩ := hB
    rw [ht] at hP1
    have hK1 := va_K.moved hvm.symm hK1
    obtain ⟨hP, hD⟩ := va_join (wr := [(h0, .inr (9, [.int 0, .ref h1, .ref z0, .ref z1, .int 0, .int 0, .int 0])), (h1, .inl (k0, 4, .inr (.inr (.inr (.inr (va_up (va_up (va_up (va_up (fun _ => none) 0 (some ge5)) 1 (some ge5)) 2 (some ge5)) 3 (some ge5))))))), (h2, .inl (k1, 5, .inl (upd (upd (upd (upd (upd (fun _ => 0) 0 l1) 1 3) 2 l3) 3 l4) 4 l5)))]) (w1 := [(q102, .inr (1, [.ref q103, .int 0, .int 0, .int 0])), (q103, .inl (cq104, 16, .inl (fun _ => 0)))]) hP hD [3] [0, 1, 2] rfl rfl (by decide) (by decide) hk1 hFc hP1 hD1
    have hK := hK.app (hK1.sub (tys' := [(cq104, .byte)]) [0] rfl)
    generalize H1 = H at hP hS ⊢
    have hK : va_K (dC, dI) vwCl [(k0, .object "java/lang/String"), (k1, .int), (cq104, .byte)] s := hK
    have hP : va_P (dC, dI) vwCl [(h0, .inr (9, [.int 0, .ref h1, .ref z0, .ref z1, .int 0, .int 0, .int 0])), (h1, .inl (k0, 4, .inr (.inr (.inr (.inr (va_up (va_up (va_up (va_up (fun _ => none) 0 (some ge5)) 1 (some ge5)) 2 (some ge5)) 3 (some ge5))))))), (h2, .inl (k1, 5, .inl (upd (upd (upd (upd (upd (fun _ => 0) 0 l1) 1 3) 2 l3) 3 l4) 4 l5))), (q102, .inr (1, [.ref q103, .int 0, .int 0, .int 0])), (q103, .inl (cq104, 16, .inl (fun _ => 0)))] H := hP
    have hD : va_D A [(h0, .inr (9, [.int 0, .ref h1, .ref z0, .ref z1, .int 0, .int 0, .int 0])), (h1, .inl (k0, 4, .inr (.inr (.inr (.inr (va_up (va_up (va_up (va_up (fun _ => none) 0 (some ge5)) 1 (some ge5)) 2 (some ge5)) 3 (some ge5))))))), (h2, .inl (k1, 5, .inl (upd (upd (upd (upd (upd (fun _ => 0) 0 l1) 1 3) 2 l3) 3 l4) 4 l5))), (q102, .inr (1, [.ref q103, .int 0, .int 0, .int 0])), (q103, .inl (cq104, 16, .inl (fun _ => 0)))] := hD
    refine W.widen (k := 3) (n := 25) (by omega) (by omega) ?_
    refine lv_aload hx hb dX5_type_98 (lv_at hl 5 rfl) ?_
    have hPc := hP.sub (ws' := [(q102, .inr (1, [.ref q103, .int 0, .int 0, .int 0])), (q103, .inl (cq104, 16, .inl (fun _ => 0)))]) [3, 4] rfl
    have hDc := hD.sub (ws' := [(q102, .inr (1, [.ref q103, .int 0, .int 0, .int 0])), (q103, .inl (cq104, 16, .inl (fun _ => 0)))]) [3, 4] (by decide) rfl
    have hKc := hK.sub (tys' := [(cq104, .byte)]) [2] rfl
    have hFc := va_free (wc := [(q102, .inr (1, [.ref q103, .int 0, .int 0, .int 0])), (q103, .inl (cq104, 16, .inl (fun _ => 0)))]) hD hS hA [3, 4] rfl
    refine va_callr (va_runV (As := [.ref ge5]) (rest := []) ⟨hx, hb, hml, hown, hts⟩ (kx_J4_append_15ec4_0 l dC dI ge5 gea gv5 gva gde gic gi0 q102 q103 cq104 H.size) (cwV 1 hts gX5_type_J4_append_15ec4 rfl rfl rfl (by decide +kernel) ⟨Nat.le_of_ble_eq_true rfl, Nat.le_of_ble_eq_true rfl⟩) ⟨fun a U g mk q => by obtain ⟨q0, q1, qP, qK, qD, qG⟩ := q; exact ⟨q0, q1, qP, va_K.moved (u := U) (U := U.calling g mk a) (Vm.Alike.refl U.vm) qK, qD, gv.fb qG⟩, va_recv hKc hPc (ci := 1) (q0 := 0) rfl rfl, fun U hU hW => ⟨rfl, by rw [hU], by rw [hU]; exact hPc, va_K.moved hW.alike hKc, hDc.weaken (fun _ _ _ _ => trivial), gv.pass hW hU hS hFc hG⟩⟩ rfl rfl hl.1 rfl (lv_room (Nat.le_of_ble_eq_true rfl)) dX5_type_100 ⟨Nat.le_of_ble_eq_true rfl, Nat.le_of_ble_eq_true rfl⟩) hS (fun q _ h => hFc q h) hFc (fun u ra t H1 locs ht hvm hw hB hz1 hk1 hS => ?_)
    obtain ⟨hra, hP1, hK1, hD1⟩ := hB
    rw [hra]
    rw [ht] at hP1
    have hK1 := va_K.moved hvm.symm hK1
    obtain ⟨hP, hD⟩ := va_join (wr := [(h0, .inr (9, [.int 0, .ref h1, .ref z0, .ref z1, .int 0, .int 0, .int 0])), (h1, .inl (k0, 4, .inr (.inr (.inr (.inr (va_up (va_up (va_up (va_up (fun _ => none) 0 (some ge5)) 1 (some ge5)) 2 (some ge5)) 3 (some ge5))))))), (h2, .inl (k1, 5, .inl (upd (upd (upd (upd (upd (fun _ => 0) 0 l1) 1 3) 2 l3) 3 l4) 4 l5)))]) (w1 := [(q102, .inr (1, [.ref q103, .int 0, .int 0, .int 0])), (q103, .inl (cq104, 16, .inl (fun _ => 0)))]) hP hD [3, 4] [0, 1, 2] rfl rfl (by decide) (by decide) hk1 hFc hP1 hD1
    generalize H1 = H at hP hS ⊢
    have hP : va_P (dC, dI) vwCl [(h0, .inr (9, [.int 0, .ref h1, .ref z0, .ref z1, .int 0, .int 0, .int 0])), (h1, .inl (k0, 4, .inr (.inr (.inr (.inr (va_up (va_up (va_up (va_up (fun _ => none) 0 (some ge5)) 1 (some ge5)) 2 (some ge5)) 3 (some ge5))))))), (h2, .inl (k1, 5, .inl (upd (upd (upd (upd (upd (fun _ => 0) 0 l1) 1 3) 2 l3) 3 l4) 4 l5))), (q102, .inr (1, [.ref q103, .int 0, .int 0, .int 0])), (q103, .inl (cq104, 16, .inl (fun _ => 0)))] H := hP
    have hD : va_D A [(h0, .inr (9, [.int 0, .ref h1, .ref z0, .ref z1, .int 0, .int 0, .int 0])), (h1, .inl (k0, 4, .inr (.inr (.inr (.inr (va_up (va_up (va_up (va_up (fun _ => none) 0 (some ge5)) 1 (some ge5)) 2 (some ge5)) 3 (some ge5))))))), (h2, .inl (k1, 5, .inl (upd (upd (upd (upd (upd (fun _ => 0) 0 l1) 1 3) 2 l3) 3 l4) 4 l5))), (q102, .inr (1, [.ref q103, .int 0, .int 0, .int 0])), (q103, .inl (cq104, 16, .inl (fun _ => 0)))] := hD
    refine va_ldcS hx hb hown g_sa dX5_type_103 ?_
    refine lv_iload hx hb dX5_type_105 (lv_at hl 1 rfl) ?_
    have hPc := hP.sub (ws' := []) [] rfl
    have hDc := hD.sub (ws' := []) [] (by decide) rfl
    have hKc := hK.sub (tys' := []) [] rfl
    have hFc := va_free (wc := []) hD hS hA [] rfl
    refine va_calli (va_runV (As := [.int 3]) (rest := [.ref q102]) ⟨hx, hb, hml, hown, hts⟩ (kx_J0_charAt_5068e_3 l dC dI ge5 gea gv5 gva gde gic gi0 H.size) (cwV 1 hts gX5_type_J0_charAt_5068e rfl rfl rfl (by decide +kernel) ⟨Nat.le_of_ble_eq_true rfl, Nat.le_of_ble_eq_true rfl⟩) ⟨fun a U g mk q => by obtain ⟨q0, q1, qP, qK, qD, qG⟩ := q; exact ⟨q0, q1, qP, va_K.moved (u := U) (U := U.calling g mk a) (Vm.Alike.refl U.vm) qK, qD, gv.fb qG⟩, (by obtain ⟨cell, k1, k2, k3, -⟩ := g_oa.kept hS.2.1; exact ⟨cell, k1, k2, k3⟩), fun U hU hW => ⟨rfl, by rw [hU], by rw [hU]; exact hPc, va_K.moved hW.alike hKc, hDc.weaken (fun _ _ _ _ => trivial), gv.pass hW hU hS hFc hG⟩⟩ rfl rfl hl.1 rfl (lv_room (Nat.le_of_ble_eq_true rfl)) dX5_type_107 ⟨Nat.le_of_ble_eq_true rfl, Nat.le_of_ble_eq_true rfl⟩) hS (fun q _ h => hFc q h) hFc (fun r9 u t H1 locs ht hvm hw hB hz1 hk1 hS => ?_)
    obtain rfl := hw
    obtain ⟨hP1, hK1, hD1⟩ := hB
    rw [ht] at hP1
    have hK1 := va_K.moved hvm.symm hK1
    obtain ⟨hP, hD⟩ := va_join (wr := [(h0, .inr (9, [.int 0, .ref h1, .ref z0, .ref z1, .int 0, .int 0, .int 0])), (h1, .inl (k0, 4, .inr (.inr (.inr (.inr (va_up (va_up (va_up (va_up (fun _ => none) 0 (some ge5)) 1 (some ge5)) 2 (some ge5)) 3 (some ge5))))))), (h2, .inl (k1, 5, .inl (upd (upd (upd (upd (upd (fun _ => 0) 0 l1) 1 3) 2 l3) 3 l4) 4 l5))), (q102, .inr (1, [.ref q103, .int 0, .int 0, .int 0])), (q103, .inl (cq104, 16, .inl (fun _ => 0)))]) (w1 := []) hP hD [] [0, 1, 2, 3, 4] rfl rfl (by decide) (by decide) hk1 hFc hP1 hD1
    generalize H1 = H at hP hS ⊢
    have hP : va_P (dC, dI) vwCl [(h0, .inr (9, [.int 0, .ref h1, .ref z0, .ref z1, .int 0, .int 0, .int 0])), (h1, .inl (k0, 4, .inr (.inr (.inr (.inr (va_up (va_up (va_up (va_up (fun _ => none) 0 (some ge5)) 1 (some ge5)) 2 (some ge5)) 3 (some ge5))))))), (h2, .inl (k1, 5, .inl (upd (upd (upd (upd (upd (fun _ => 0) 0 l1) 1 3) 2 l3) 3 l4) 4 l5))), (q102, .inr (1, [.ref q103, .int 0, .int 0, .int 0])), (q103, .inl (cq104, 16, .inl (fun _ => 0)))] H := hP
    have hD : va_D A [(h0, .inr (9, [.int 0, .ref h1, .ref z0, .ref z1, .int 0, .int 0, .int 0])), (h1, .inl (k0, 4, .inr (.inr (.inr (.inr (va_up (va_up (va_up (va_up (fun _ => none) 0 (some ge5)) 1 (some ge5)) 2 (some ge5)) 3 (some ge5))))))), (h2, .inl (k1, 5, .inl (upd (upd (upd (upd (upd (fun _ => 0) 0 l1) 1 3) 2 l3) 3 l4) 4 l5))), (q102, .inr (1, [.ref q103, .int 0, .int 0, .int 0])), (q103, .inl (cq104, 16, .inl (fun _ => 0)))] := hD
    have hPc := hP.sub (ws' := [(q102, .inr (1, [.ref q103, .int 0, .int 0, .int 0])), (q103, .inl (cq104, 16, .inl (fun _ => 0)))]) [3, 4] rfl
    have hDc := hD.sub (ws' := [(q102, .inr (1, [.ref q103, .int 0, .int 0, .int 0])), (q103, .inl (cq104, 16, .inl (fun _ => 0)))]) [3, 4] (by decide) rfl
    have hKc := hK.sub (tys' := [(cq104, .byte)]) [2] rfl
    have hFc := va_free (wc := [(q102, .inr (1, [.ref q103, .int 0, .int 0, .int 0])), (q103, .inl (cq104, 16, .inl (fun _ => 0)))]) hD hS hA [3, 4] rfl
    refine va_callr (va_runV (As := [.int 100]) (rest := []) ⟨hx, hb, hml, hown, hts⟩ (kx_J4_append_cf468_3 l dC dI ge5 gea gv5 gva gde gic gi0 q102 q103 cq104 H.size) (cwV 1 hts gX5_type_J4_append_cf468 rfl rfl rfl (by decide +kernel) ⟨Nat.le_of_ble_eq_true rfl, Nat.le_of_ble_eq_true rfl⟩) ⟨fun a U g mk q => by obtain ⟨q0, q1, qP, qK, qD, qG⟩ := q; exact ⟨q0, q1, qP, va_K.moved (u := U) (U := U.calling g mk a) (Vm.Alike.refl U.vm) qK, qD, gv.fb qG⟩, va_recv hKc hPc (ci := 1) (q0 := 0) rfl rfl, fun U hU hW => ⟨rfl, by rw [hU], by rw [hU]; exact hPc, va_K.moved hW.alike hKc, hDc.weaken (fun _ _ _ _ => trivial), gv.pass hW hU hS hFc hG⟩⟩ rfl rfl hl.1 rfl (lv_room (Nat.le_of_ble_eq_true rfl)) dX5_type_110 ⟨Nat.le_of_ble_eq_true rfl, Nat.le_of_ble_eq_true rfl⟩) hS (fun q _ h => hFc q h) hFc (fun u ra t H1 locs ht hvm hw hB hz1 hk1 hS => ?_)
    obtain ⟨f105, f105_t, hra, hP1, hK1, hD1⟩ := hB
    rw [hra]
    rw [ht] at hP1
    have hK1 := va_K.moved hvm.symm hK1
    obtain ⟨hP, hD⟩ := va_join (wr := [(h0, .inr (9, [.int 0, .ref h1, .ref z0, .ref z1, .int 0, .int 0, .int 0])), (h1, .inl (k0, 4, .inr (.inr (.inr (.inr (va_up (va_up (va_up (va_up (fun _ => none) 0 (some ge5)) 1 (some ge5)) 2 (some ge5)) 3 (some ge5))))))), (h2, .inl (k1, 5, .inl (upd (upd (upd (upd (upd (fun _ => 0) 0 l1) 1 3) 2 l3) 3 l4) 4 l5)))]) (w1 := [(q102, .inr (1, [.ref q103, .int 0, .int 0, .int 1])), (q103, .inl (cq104, 16, .inl f105))]) hP hD [3, 4] [0, 1, 2] rfl rfl (by decide) (by decide) hk1 hFc hP1 hD1
    generalize H1 = H at hP hS ⊢
    have hP : va_P (dC, dI) vwCl [(h0, .inr (9, [.int 0, .ref h1, .ref z0, .ref z1, .int 0, .int 0, .int 0])), (h1, .inl (k0, 4, .inr (.inr (.inr (.inr (va_up (va_up (va_up (va_up (fun _ => none) 0 (some ge5)) 1 (some ge5)) 2 (some ge5)) 3 (some ge5))))))), (h2, .inl (k1, 5, .inl (upd (upd (upd (upd (upd (fun _ => 0) 0 l1) 1 3) 2 l3) 3 l4) 4 l5))), (q102, .inr (1, [.ref q103, .int 0, .int 0, .int 1])), (q103, .inl (cq104, 16, .inl f105))] H := hP
    have hD : va_D A [(h0, .inr (9, [.int 0, .ref h1, .ref z0, .ref z1, .int 0, .int 0, .int 0])), (h1, .inl (k0, 4, .inr (.inr (.inr (.inr (va_up (va_up (va_up (va_up (fun _ => none) 0 (some ge5)) 1 (some ge5)) 2 (some ge5)) 3 (some ge5))))))), (h2, .inl (k1, 5, .inl (upd (upd (upd (upd (upd (fun _ => 0) 0 l1) 1 3) 2 l3) 3 l4) 4 l5))), (q102, .inr (1, [.ref q103, .int 0, .int 0, .int 1])), (q103, .inl (cq104, 16, .inl f105))] := hD
    have hPc := hP.sub (ws' := [(q102, .inr (1, [.ref q103, .int 0, .int 0, .int 1])), (q103, .inl (cq104, 16, .inl f105))]) [3, 4] rfl
    have hDc := hD.sub (ws' := [(q102, .inr (1, [.ref q103, .int 0, .int 0, .int 1])), (q103, .inl (cq104, 16, .inl f105))]) [3, 4] (by decide) rfl
    have hKc := hK.sub (tys' := [(cq104, .byte)]) [2] rfl
    have hFc := va_free (wc := [(q102, .inr (1, [.ref q103, .int 0, .int 0, .int 1])), (q103, .inl (cq104, 16, .inl f105))]) hD hS hA [3, 4] rfl
    refine va_callr (va_runV (As := []) (rest := []) ⟨hx, hb, hml, hown, hts⟩ (kx_J4_toString_0e30d_1 l dC dI ge5 gea gv5 gva gde gic gi0 q102 q103 cq104 H.size f105 f105_t) (cwV 0 hts gX5_type_J4_toString_0e30d rfl rfl rfl (by decide +kernel) ⟨Nat.le_of_ble_eq_true rfl, Nat.le_of_ble_eq_true rfl⟩) ⟨fun a U g mk q => by obtain ⟨q0, q1, qP, qK, qD, qG⟩ := q; exact ⟨q0, q1, qP, va_K.moved (u := U) (U := U.calling g mk a) (Vm.Alike.refl U.vm) qK, qD, gv.fb qG⟩, va_recv hKc hPc (ci := 1) (q0 := 0) rfl rfl, fun U hU hW => ⟨rfl, by rw [hU], by rw [hU]; exact hPc, va_K.moved hW.alike hKc, hDc.weaken (fun _ _ _ _ => trivial), gv.pass hW hU hS hFc hG⟩⟩ rfl rfl hl.1 rfl (lv_room (Nat.le_of_ble_eq_true rfl)) dX5_type_113 ⟨Nat.le_of_ble_eq_true rfl, Nat.le_of_ble_eq_true rfl⟩) hS (fun q _ h => hFc q h) hFc (fun u ra t H1 locs ht hvm hw hB hz1 hk1 hS => ?_)
    obtain ⟨q106, q107, cq108, f109, f109_t, hra, hP1, hK1, hD1⟩ := hB
    rw [hra]
    rw [ht] at hP1
    have hK1 := va_K.moved hvm.symm hK1
    obtain ⟨hP, hD⟩ := va_join (wr := [(h0, .inr (9, [.int 0, .ref h1, .ref z0, .ref z1, .int 0, .int 0, .int 0])), (h1, .inl (k0, 4, .inr (.inr (.inr (.inr (va_up (va_up (va_up (va_up (fun _ => none) 0 (some ge5)) 1 (some ge5)) 2 (some ge5)) 3 (some ge5))))))), (h2, .inl (k1, 5, .inl (upd (upd (upd (upd (upd (fun _ => 0) 0 l1) 1 3) 2 l3) 3 l4) 4 l5)))]) (w1 := [(q102, .inr (1, [.ref q103, .int 0, .int 0, .int 1])), (q103, .inl (cq104, 16, .inl f105)), (q106, .inr (0, [.ref q107, .int 0, .int 0, .int 0])), (q107, .inl (cq108, 1, .inl f109))]) hP hD [3, 4] [0, 1, 2] rfl rfl (by decide) (by decide) hk1 hFc hP1 hD1
    have hK := hK.app (hK1.sub (tys' := [(cq108, .byte)]) [1] rfl)
    generalize H1 = H at hP hS ⊢
    have hK : va_K (dC, dI) vwCl [(k0, .object "java/lang/String"), (k1, .int), (cq104, .byte), (cq108, .byte)] s := hK
    have hP : va_P (dC, dI) vwCl [(h0, .inr (9, [.int 0, .ref h1, .ref z0, .ref z1, .int 0, .int 0, .int 0])), (h1, .inl (k0, 4, .inr (.inr (.inr (.inr (va_up (va_up (va_up (va_up (fun _ => none) 0 (some ge5)) 1 (some ge5)) 2 (some ge5)) 3 (some ge5))))))), (h2, .inl (k1, 5, .inl (upd (upd (upd (upd (upd (fun _ => 0) 0 l1) 1 3) 2 l3) 3 l4) 4 l5))), (q102, .inr (1, [.ref q103, .int 0, .int 0, .int 1])), (q103, .inl (cq104, 16, .inl f105)), (q106, .inr (0, [.ref q107, .int 0, .int 0, .int 0])), (q107, .inl (cq108, 1, .inl f109))] H := hP
    have hD : va_D A [(h0, .inr (9, [.int 0, .ref h1, .ref z0, .ref z1, .int 0, .int 0, .int 0])), (h1, .inl (k0, 4, .inr (.inr (.inr (.inr (va_up (va_up (va_up (va_up (fun _ => none) 0 (some ge5)) 1 (some ge5)) 2 (some ge5)) 3 (some ge5))))))), (h2, .inl (k1, 5, .inl (upd (upd (upd (upd (upd (fun _ => 0) 0 l1) 1 3) 2 l3) 3 l4) 4 l5))), (q102, .inr (1, [.ref q103, .int 0, .int 0, .int 1])), (q103, .inl (cq104, 16, .inl f105)), (q106, .inr (0, [.ref q107, .int 0, .int 0, .int 0])), (q107, .inl (cq108, 1, .inl f109))] := hD
    refine W.widen (k := 5) (n := 30) (by omega) (by omega) ?_
    refine lv_astore (lv' := [(9, .ref q106), (8, .int 1), (13, .int 3), (0, .ref h0), (1, .int rp), (7, .ref h2), (10, .ref h2), (11, .int 5), (12, .int 1)]) hx hb dX5_type_116 hl (by decide) rfl (fun ls hl => ?_)
    refine lv_iinc (v := 2) (lv' := [(12, .int 2), (9, .ref q106), (8, .int 1), (13, .int 3), (0, .ref h0), (1, .int rp), (7, .ref h2), (10, .ref h2), (11, .int 5)]) hx hb dX5_type_118 hl (k := 8) rfl (by decide) (by decide) rfl (fun ls hl => ?_)
    refine lv_goto (tgt := 47) hx hb dX5_type_121 (by decide) ?_
    have hP := hP.sub (ws' := [(h0, .inr (9, [.int 0, .ref h1, .ref z0, .ref z1, .int 0, .int 0, .int 0])), (h1, .inl (k0, 4, .inr (.inr (.inr (.inr (va_up (va_up (va_up (va_up (fun _ => none) 0 (some ge5)) 1 (some ge5)) 2 (some ge5)) 3 (some ge5))))))), (h2, .inl (k1, 5, .inl (upd (upd (upd (upd (upd (fun _ => 0) 0 l1) 1 3) 2 l3) 3 l4) 4 l5))), (q106, .inr (0, [.ref q107, .int 0, .int 0, .int 0])), (q107, .inl (cq108, 1, .inl f109))]) [0, 1, 2, 5, 6] rfl
    have hD := hD.sub (ws' := [(h0, .inr (9, [.int 0, .ref h1, .ref z0, .ref z1, .int 0, .int 0, .int 0])), (h1, .inl (k0, 4, .inr (.inr (.inr (.inr (va_up (va_up (va_up (va_up (fun _ => none) 0 (some ge5)) 1 (some ge5)) 2 (some ge5)) 3 (some ge5))))))), (h2, .inl (k1, 5, .inl (upd (upd (upd (upd (upd (fun _ => 0) 0 l1) 1 3) 2 l3) 3 l4) 4 l5))), (q106, .inr (0, [.ref q107, .int 0, .int 0, .int 0])), (q107, .inl (cq108, 1, .inl f109))]) [0, 1, 2, 5, 6] (by decide) rfl
    have hK := hK.sub (tys' := [(k0, .object "java/lang/String"), (k1, .int), (cq108, .byte)]) [0, 1, 3] rfl
    have hl := lv_sub hl [4, 5, 6, 2, 1, 7, 8, 0] (show lv_pick [(12, .int 2), (9, .ref q106), (8, .int 1), (13, .int 3), (0, .ref h0), (1, .int rp), (7, .ref h2), (10, .ref h2), (11, .int 5)] [4, 5, 6, 2, 1, 7, 8, 0] = [(0, .ref h0), (1, .int rp), (7, .ref h2), (8, .int 1), (9, .ref q106), (10, .ref h2), (11, .int 5), (12, .int 2)] from rfl)
    exact kx_X5_type_h211 f109_t hR hx hb hr hml hown hts hlocks hA hG hS hK hP hD hl
  · have l2_l : (4 : Int) ≤ l2.toInt := by omega
    have l2_u : l2.toInt ≤ (2147483647 : Int) := by omega
    have hR : kz_ty rp 0 1 [l3, l4, l5] = (R, v) := (kz_ty_b (by omega)).symm.trans hR
    refine lv_iload hx hb dX5_type_47 (lv_at hl 7 rfl) ?_
    refine lv_iload hx hb dX5_type_49 (lv_at hl 6 rfl) ?_
    refine lv_icmp_ge (tgt := 124) hx hb dX5_type_51 (by decide) (fun c9 => absurd c9 (by decide)) (fun _ => ?_)
    refine lv_aload hx hb dX5_type_54 (lv_at hl 5 rfl) ?_
    refine lv_iload hx hb dX5_type_56 (lv_at hl 7 rfl) ?_
    refine va_iald (D := (dC, dI)) hx hb hK hP 2 1 rfl rfl (by unfold vp_in; decide) dX5_type_58 ?_
    refine W.eq (g2 := F0 m 59 ls [.int l2]) rfl ?_
    refine lv_istore (lv' := [(13, .int l2), (0, .ref h0), (1, .int rp), (7, .ref h2), (8, .int 1), (9, .ref ge5), (10, .ref h2), (11, .int 5), (12, .int 1)]) hx hb dX5_type_59 hl (by decide) rfl (fun ls hl => ?_)
    refine lv_iload hx hb dX5_type_61 (lv_at hl 4 rfl) ?_
    refine lv_iload hx hb dX5_type_63 (lv_at hl 0 rfl) ?_
    refine lv_iconst (v := (-1)) hx hb dX5_type_65 (by decide) ?_
    refine lv_iconst (v := 3) hx hb dX5_type_66 (by decide) ?_
    have hPc := hP.sub (ws' := []) [] rfl
    have hDc := hD.sub (ws' := []) [] (by decide) rfl
    have hKc := hK.sub (tys' := []) [] rfl
    have hFc := va_free (wc := []) hD hS hA [] rfl
    refine va_calli (va_runS (As := [.int l2, .int (-1), .int 3]) (rest := [.int 1]) ⟨hx, hb, hml, hown, hts⟩ (kx_X5_isIn_15 l dC dI H.size l2 l2_l l2_u) (cwS 3 hts gX5_type_X5_isIn rfl rfl rfl (by decide +kernel) ⟨Nat.le_of_ble_eq_true rfl, Nat.le_of_ble_eq_true rfl⟩) ⟨fun a U g mk q => by obtain ⟨q0, q1, qP, qK, qD⟩ := q; exact ⟨q0, q1, qP, va_K.moved (u := U) (U := U.calling g mk a) (Vm.Alike.refl U.vm) qK, qD⟩, fun U hU hW => ⟨rfl, by rw [hU], by rw [hU]; exact hPc, va_K.moved hW.alike hKc, hDc.weaken (fun _ _ _ _ => trivial)⟩⟩ rfl rfl hl.1 rfl (lv_room (Nat.le_of_ble_eq_true rfl)) dX5_type_67 ⟨Nat.le_of_ble_eq_true rfl, Nat.le_of_ble_eq_true rfl⟩) hS (fun q _ h => hFc q h) hFc (fun r9 u t H1 locs ht hvm hw hB hz1 hk1 hS => ?_)
    obtain rfl := hw
    obtain ⟨hP1, hK1, hD1⟩ := hB
    rw [ht] at hP1
    have hK1 := va_K.moved hvm.symm hK1
    obtain ⟨hP, hD⟩ := va_join (wr := [(h0, .inr (9, [.int 0, .ref h1, .ref z0, .ref z1, .int 0, .int 0, .int 0])), (h1, .inl (k0, 4, .inr (.inr (.inr (.inr (va_up (va_up (va_up (va_up (fun _ => none) 0 (some ge5)) 1 (some ge5)) 2 (some ge5)) 3 (some ge5))))))), (h2, .inl (k1, 5, .inl (upd (upd (upd (upd (upd (fun _ => 0) 0 l1) 1 l2) 2 l3) 3 l4) 4 l5)))]) (w1 := []) hP hD [] [0, 1, 2] rfl rfl (by decide) (by decide) hk1 hFc hP1 hD1
    generalize H1 = H at hP hS ⊢
    have hP : va_P (dC, dI) vwCl [(h0, .inr (9, [.int 0, .ref h1, .ref z0, .ref z1, .int 0, .int 0, .int 0])), (h1, .inl (k0, 4, .inr (.inr (.inr (.inr (va_up (va_up (va_up (va_up (fun _ => none) 0 (some ge5)) 1 (some ge5)) 2 (some ge5)) 3 (some ge5))))))), (h2, .inl (k1, 5, .inl (upd (upd (upd (upd (upd (fun _ => 0) 0 l1) 1 l2) 2 l3) 3 l4) 4 l5)))] H := hP
    have hD : va_D A [(h0, .inr (9, [.int 0, .ref h1, .ref z0, .ref z1, .int 0, .int 0, .int 0])), (h1, .inl (k0, 4, .inr (.inr (.inr (.inr (va_up (va_up (va_up (va_up (fun _ => none) 0 (some ge5)) 1 (some ge5)) 2 (some ge5)) 3 (some ge5))))))), (h2, .inl (k1, 5, .inl (upd (upd (upd (upd (upd (fun _ => 0) 0 l1) 1 l2) 2 l3) 3 l4) 4 l5)))] := hD
    refine lv_if_ne (tgt := 77) hx hb dX5_type_70 (by decide) (fun c9 => absurd (by decide) c9) (fun _ => ?_)
    refine lv_iconst (v := 1) hx hb dX5_type_73 (by decide) ?_
    refine lv_goto (tgt := 78) hx hb dX5_type_74 (by decide) ?_
    refine lv_ior hx hb dX5_type_78 ?_
    refine lv_topi (fun y101 ey101 => ?_)
    obtain rfl : y101 = 1 := ey101.trans (by decide)
    refine lv_istore (lv' := [(8, .int 1), (13, .int l2), (0, .ref h0), (1, .int rp), (7, .ref h2), (9, .ref ge5), (10, .ref h2), (11, .int 5), (12, .int 1)]) hx hb dX5_type_79 hl (by decide) rfl (fun ls hl => ?_)
    refine lv_iload hx hb dX5_type_81 (lv_at hl 1 rfl) ?_
    refine lv_iconst (v := 0) hx hb dX5_type_83 (by decide) ?_
    refine lv_iconst (v := 3) hx hb dX5_type_84 (by decide) ?_
    have hPc := hP.sub (ws' := []) [] rfl
    have hDc := hD.sub (ws' := []) [] (by decide) rfl
    have hKc := hK.sub (tys' := []) [] rfl
    have hFc := va_free (wc := []) hD hS hA [] rfl
    refine va_calli (va_runS (As := [.int l2, .int 0, .int 3]) (rest := []) ⟨hx, hb, hml, hown, hts⟩ (kx_X5_isIn_2 l dC dI H.size l2 l2_l l2_u) (cwS 3 hts gX5_type_X5_isIn rfl rfl rfl (by decide +kernel) ⟨Nat.le_of_ble_eq_true rfl, Nat.le_of_ble_eq_true rfl⟩) ⟨fun a U g mk q => by obtain ⟨q0, q1, qP, qK, qD⟩ := q; exact ⟨q0, q1, qP, va_K.moved (u := U) (U := U.calling g mk a) (Vm.Alike.refl U.vm) qK, qD⟩, fun U hU hW => ⟨rfl, by rw [hU], by rw [hU]; exact hPc, va_K.moved hW.alike hKc, hDc.weaken (fun _ _ _ _ => trivial)⟩⟩ rfl rfl hl.1 rfl (lv_room (Nat.le_of_ble_eq_true rfl)) dX5_type_85 ⟨Nat.le_of_ble_eq_true rfl, Nat.le_of_ble_eq_true rfl⟩) hS (fun q _ h => hFc q h) hFc (fun r9 u t H1 locs ht hvm hw hB hz1 hk1 hS => ?_)
    obtain rfl := hw
    obtain ⟨hP1, hK1, hD1⟩ := hB
    rw [ht] at hP1
    have hK1 := va_K.moved hvm.symm hK1
    obtain ⟨hP, hD⟩ := va_join (wr := [(h0, .inr (9, [.int 0, .ref h1, .ref z0, .ref z1, .int 0, .int 0, .int 0])), (h1, .inl (k0, 4, .inr (.inr (.inr (.inr (va_up (va_up (va_up (va_up (fun _ => none) 0 (some ge5)) 1 (some ge5)) 2 (some ge5)) 3 (some ge5))))))), (h2, .inl (k1, 5, .inl (upd (upd (upd (upd (upd (fun _ => 0) 0 l1) 1 l2) 2 l3) 3 l4) 4 l5)))]) (w1 := []) hP hD [] [0, 1, 2] rfl rfl (by decide) (by decide) hk1 hFc hP1 hD1
    generalize H1 = H at hP hS ⊢
    have hP : va_P (dC, dI) vwCl [(h0, .inr (9, [.int 0, .ref h1, .ref z0, .ref z1, .int 0, .int 0, .int 0])), (h1, .inl (k0, 4, .inr (.inr (.inr (.inr (va_up (va_up (va_up (va_up (fun _ => none) 0 (some ge5)) 1 (some ge5)) 2 (some ge5)) 3 (some ge5))))))), (h2, .inl (k1, 5, .inl (upd (upd (upd (upd (upd (fun _ => 0) 0 l1) 1 l2) 2 l3) 3 l4) 4 l5)))] H := hP
    have hD : va_D A [(h0, .inr (9, [.int 0, .ref h1, .ref z0, .ref z1, .int 0, .int 0, .int 0])), (h1, .inl (k0, 4, .inr (.inr (.inr (.inr (va_up (va_up (va_up (va_up (fun _ => none) 0 (some ge5)) 1 (some ge5)) 2 (some ge5)) 3 (some ge5))))))), (h2, .inl (k1, 5, .inl (upd (upd (upd (upd (upd (fun _ => 0) 0 l1) 1 l2) 2 l3) 3 l4) 4 l5)))] := hD
    refine lv_if_eq (tgt := 118) hx hb dX5_type_88 (by decide) (fun _ => ?_) (fun c9 => absurd (by decide) c9)
    refine lv_iinc (v := 2) (lv' := [(12, .int 2), (8, .int 1), (13, .int l2), (0, .ref h0), (1, .int rp), (7, .ref h2), (9, .ref ge5), (10, .ref h2), (11, .int 5)]) hx hb dX5_type_118 hl (k := 8) rfl (by decide) (by decide) rfl (fun ls hl => ?_)
    refine lv_goto (tgt := 47) hx hb dX5_type_121 (by decide) ?_
    have hP := hP.sub (ws' := [(h0, .inr (9, [.int 0, .ref h1, .ref z0, .ref z1, .int 0, .int 0, .int 0])), (h1, .inl (k0, 4, .inr (.inr (.inr (.inr (va_up (va_up (va_up (va_up (fun _ => none) 0 (some ge5)) 1 (some ge5)) 2 (some ge5)) 3 (some ge5))))))), (h2, .inl (k1, 5, .inl (upd (upd (upd (upd (upd (fun _ => 0) 0 l1) 1 l2) 2 l3) 3 l4) 4 l5)))]) [0, 1, 2] rfl
    have hD := hD.sub (ws' := [(h0, .inr (9, [.int 0, .ref h1, .ref z0, .ref z1, .int 0, .int 0, .int 0])), (h1, .inl (k0, 4, .inr (.inr (.inr (.inr (va_up (va_up (va_up (va_up (fun _ => none) 0 (some ge5)) 1 (some ge5)) 2 (some ge5)) 3 (some ge5))))))), (h2, .inl (k1, 5, .inl (upd (upd (upd (upd (upd (fun _ => 0) 0 l1) 1 l2) 2 l3) 3 l4) 4 l5)))]) [0, 1, 2] (by decide) rfl
    have hK := hK.sub (tys' := [(k0, .object "java/lang/String"), (k1, .int)]) [0, 1] rfl
    have hl := lv_sub hl [3, 4, 5, 1, 6, 7, 8, 0] (show lv_pick [(12, .int 2), (8, .int 1), (13, .int l2), (0, .ref h0), (1, .int rp), (7, .ref h2), (9, .ref ge5), (10, .ref h2), (11, .int 5)] [3, 4, 5, 1, 6, 7, 8, 0] = [(0, .ref h0), (1, .int rp), (7, .ref h2), (8, .int 1), (9, .ref ge5), (10, .ref h2), (11, .int 5), (12, .int 2)] from rfl)
    exact kx_X5_type_h201 hR hx hb hr hml hown hts hlocks hA hG hS hK hP hD hl
set_option maxHeartbeats 8000000 in
set_option maxRecDepth 100000 in
theorem kx_X5_type_h000 {l : Launch} {dC : Nat → ClassId} {dI : Nat → Nat → Nat} {ge5 gea gv5 gva gde gic gi0 : Nat} {h0 h1 h2 z0 z1 : Nat} {k0 k1 : ClassId} {rp l1 l2 l3 l4 l5 R v : Int32} {p : Program} {e : Env} {s : State} {m : MethodId} {args : Array Value} {below : List Frame} {meth : Method} {c : Code} {A : Nat → Prop} {H : Heap} {locs : List Loc} {ls : Array Slot} (hR : kz_ty rp 0 0 [l1, l2, l3, l4, l5] = (R, v)) (hx : p.tables.exec = Jvm.exec) (hb : c.code = cX5_type) (hr : meth.sig.returnType = some .int) (hml : c.maxLocals = 14) (hown : s.vm.findClass RX5 = some m.cls) (hts : ∀ w ∈ wsX5_type, w.before args s = true) (hlocks : meth.locks = false) (hA : ∀ q : Nat, s.heap.size ≤ q → A q) (hG : gv ge5 gea gv5 gva gde gic gi0 A s s.heap) (hS : va_S A s.heap H locs) (hK : va_K (dC, dI) vwCl [(k0, .object "java/lang/String"), (k1, .int)] s) (hP : va_P (dC, dI) vwCl [(h0, .inr (9, [.int 0, .ref h1, .ref z0, .ref z1, .int 0, .int 0, .int 0])), (h1, .inl (k0, 4, .inr (.inr (.inr (.inr (va_up (va_up (va_up (va_up (fun _ => none) 0 (some ge5)) 1 (some ge5)) 2 (some ge5)) 3 (some ge5))))))), (h2, .inl (k1, 5, .inl (upd (upd (upd (upd (upd (fun _ => 0) 0 l1) 1 l2) 2 l3) 3 l4) 4 l5)))] H) (hD : va_D A [(h0, .inr (9, [.int 0, .ref h1, .ref z0, .ref z1, .int 0, .int 0, .int 0])), (h1, .inl (k0, 4, .inr (.inr (.inr (.inr (va_up (va_up (va_up (va_up (fun _ => none) 0 (some ge5)) 1 (some ge5)) 2 (some ge5)) 3 (some ge5))))))), (h2, .inl (k1, 5, .inl (upd (upd (upd (upd (upd (fun _ => 0) 0 l1) 1 l2) 2 l3) 3 l4) 4 l5)))]) (hl : lv_has ls 14 [(0, .ref h0), (1, .int rp), (7, .ref h2), (8, .int 0), (9, .ref ge5), (10, .ref h2), (11, .int 5), (12, .int 0)]) : W p l e (headSpec wsX5_type ({ frames := 6, cells := 25, slots := 169, locals := 171 })).room s m args below meth c H locs 1 5 (MQ below (va_Qi (fun (r : Int32) (_ : Unit) => r = R) (fun (_ : Unit) (t : State) => va_P (dC, dI) vwCl [(h0, .inr (9, [.int v, .ref h1, .ref z0, .ref z1, .int 0, .int 0, .int 0]))] t.heap ∧ va_K (dC, dI) vwCl [(k0, .object "java/lang/String")] t ∧ va_D A [(h0, .inr (9, [.int v, .ref h1, .ref z0, .ref z1, .int 0, .int 0, .int 0]))]) A) args s 25 169 A) (F0 m 47 ls []) := by
  obtain ⟨⟨g_AO_Text, g_AO_String, g_AO_Object, g_nm_RX1_20, g_nm_RX0_17, g_nm_RX3_31, g_nm_RX2_44, g_nm_RL_121, g_nf_RL_13, g_nf_RL_47, g_ca_IO, g_ca_IA, g_ca_IS, g_ca_IntObj, g_ca_StrObj, g_de_RT, g_de_EX, g_de_TH, g_nc_IA_IO, g_nc_IS_IO, g_nc_IS_IA⟩, ⟨g_s3, g_s5, g_sa, g_x278, g_x280, g_x282, g_x284, g_x286, g_x180, g_x238, g_x250⟩, ⟨g_o5, g_c5, g_v5, g_t5, g_oa, g_ca, g_va, g_ta, g_zc, g_zd, g_td, g_zf, g_zU, g_zN, g_zh, g_zk, g_tk, g_oi, g_vi⟩⟩ := id hG
  have a9 := Int32.le_toInt l1
  have b9 := Int32.toInt_lt l1
  rcases kz_cls l1 with r9 | rfl | rfl | rfl | rfl | rfl | r9
  · have l1_l : ((-2147483648) : Int) ≤ l1.toInt := by omega
    have l1_u : l1.toInt ≤ ((-2) : Int) := by omega
    have hR : kz_ty rp 0 1 [l2, l3, l4, l5] = (R, v) := (kz_ty_b (by omega)).symm.trans hR
    refine lv_iload hx hb dX5_type_47 (lv_at hl 7 rfl) ?_
    refine lv_iload hx hb dX5_type_49 (lv_at hl 6 rfl) ?_
    refine lv_icmp_ge (tgt := 124) hx hb dX5_type_51 (by decide) (fun c9 => absurd c9 (by decide)) (fun _ => ?_)
    refine lv_aload hx hb dX5_type_54 (lv_at hl 5 rfl) ?_
    refine lv_iload hx hb dX5_type_56 (lv_at hl 7 rfl) ?_
    refine va_iald (D := (dC, dI)) hx hb hK hP 2 1 rfl rfl (by unfold vp_in; decide) dX5_type_58 ?_
    refine W.eq (g2 := F0 m 59 ls [.int l1]) rfl ?_
    refine lv_istore (lv' := [(13, .int l1), (0, .ref h0), (1, .int rp), (7, .ref h2), (8, .int 0), (9, .ref ge5), (10, .ref h2), (11, .int 5), (12, .int 0)]) hx hb dX5_type_59 hl (by decide) rfl (fun ls hl => ?_)
    refine lv_iload hx hb dX5_type_61 (lv_at hl 4 rfl) ?_
    refine lv_iload hx hb dX5_type_63 (lv_at hl 0 rfl) ?_
    refine lv_iconst (v := (-1)) hx hb dX5_type_65 (by decide) ?_
    refine lv_iconst (v := 3) hx hb dX5_type_66 (by decide) ?_
    have hPc := hP.sub (ws' := []) [] rfl
    have hDc := hD.sub (ws' := []) [] (by decide) rfl
    have hKc := hK.sub (tys' := []) [] rfl
    have hFc := va_free (wc := []) hD hS hA [] rfl
    refine va_calli (va_runS (As := [.int l1, .int (-1), .int 3]) (rest := [.int 0]) ⟨hx, hb, hml, hown, hts⟩ (kx_X5_isIn_3 l dC dI H.size l1 l1_l l1_u) (cwS 3 hts gX5_type_X5_isIn rfl rfl rfl (by decide +kernel) ⟨Nat.le_of_ble_eq_true rfl, Nat.le_of_ble_eq_true rfl⟩) ⟨fun a U g mk q => by obtain ⟨q0, q1, qP, qK, qD⟩ := q; exact ⟨q0, q1, qP, va_K.moved (u := U) (U := U.calling g mk a) (Vm.Alike.refl U.vm) qK, qD⟩, fun U hU hW => ⟨rfl, by rw [hU], by rw [hU]; exact hPc, va_K.moved hW.alike hKc, hDc.weaken (fun _ _ _ _ => trivial)⟩⟩ rfl rfl hl.1 rfl (lv_room (Nat.le_of_ble_eq_true rfl)) dX5_type_67 ⟨Nat.le_of_ble_eq_true rfl, Nat.le_of_ble_eq_true rfl⟩) hS (fun q _ h => hFc q h) hFc (fun r9 u t H1 locs ht hvm hw hB hz1 hk1 hS => ?_)
    obtain rfl := hw
    obtain ⟨hP1, hK1, hD1⟩ := hB
    rw [ht] at hP1
    have hK1 := va_K.moved hvm.symm hK1
    obtain ⟨hP, hD⟩ := va_join (wr := [(h0, .inr (9, [.int 0, .ref h1, .ref z0, .ref z1, .int 0, .int 0, .int 0])), (h1, .inl (k0, 4, .inr (.inr (.inr (.inr (va_up (va_up (va_up (va_up (fun _ => none) 0 (some ge5)) 1 (some ge5)) 2 (some ge5)) 3 (some ge5))))))), (h2, .inl (k1, 5, .inl (upd (upd (upd (upd (upd (fun _ => 0) 0 l1) 1 l2) 2 l3) 3 l4) 4 l5)))]) (w1 := []) hP hD [] [0, 1, 2] rfl rfl (by decide) (by decide) hk1 hFc hP1 hD1
    generalize H1 = H at hP hS ⊢
    have hP : va_P (dC, dI) vwCl [(h0, .inr (9, [.int 0, .ref h1, .ref z0, .ref z1, .int 0, .int 0, .int 0])), (h1, .inl (k0, 4, .inr (.inr (.inr (.inr (va_up (va_up (va_up (va_up (fun _ => none) 0 (some ge5)) 1 (some ge5)) 2 (some ge5)) 3 (some ge5))))))), (h2, .inl (k1, 5, .inl (upd (upd (upd (upd (upd (fun _ => 0) 0 l1) 1 l2) 2 l3) 3 l4) 4 l5)))] H := hP
    have hD : va_D A [(h0, .inr (9, [.int 0, .ref h1, .ref z0, .ref z1, .int 0, .int 0, .int 0])), (h1, .inl (k0, 4, .inr (.inr (.inr (.inr (va_up (va_up (va_up (va_up (fun _ => none) 0 (some ge5)) 1 (some ge5)) 2 (some ge5)) 3 (some ge5))))))), (h2, .inl (k1, 5, .inl (upd (upd (upd (upd (upd (fun _ => 0) 0 l1) 1 l2) 2 l3) 3 l4) 4 l5)))] := hD
    refine lv_if_ne (tgt := 77) hx hb dX5_type_70 (by decide) (fun c9 => absurd (by decide) c9) (fun _ => ?_)
    refine lv_iconst (v := 1) hx hb dX5_type_73 (by decide) ?_
    refine lv_goto (tgt := 78) hx hb dX5_type_74 (by decide) ?_
    refine lv_ior hx hb dX5_type_78 ?_
    refine lv_topi (fun y101 ey101 => ?_)
    obtain rfl : y101 = 1 := ey101.trans (by decide)
    refine lv_istore (lv' := [(8, .int 1), (13, .int l1), (0, .ref h0), (1, .int rp), (7, .ref h2), (9, .ref ge5), (10, .ref h2), (11, .int 5), (12, .int 0)]) hx hb dX5_type_79 hl (by decide) rfl (fun ls hl => ?_)
    refine lv_iload hx hb dX5_type_81 (lv_at hl 1 rfl) ?_
    refine lv_iconst (v := 0) hx hb dX5_type_83 (by decide) ?_
    refine lv_iconst (v := 3) hx hb dX5_type_84 (by decide) ?_
    have hPc := hP.sub (ws' := []) [] rfl
    have hDc := hD.sub (ws' := []) [] (by decide) rfl
    have hKc := hK.sub (tys' := []) [] rfl
    have hFc := va_free (wc := []) hD hS hA [] rfl
    refine va_calli (va_runS (As := [.int l1, .int 0, .int 3]) (rest := []) ⟨hx, hb, hml, hown, hts⟩ (kx_X5_isIn_4 l dC dI H.size l1 l1_l l1_u) (cwS 3 hts gX5_type_X5_isIn rfl rfl rfl (by decide +kernel) ⟨Nat.le_of_ble_eq_true rfl, Nat.le_of_ble_eq_true rfl⟩) ⟨fun a U g mk q => by obtain ⟨q0, q1, qP, qK, qD⟩ := q; exact ⟨q0, q1, qP, va_K.moved (u := U) (U := U.calling g mk a) (Vm.Alike.refl U.vm) qK, qD⟩, fun U hU hW => ⟨rfl, by rw [hU], by rw [hU]; exact hPc, va_K.moved hW.alike hKc, hDc.weaken (fun _ _ _ _ => trivial)⟩⟩ rfl rfl hl.1 rfl (lv_room (Nat.le_of_ble_eq_true rfl)) dX5_type_85 ⟨Nat.le_of_ble_eq_true rfl, Nat.le_of_ble_eq_true rfl⟩) hS (fun q _ h => hFc q h) hFc (fun r9 u t H1 locs ht hvm hw hB hz1 hk1 hS => ?_)
    obtain rfl := hw
    obtain ⟨hP1, hK1, hD1⟩ := hB
    rw [ht] at hP1
    have hK1 := va_K.moved hvm.symm hK1
    obtain ⟨hP, hD⟩ := va_join (wr := [(h0, .inr (9, [.int 0, .ref h1, .ref z0, .ref z1, .int 0, .int 0, .int 0])), (h1, .inl (k0, 4, .inr (.inr (.inr (.inr (va_up (va_up (va_up (va_up (fun _ => none) 0 (some ge5)) 1 (some ge5)) 2 (some ge5)) 3 (some ge5))))))), (h2, .inl (k1, 5, .inl (upd (upd (upd (upd (upd (fun _ => 0) 0 l1) 1 l2) 2 l3) 3 l4) 4 l5)))]) (w1 := []) hP hD [] [0, 1, 2] rfl rfl (by decide) (by decide) hk1 hFc hP1 hD1
    generalize H1 = H at hP hS ⊢
    have hP : va_P (dC, dI) vwCl [(h0, .inr (9, [.int 0, .ref h1, .ref z0, .ref z1, .int 0, .int 0, .int 0])), (h1, .inl (k0, 4, .inr (.inr (.inr (.inr (va_up (va_up (va_up (va_up (fun _ => none) 0 (some ge5)) 1 (some ge5)) 2 (some ge5)) 3 (some ge5))))))), (h2, .inl (k1, 5, .inl (upd (upd (upd (upd (upd (fun _ => 0) 0 l1) 1 l2) 2 l3) 3 l4) 4 l5)))] H := hP
    have hD : va_D A [(h0, .inr (9, [.int 0, .ref h1, .ref z0, .ref z1, .int 0, .int 0, .int 0])), (h1, .inl (k0, 4, .inr (.inr (.inr (.inr (va_up (va_up (va_up (va_up (fun _ => none) 0 (some ge5)) 1 (some ge5)) 2 (some ge5)) 3 (some ge5))))))), (h2, .inl (k1, 5, .inl (upd (upd (upd (upd (upd (fun _ => 0) 0 l1) 1 l2) 2 l3) 3 l4) 4 l5)))] := hD
    refine lv_if_eq (tgt := 118) hx hb dX5_type_88 (by decide) (fun _ => ?_) (fun c9 => absurd (by decide) c9)
    refine lv_iinc (v := 1) (lv' := [(12, .int 1), (8, .int 1), (13, .int l1), (0, .ref h0), (1, .int rp), (7, .ref h2), (9, .ref ge5), (10, .ref h2), (11, .int 5)]) hx hb dX5_type_118 hl (k := 8) rfl (by decide) (by decide) rfl (fun ls hl => ?_)
    refine lv_goto (tgt := 47) hx hb dX5_type_121 (by decide) ?_
    have hP := hP.sub (ws' := [(h0, .inr (9, [.int 0, .ref h1, .ref z0, .ref z1, .int 0, .int 0, .int 0])), (h1, .inl (k0, 4, .inr (.inr (.inr (.inr (va_up (va_up (va_up (va_up (fun _ => none) 0 (some ge5)) 1 (some ge5)) 2 (some ge5)) 3 (some ge5))))))), (h2, .inl (k1, 5, .inl (upd (upd (upd (upd (upd (fun _ => 0) 0 l1) 1 l2) 2 l3) 3 l4) 4 l5)))]) [0, 1, 2] rfl
    have hD := hD.sub (ws' := [(h0, .inr (9, [.int 0, .ref h1, .ref z0, .ref z1, .int 0, .int 0, .int 0])), (h1, .inl (k0, 4, .inr (.inr (.inr (.inr (va_up (va_up (va_up (va_up (fun _ => none) 0 (some ge5)) 1 (some ge5)) 2 (some ge5)) 3 (some ge5))))))), (h2, .inl (k1, 5, .inl (upd (upd (upd (upd (upd (fun _ => 0) 0 l1) 1 l2) 2 l3) 3 l4) 4 l5)))]) [0, 1, 2] (by decide) rfl
    have hK := hK.sub (tys' := [(k0, .object "java/lang/String"), (k1, .int)]) [0, 1] rfl
    have hl := lv_sub hl [3, 4, 5, 1, 6, 7, 8, 0] (show lv_pick [(12, .int 1), (8, .int 1), (13, .int l1), (0, .ref h0), (1, .int rp), (7, .ref h2), (9, .ref ge5), (10, .ref h2), (11, .int 5)] [3, 4, 5, 1, 6, 7, 8, 0] = [(0, .ref h0), (1, .int rp), (7, .ref h2), (8, .int 1), (9, .ref ge5), (10, .ref h2), (11, .int 5), (12, .int 1)] from rfl)
    exact kx_X5_type_h101 hR hx hb hr hml hown hts hlocks hA hG hS hK hP hD hl
  · have hR : kz_ty rp 0 0 [l2, l3, l4, l5] = (R, v) := kz_ty_n.symm.trans hR
    refine lv_iload hx hb dX5_type_47 (lv_at hl 7 rfl) ?_
    refine lv_iload hx hb dX5_type_49 (lv_at hl 6 rfl) ?_
    refine lv_icmp_ge (tgt := 124) hx hb dX5_type_51 (by decide) (fun c9 => absurd c9 (by decide)) (fun _ => ?_)
    refine lv_aload hx hb dX5_type_54 (lv_at hl 5 rfl) ?_
    refine lv_iload hx hb dX5_type_56 (lv_at hl 7 rfl) ?_
    refine va_iald (D := (dC, dI)) hx hb hK hP 2 1 rfl rfl (by unfold vp_in; decide) dX5_type_58 ?_
    refine W.eq (g2 := F0 m 59 ls [.int (-1)]) rfl ?_
    refine lv_istore (lv' := [(13, .int (-1)), (0, .ref h0), (1, .int rp), (7, .ref h2), (8, .int 0), (9, .ref ge5), (10, .ref h2), (11, .int 5), (12, .int 0)]) hx hb dX5_type_59 hl (by decide) rfl (fun ls hl => ?_)
    refine lv_iload hx hb dX5_type_61 (lv_at hl 4 rfl) ?_
    refine lv_iload hx hb dX5_type_63 (lv_at hl 0 rfl) ?_
    refine lv_iconst (v := (-1)) hx hb dX5_type_65 (by decide) ?_
    refine lv_iconst (v := 3) hx hb dX5_type_66 (by decide) ?_
    have hPc := hP.sub (ws' := []) [] rfl
    have hDc := hD.sub (ws' := []) [] (by decide) rfl
    have hKc := hK.sub (tys' := []) [] rfl
    have hFc := va_free (wc := []) hD hS hA [] rfl
    refine va_calli (va_runS (As := [.int (-1), .int (-1), .int 3]) (rest := [.int 0]) ⟨hx, hb, hml, hown, hts⟩ (kx_X5_isIn_5 l dC dI H.size) (cwS 3 hts gX5_type_X5_isIn rfl rfl rfl (by decide +kernel) ⟨Nat.le_of_ble_eq_true rfl, Nat.le_of_ble_eq_true rfl⟩) ⟨fun a U g mk q => by obtain ⟨q0, q1, qP, qK, qD⟩ := q; exact ⟨q0, q1, qP, va_K.moved (u := U) (U := U.calling g mk a) (Vm.Alike.refl U.vm) qK, qD⟩, fun U hU hW => ⟨rfl, by rw [hU], by rw [hU]; exact hPc, va_K.moved hW.alike hKc, hDc.weaken (fun _ _ _ _ => trivial)⟩⟩ rfl rfl hl.1 rfl (lv_room (Nat.le_of_ble_eq_true rfl)) dX5_type_67 ⟨Nat.le_of_ble_eq_true rfl, Nat.le_of_ble_eq_true rfl⟩) hS (fun q _ h => hFc q h) hFc (fun r9 u t H1 locs ht hvm hw hB hz1 hk1 hS => ?_)
    obtain rfl := hw
    obtain ⟨hP1, hK1, hD1⟩ := hB
    rw [ht] at hP1
    have hK1 := va_K.moved hvm.symm hK1
    obtain ⟨hP, hD⟩ := va_join (wr := [(h0, .inr (9, [.int 0, .ref h1, .ref z0, .ref z1, .int 0, .int 0, .int 0])), (h1, .inl (k0, 4, .inr (.inr (.inr (.inr (va_up (va_up (va_up (va_up (fun _ => none) 0 (some ge5)) 1 (some ge5)) 2 (some ge5)) 3 (some ge5))))))), (h2, .inl (k1, 5, .inl (upd (upd (upd (upd (upd (fun _ => 0) 0 (-1)) 1 l2) 2 l3) 3 l4) 4 l5)))]) (w1 := []) hP hD [] [0, 1, 2] rfl rfl (by decide) (by decide) hk1 hFc hP1 hD1
    generalize H1 = H at hP hS ⊢
    have hP : va_P (dC, dI) vwCl [(h0, .inr (9, [.int 0, .ref h1, .ref z0, .ref z1, .int 0, .int 0, .int 0])), (h1, .inl (k0, 4, .inr (.inr (.inr (.inr (va_up (va_up (va_up (va_up (fun _ => none) 0 (some ge5)) 1 (some ge5)) 2 (some ge5)) 3 (some ge5))))))), (h2, .inl (k1, 5, .inl (upd (upd (upd (upd (upd (fun _ => 0) 0 (-1)) 1 l2) 2 l3) 3 l4) 4 l5)))] H := hP
    have hD : va_D A [(h0, .inr (9, [.int 0, .ref h1, .ref z0, .ref z1, .int 0, .int 0, .int 0])), (h1, .inl (k0, 4, .inr (.inr (.inr (.inr (va_up (va_up (va_up (va_up (fun _ => none) 0 (some ge5)) 1 (some ge5)) 2 (some ge5)) 3 (some ge5))))))), (h2, .inl (k1, 5, .inl (upd (upd (upd (upd (upd (fun _ => 0) 0 (-1)) 1 l2) 2 l3) 3 l4) 4 l5)))] := hD
    refine lv_if_ne (tgt := 77) hx hb dX5_type_70 (by decide) (fun _ => ?_) (fun c9 => absurd c9 (by decide))
    refine lv_iconst (v := 0) hx hb dX5_type_77 (by decide) ?_
    refine lv_ior hx hb dX5_type_78 ?_
    refine lv_topi (fun y101 ey101 => ?_)
    obtain rfl : y101 = 0 := ey101.trans (by decide)
    refine lv_istore (lv' := [(8, .int 0), (13, .int (-1)), (0, .ref h0), (1, .int rp), (7, .ref h2), (9, .ref ge5), (10, .ref h2), (11, .int 5), (12, .int 0)]) hx hb dX5_type_79 hl (by decide) rfl (fun ls hl => ?_)
    refine lv_iload hx hb dX5_type_81 (lv_at hl 1 rfl) ?_
    refine lv_iconst (v := 0) hx hb dX5_type_83 (by decide) ?_
    refine lv_iconst (v := 3) hx hb dX5_type_84 (by decide) ?_
    have hPc := hP.sub (ws' := []) [] rfl
    have hDc := hD.sub (ws' := []) [] (by decide) rfl
    have hKc := hK.sub (tys' := []) [] rfl
    have hFc := va_free (wc := []) hD hS hA [] rfl
    refine va_calli (va_runS (As := [.int (-1), .int 0, .int 3]) (rest := []) ⟨hx, hb, hml, hown, hts⟩ (kx_X5_isIn_6 l dC dI H.size) (cwS 3 hts gX5_type_X5_isIn rfl rfl rfl (by decide +kernel) ⟨Nat.le_of_ble_eq_true rfl, Nat.le_of_ble_eq_true rfl⟩) ⟨fun a U g mk q => by obtain ⟨q0, q1, qP, qK, qD⟩ := q; exact ⟨q0, q1, qP, va_K.moved (u := U) (U := U.calling g mk a) (Vm.Alike.refl U.vm) qK, qD⟩, fun U hU hW => ⟨rfl, by rw [hU], by rw [hU]; exact hPc, va_K.moved hW.alike hKc, hDc.weaken (fun _ _ _ _ => trivial)⟩⟩ rfl rfl hl.1 rfl (lv_room (Nat.le_of_ble_eq_true rfl)) dX5_type_85 ⟨Nat.le_of_ble_eq_true rfl, Nat.le_of_ble_eq_true rfl⟩) hS (fun q _ h => hFc q h) hFc (fun r9 u t H1 locs ht hvm hw hB hz1 hk1 hS => ?_)
    obtain rfl := hw
    obtain ⟨hP1, hK1, hD1⟩ := hB
    rw [ht] at hP1
    have hK1 := va_K.moved hvm.symm hK1
    obtain ⟨hP, hD⟩ := va_join (wr := [(h0, .inr (9, [.int 0, .ref h1, .ref z0, .ref z1, .int 0, .int 0, .int 0])), (h1, .inl (k0, 4, .inr (.inr (.inr (.inr (va_up (va_up (va_up (va_up (fun _ => none) 0 (some ge5)) 1 (some ge5)) 2 (some ge5)) 3 (some ge5))))))), (h2, .inl (k1, 5, .inl (upd (upd (upd (upd (upd (fun _ => 0) 0 (-1)) 1 l2) 2 l3) 3 l4) 4 l5)))]) (w1 := []) hP hD [] [0, 1, 2] rfl rfl (by decide) (by decide) hk1 hFc hP1 hD1
    generalize H1 = H at hP hS ⊢
    have hP : va_P (dC, dI) vwCl [(h0, .inr (9, [.int 0, .ref h1, .ref z0, .ref z1, .int 0, .int 0, .int 0])), (h1, .inl (k0, 4, .inr (.inr (.inr (.inr (va_up (va_up (va_up (va_up (fun _ => none) 0 (some ge5)) 1 (some ge5)) 2 (some ge5)) 3 (some ge5))))))), (h2, .inl (k1, 5, .inl (upd (upd (upd (upd (upd (fun _ => 0) 0 (-1)) 1 l2) 2 l3) 3 l4) 4 l5)))] H := hP
    have hD : va_D A [(h0, .inr (9, [.int 0, .ref h1, .ref z0, .ref z1, .int 0, .int 0, .int 0])), (h1, .inl (k0, 4, .inr (.inr (.inr (.inr (va_up (va_up (va_up (va_up (fun _ => none) 0 (some ge5)) 1 (some ge5)) 2 (some ge5)) 3 (some ge5))))))), (h2, .inl (k1, 5, .inl (upd (upd (upd (upd (upd (fun _ => 0) 0 (-1)) 1 l2) 2 l3) 3 l4) 4 l5)))] := hD
    refine lv_if_eq (tgt := 118) hx hb dX5_type_88 (by decide) (fun _ => ?_) (fun c9 => absurd (by decide) c9)
    refine lv_iinc (v := 1) (lv' := [(12, .int 1), (8, .int 0), (13, .int (-1)), (0, .ref h0), (1, .int rp), (7, .ref h2), (9, .ref ge5), (10, .ref h2), (11, .int 5)]) hx hb dX5_type_118 hl (k := 8) rfl (by decide) (by decide) rfl (fun ls hl => ?_)
    refine lv_goto (tgt := 47) hx hb dX5_type_121 (by decide) ?_
    have hP := hP.sub (ws' := [(h0, .inr (9, [.int 0, .ref h1, .ref z0, .ref z1, .int 0, .int 0, .int 0])), (h1, .inl (k0, 4, .inr (.inr (.inr (.inr (va_up (va_up (va_up (va_up (fun _ => none) 0 (some ge5)) 1 (some ge5)) 2 (some ge5)) 3 (some ge5))))))), (h2, .inl (k1, 5, .inl (upd (upd (upd (upd (upd (fun _ => 0) 0 (-1)) 1 l2) 2 l3) 3 l4) 4 l5)))]) [0, 1, 2] rfl
    have hD := hD.sub (ws' := [(h0, .inr (9, [.int 0, .ref h1, .ref z0, .ref z1, .int 0, .int 0, .int 0])), (h1, .inl (k0, 4, .inr (.inr (.inr (.inr (va_up (va_up (va_up (va_up (fun _ => none) 0 (some ge5)) 1 (some ge5)) 2 (some ge5)) 3 (some ge5))))))), (h2, .inl (k1, 5, .inl (upd (upd (upd (upd (upd (fun _ => 0) 0 (-1)) 1 l2) 2 l3) 3 l4) 4 l5)))]) [0, 1, 2] (by decide) rfl
    have hK := hK.sub (tys' := [(k0, .object "java/lang/String"), (k1, .int)]) [0, 1] rfl
    have hl := lv_sub hl [3, 4, 5, 1, 6, 7, 8, 0] (show lv_pick [(12, .int 1), (8, .int 0), (13, .int (-1)), (0, .ref h0), (1, .int rp), (7, .ref h2), (9, .ref ge5), (10, .ref h2), (11, .int 5)] [3, 4, 5, 1, 6, 7, 8, 0] = [(0, .ref h0), (1, .int rp), (7, .ref h2), (8, .int 0), (9, .ref ge5), (10, .ref h2), (11, .int 5), (12, .int 1)] from rfl)
    exact kx_X5_type_h100 hR hx hb hr hml hown hts hlocks hA hG hS hK hP hD hl
  · have hR : kz_ty rp 1 0 [l2, l3, l4, l5] = (R, v) := (kz_ty_g (by decide) (by decide)).symm.trans hR
    refine lv_iload hx hb dX5_type_47 (lv_at hl 7 rfl) ?_
    refine lv_iload hx hb dX5_type_49 (lv_at hl 6 rfl) ?_
    refine lv_icmp_ge (tgt := 124) hx hb dX5_type_51 (by decide) (fun c9 => absurd c9 (by decide)) (fun _ => ?_)
    refine lv_aload hx hb dX5_type_54 (lv_at hl 5 rfl) ?_
    refine lv_iload hx hb dX5_type_56 (lv_at hl 7 rfl) ?_
    refine va_iald (D := (dC, dI)) hx hb hK hP 2 1 rfl rfl (by unfold vp_in; decide) dX5_type_58 ?_
    refine W.eq (g2 := F0 m 59 ls [.int 0]) rfl ?_
    refine lv_istore (lv' := [(13, .int 0), (0, .ref h0), (1, .int rp), (7, .ref h2), (8, .int 0), (9, .ref ge5), (10, .ref h2), (11, .int 5), (12, .int 0)]) hx hb dX5_type_59 hl (by decide) rfl (fun ls hl => ?_)
    refine lv_iload hx hb dX5_type_61 (lv_at hl 4 rfl) ?_
    refine lv_iload hx hb dX5_type_63 (lv_at hl 0 rfl) ?_
    refine lv_iconst (v := (-1)) hx hb dX5_type_65 (by decide) ?_
    refine lv_iconst (v := 3) hx hb dX5_type_66 (by decide) ?_
    have hPc := hP.sub (ws' := []) [] rfl
    have hDc := hD.sub (ws' := []) [] (by decide) rfl
    have hKc := hK.sub (tys' := []) [] rfl
    have hFc := va_free (wc := []) hD hS hA [] rfl
    refine va_calli (va_runS (As := [.int 0, .int (-1), .int 3]) (rest := [.int 0]) ⟨hx, hb, hml, hown, hts⟩ (kx_X5_isIn_7 l dC dI H.size) (cwS 3 hts gX5_type_X5_isIn rfl rfl rfl (by decide +kernel) ⟨Nat.le_of_ble_eq_true rfl, Nat.le_of_ble_eq_true rfl⟩) ⟨fun a U g mk q => by obtain ⟨q0, q1, qP, qK, qD⟩ := q; exact ⟨q0, q1, qP, va_K.moved (u := U) (U := U.calling g mk a) (Vm.Alike.refl U.vm) qK, qD⟩, fun U hU hW => ⟨rfl, by rw [hU], by rw [hU]; exact hPc, va_K.moved hW.alike hKc, hDc.weaken (fun _ _ _ _ => trivial)⟩⟩ rfl rfl hl.1 rfl (lv_room (Nat.le_of_ble_eq_true rfl)) dX5_type_67 ⟨Nat.le_of_ble_eq_true rfl, Nat.le_of_ble_eq_true rfl⟩) hS (fun q _ h => hFc q h) hFc (fun r9 u t H1 locs ht hvm hw hB hz1 hk1 hS => ?_)
    obtain rfl := hw
    obtain ⟨hP1, hK1, hD1⟩ := hB
    rw [ht] at hP1
    have hK1 := va_K.moved hvm.symm hK1
    obtain ⟨hP, hD⟩ := va_join (wr := [(h0, .inr (9, [.int 0, .ref h1, .ref z0, .ref z1, .int 0, .int 0, .int 0])), (h1, .inl (k0, 4, .inr (.inr (.inr (.inr (va_up (va_up (va_up (va_up (fun _ => none) 0 (some ge5)) 1 (some ge5)) 2 (some ge5)) 3 (some ge5))))))), (h2, .inl (k1, 5, .inl (upd (upd (upd (upd (upd (fun _ => 0) 0 0) 1 l2) 2 l3) 3 l4) 4 l5)))]) (w1 := []) hP hD [] [0, 1, 2] rfl rfl (by decide) (by decide) hk1 hFc hP1 hD1
    generalize H1 = H at hP hS ⊢
    have hP : va_P (dC, dI) vwCl [(h0, .inr (9, [.int 0, .ref h1, .ref z0, .ref z1, .int 0, .int 0, .int 0])), (h1, .inl (k0, 4, .inr (.inr (.inr (.inr (va_up (va_up (va_up (va_up (fun _ => none) 0 (some ge5)) 1 (some ge5)) 2 (some ge5)) 3 (some ge5))))))), (h2, .inl (k1, 5, .inl (upd (upd (upd (upd (upd (fun _ => 0) 0 0) 1 l2) 2 l3) 3 l4) 4 l5)))] H := hP
    have hD : va_D A [(h0, .inr (9, [.int 0, .ref h1, .ref z0, .ref z1, .int 0, .int 0, .int 0])), (h1, .inl (k0, 4, .inr (.inr (.inr (.inr (va_up (va_up (va_up (va_up (fun _ => none) 0 (some ge5)) 1 (some ge5)) 2 (some ge5)) 3 (some ge5))))))), (h2, .inl (k1, 5, .inl (upd (upd (upd (upd (upd (fun _ => 0) 0 0) 1 l2) 2 l3) 3 l4) 4 l5)))] := hD
    refine lv_if_ne (tgt := 77) hx hb dX5_type_70 (by decide) (fun _ => ?_) (fun c9 => absurd c9 (by decide))
    refine lv_iconst (v := 0) hx hb dX5_type_77 (by decide) ?_
    refine lv_ior hx hb dX5_type_78 ?_
    refine lv_topi (fun y101 ey101 => ?_)
    obtain rfl : y101 = 0 := ey101.trans (by decide)
    refine lv_istore (lv' := [(8, .int 0), (13, .int 0), (0, .ref h0), (1, .int rp), (7, .ref h2), (9, .ref ge5), (10, .ref h2), (11, .int 5), (12, .int 0)]) hx hb dX5_type_79 hl (by decide) rfl (fun ls hl => ?_)
    refine lv_iload hx hb dX5_type_81 (lv_at hl 1 rfl) ?_
    refine lv_iconst (v := 0) hx hb dX5_type_83 (by decide) ?_
    refine lv_iconst (v := 3) hx hb dX5_type_84 (by decide) ?_
    have hPc := hP.sub (ws' := []) [] rfl
    have hDc := hD.sub (ws' := []) [] (by decide) rfl
    have hKc := hK.sub (tys' := []) [] rfl
    have hFc := va_free (wc := []) hD hS hA [] rfl
    refine va_calli (va_runS (As := [.int 0, .int 0, .int 3]) (rest := []) ⟨hx, hb, hml, hown, hts⟩ (kx_X5_isIn_8 l dC dI H.size) (cwS 3 hts gX5_type_X5_isIn rfl rfl rfl (by decide +kernel) ⟨Nat.le_of_ble_eq_true rfl, Nat.le_of_ble_eq_true rfl⟩) ⟨fun a U g mk q => by obtain ⟨q0, q1, qP, qK, qD⟩ := q; exact ⟨q0, q1, qP, va_K.moved (u := U) (U := U.calling g mk a) (Vm.Alike.refl U.vm) qK, qD⟩, fun U hU hW => ⟨rfl, by rw [hU], by rw [hU]; exact hPc, va_K.moved hW.alike hKc, hDc.weaken (fun _ _ _ _ => trivial)⟩⟩ rfl rfl hl.1 rfl (lv_room (Nat.le_of_ble_eq_true rfl)) dX5_type_85 ⟨Nat.le_of_ble_eq_true rfl, Nat.le_of_ble_eq_true rfl⟩) hS (fun q _ h => hFc q h) hFc (fun r9 u t H1 locs ht hvm hw hB hz1 hk1 hS => ?_)
    obtain rfl := hw
    obtain ⟨hP1, hK1, hD1⟩ := hB
    rw [ht] at hP1
    have hK1 := va_K.moved hvm.symm hK1
    obtain ⟨hP, hD⟩ := va_join (wr := [(h0, .inr (9, [.int 0, .ref h1, .ref z0, .ref z1, .int 0, .int 0, .int 0])), (h1, .inl (k0, 4, .inr (.inr (.inr (.inr (va_up (va_up (va_up (va_up (fun _ => none) 0 (some ge5)) 1 (some ge5)) 2 (some ge5)) 3 (some ge5))))))), (h2, .inl (k1, 5, .inl (upd (upd (upd (upd (upd (fun _ => 0) 0 0) 1 l2) 2 l3) 3 l4) 4 l5)))]) (w1 := []) hP hD [] [0, 1, 2] rfl rfl (by decide) (by decide) hk1 hFc hP1 hD1
    generalize H1 = H at hP hS ⊢
    have hP : va_P (dC, dI) vwCl [(h0, .inr (9, [.int 0, .ref h1, .ref z0, .ref z1, .int 0, .int 0, .int 0])), (h1, .inl (k0, 4, .inr (.inr (.inr (.inr (va_up (va_up (va_up (va_up (fun _ => none) 0 (some ge5)) 1 (some ge5)) 2 (some ge5)) 3 (some ge5))))))), (h2, .inl (k1, 5, .inl (upd (upd (upd (upd (upd (fun _ => 0) 0 0) 1 l2) 2 l3) 3 l4) 4 l5)))] H := hP
    have hD : va_D A [(h0, .inr (9, [.int 0, .ref h1, .ref z0, .ref z1, .int 0, .int 0, .int 0])), (h1, .inl (k0, 4, .inr (.inr (.inr (.inr (va_up (va_up (va_up (va_up (fun _ => none) 0 (some ge5)) 1 (some ge5)) 2 (some ge5)) 3 (some ge5))))))), (h2, .inl (k1, 5, .inl (upd (upd (upd (upd (upd (fun _ => 0) 0 0) 1 l2) 2 l3) 3 l4) 4 l5)))] := hD
    refine lv_if_eq (tgt := 118) hx hb dX5_type_88 (by decide) (fun c9 => absurd c9 (by decide)) (fun _ => ?_)
    refine va_new (ci := 1) (fs := [.null, .int 0, .int 0, .int 0]) (C := RJ4) (T := TJ4) (N := 4) hx hb hts (by decide +kernel) tyJ4 tyJ4_ok hown (hts (.classLink RX5 49 RJ4) (by decide +kernel)) (hts (.instantiable RJ4 4) (by decide +kernel)) (hts (.initialized RJ4) (by decide +kernel)) hK hP hD hS hA rfl (fun j hj => by rcases (show j = 0 ∨ j = 1 ∨ j = 2 ∨ j = 3 by omega) with rfl | rfl | rfl | rfl <;> rfl) (Nat.le_of_ble_eq_true rfl) (Nat.le_of_ble_eq_true rfl) dX5_type_91 (fun q102 H hP hD hS => ?_)
    have hP : va_P (dC, dI) vwCl [(h0, .inr (9, [.int 0, .ref h1, .ref z0, .ref z1, .int 0, .int 0, .int 0])), (h1, .inl (k0, 4, .inr (.inr (.inr (.inr (va_up (va_up (va_up (va_up (fun _ => none) 0 (some ge5)) 1 (some ge5)) 2 (some ge5)) 3 (some ge5))))))), (h2, .inl (k1, 5, .inl (upd (upd (upd (upd (upd (fun _ => 0) 0 0) 1 l2) 2 l3) 3 l4) 4 l5))), (q102, .inr (1, [.null, .int 0, .int 0, .int 0]))] H := hP
    have hD : va_D A [(h0, .inr (9, [.int 0, .ref h1, .ref z0, .ref z1, .int 0, .int 0, .int 0])), (h1, .inl (k0, 4, .inr (.inr (.inr (.inr (va_up (va_up (va_up (va_up (fun _ => none) 0 (some ge5)) 1 (some ge5)) 2 (some ge5)) 3 (some ge5))))))), (h2, .inl (k1, 5, .inl (upd (upd (upd (upd (upd (fun _ => 0) 0 0) 1 l2) 2 l3) 3 l4) 4 l5))), (q102, .inr (1, [.null, .int 0, .int 0, .int 0]))] := hD
    refine W.widen (k := 2) (n := 9) (by omega) (by omega) ?_
    refine lv_dup hx hb dX5_type_94 rfl ?_
    have hPc := hP.sub (ws' := [(q102, .inr (1, [.null, .int 0, .int 0, .int 0]))]) [3] rfl
    have hDc := hD.sub (ws' := [(q102, .inr (1, [.null, .int 0, .int 0, .int 0]))]) [3] (by decide) rfl
    have hKc := hK.sub (tys' := []) [] rfl
    have hFc := va_free (wc := [(q102, .inr (1, [.null, .int 0, .int 0, .int 0]))]) hD hS hA [3] rfl
    refine va_callv (va_runI (As := []) (rest := [.ref q102]) ⟨hx, hb, hml, hown, hts⟩ (kx_J4_init_da8c8_0 l dC dI ge5 gea gv5 gva gde gic gi0 q102 H.size) (cwI 0 hts gX5_type_J4_init_da8c8 rfl rfl rfl (hts (.initialized RJ4) (by decide +kernel)) (hts (.methodLink RX5 51 yJ4_init_da8c8) (by decide +kernel)) (hts (.instanceMethod yJ4_init_da8c8) (by decide +kernel)) rfl (by decide +kernel) ⟨Nat.le_of_ble_eq_true rfl, Nat.le_of_ble_eq_true rfl⟩) ⟨fun a U g mk q => by obtain ⟨q0, q1, qP, qK, qD, qG⟩ := q; exact ⟨q0, q1, qP, va_K.moved (u := U) (U := U.calling g mk a) (Vm.Alike.refl U.vm) qK, qD, gv.fb qG⟩, fun U hU hW => ⟨rfl, by rw [hU], by rw [hU]; exact hPc, va_K.moved hW.alike hKc, hDc.weaken (fun _ _ _ _ => trivial), gv.pass hW hU hS hFc hG⟩⟩ rfl rfl hl.1 rfl (lv_room (Nat.le_of_ble_eq_true rfl)) dX5_type_95 ⟨Nat.le_of_ble_eq_true rfl, Nat.le_of_ble_eq_true rfl⟩) hS (fun q _ h => hFc q h) hFc (fun u t H1 locs ht hvm hw hB hz1 hk1 hS => ?_)
    obtain ⟨q103, cq104, hP1, hK1, hD1⟩ := hB
    rw [ht] at hP1
    have hK1 := va_K.moved hvm.symm hK1
    obtain ⟨hP, hD⟩ := va_join (wr := [(h0, .inr (9, [.int 0, .ref h1, .ref z0, .ref z1, .int 0, .int 0, .int 0])), (h1, .inl (k0, 4, .inr (.inr (.inr (.inr (va_up (va_up (va_up (va_up (fun _ => none) 0 (some ge5)) 1 (some ge5)) 2 (some ge5)) 3 (some ge5))))))), (h2, .inl (k1, 5, .inl (upd (upd (upd (upd (upd (fun _ => 0) 0 0) 1 l2) 2 l3) 3 l4) 4 l5)))]) (w1 := [(q102, .inr (1, [.ref q103, .int 0, .int 0, .int 0])), (q103, .inl (cq104, 16, .inl (fun _ => 0)))]) hP hD [3] [0, 1, 2] rfl rfl (by decide) (by decide) hk1 hFc hP1 hD1
    have hK := hK.app (hK1.sub (tys' := [(cq104, .byte)]) [0] rfl)
    generalize H1 = H at hP hS ⊢
    have hK : va_K (dC, dI) vwCl [(k0, .object "java/lang/String"), (k1, .int), (cq104, .byte)] s := hK
    have hP : va_P (dC, dI) vwCl [(h0, .inr (9, [.int 0, .ref h1, .ref z0, .ref z1, .int 0, .int 0, .int 0])), (h1, .inl (k0, 4, .inr (.inr (.inr (.inr (va_up (va_up (va_up (va_up (fun _ => none) 0 (some ge5)) 1 (some ge5)) 2 (some ge5)) 3 (some ge5))))))), (h2, .inl (k1, 5, .inl (upd (upd (upd (upd (upd (fun _ => 0) 0 0) 1 l2) 2 l3) 3 l4) 4 l5))), (q102, .inr (1, [.ref q103, .int 0, .int 0, .int 0])), (q103, .inl (cq104, 16, .inl (fun _ => 0)))] H := hP
    have hD : va_D A [(h0, .inr (9, [.int 0, .ref h1, .ref z0, .ref z1, .int 0, .int 0, .int 0])), (h1, .inl (k0, 4, .inr (.inr (.inr (.inr (va_up (va_up (va_up (va_up (fun _ => none) 0 (some ge5)) 1 (some ge5)) 2 (some ge5)) 3 (some ge5))))))), (h2, .inl (k1, 5, .inl (upd (upd (upd (upd (upd (fun _ => 0) 0 0) 1 l2) 2 l3) 3 l4) 4 l5))), (q102, .inr (1, [.ref q103, .int 0, .int 0, .int 0])), (q103, .inl (cq104, 16, .inl (fun _ => 0)))] := hD
    refine W.widen (k := 3) (n := 25) (by omega) (by omega) ?_
    refine lv_aload hx hb dX5_type_98 (lv_at hl 5 rfl) ?_
    have hPc := hP.sub (ws' := [(q102, .inr (1, [.ref q103, .int 0, .int 0, .int 0])), (q103, .inl (cq104, 16, .inl (fun _ => 0)))]) [3, 4] rfl
    have hDc := hD.sub (ws' := [(q102, .inr (1, [.ref q103, .int 0, .int 0, .int 0])), (q103, .inl (cq104, 16, .inl (fun _ => 0)))]) [3, 4] (by decide) rfl
    have hKc := hK.sub (tys' := [(cq104, .byte)]) [2] rfl
    have hFc := va_free (wc := [(q102, .inr (1, [.ref q103, .int 0, .int 0, .int 0])), (q103, .inl (cq104, 16, .inl (fun _ => 0)))]) hD hS hA [3, 4] rfl
    refine va_callr (va_runV (As := [.ref ge5]) (rest := []) ⟨hx, hb, hml, hown, hts⟩ (kx_J4_append_15ec4_0 l dC dI ge5 gea gv5 gva gde gic gi0 q102 q103 cq104 H.size) (cwV 1 hts gX5_type_J4_append_15ec4 rfl rfl rfl (by decide +kernel) ⟨Nat.le_of_ble_eq_true rfl, Nat.le_of_ble_eq_true rfl⟩) ⟨fun a U g mk q => by obtain ⟨q0, q1, qP, qK, qD, qG⟩ := q; exact ⟨q0, q1, qP, va_K.moved (u := U) (U := U.calling g mk a) (Vm.Alike.refl U.vm) qK, qD, gv.fb qG⟩, va_recv hKc hPc (ci := 1) (q0 := 0) rfl rfl, fun U hU hW => ⟨rfl, by rw [hU], by rw [hU]; exact hPc, va_K.moved hW.alike hKc, hDc.weaken (fun _ _ _ _ => trivial), gv.pass hW hU hS hFc hG⟩⟩ rfl rfl hl.1 rfl (lv_room (Nat.le_of_ble_eq_true rfl)) dX5_type_100 ⟨Nat.le_of_ble_eq_true rfl, Nat.le_of_ble_eq_true rfl⟩) hS (fun q _ h => hFc q h) hFc (fun u ra t H1 locs ht hvm hw hB hz1 hk1 hS => ?_)
    obtain ⟨hra, hP1, hK1, hD1⟩ := hB
    rw [hra]
    rw [ht] at hP1
    have hK1 := va_K.moved hvm.symm hK1
    obtain ⟨hP, hD⟩ := va_join (wr := [(h0, .inr (9, [.int 0, .ref h1, .ref z0, .ref z1, .int 0, .int 0, .int 0])), (h1, .inl (k0, 4, .inr (.inr (.inr (.inr (va_up (va_up (va_up (va_up (fun _ => none) 0 (some ge5)) 1 (some ge5)) 2 (some ge5)) 3 (some ge5))))))), (h2, .inl (k1, 5, .inl (upd (upd (upd (upd (upd (fun _ => 0) 0 0) 1 l2) 2 l3) 3 l4) 4 l5)))]) (w1 := [(q102, .inr (1, [.ref q103, .int 0, .int 0, .int 0])), (q103, .inl (cq104, 16, .inl (fun _ => 0)))]) hP hD [3, 4] [0, 1, 2] rfl rfl (by decide) (by decide) hk1 hFc hP1 hD1
    generalize H1 = H at hP hS ⊢
    have hP : va_P (dC, dI) vwCl [(h0, .inr (9, [.int 0, .ref h1, .ref z0, .ref z1, .int 0, .int 0, .int 0])), (h1, .inl (k0, 4, .inr (.inr (.inr (.inr (va_up (va_up (va_up (va_up (fun _ => none) 0 (some ge5)) 1 (some ge5)) 2 (some ge5)) 3 (some ge5))))))), (h2, .inl (k1, 5, .inl (upd (upd (upd (upd (upd (fun _ => 0) 0 0) 1 l2) 2 l3) 3 l4) 4 l5))), (q102, .inr (1, [.ref q103, .int 0, .int 0, .int 0])), (q103, .inl (cq104, 16, .inl (fun _ => 0)))] H := hP
    have hD : va_D A [(h0, .inr (9, [.int 0, .ref h1, .ref z0, .ref z1, .int 0, .int 0, .int 0])), (h1, .inl (k0, 4, .inr (.inr (.inr (.inr (va_up (va_up (va_up (va_up (fun _ => none) 0 (some ge5)) 1 (some ge5)) 2 (some ge5)) 3 (some ge5))))))), (h2, .inl (k1, 5, .inl (upd (upd (upd (upd (upd (fun _ => 0) 0 0) 1 l2) 2 l3) 3 l4) 4 l5))), (q102, .inr (1, [.ref q103, .int 0, .int 0, .int 0])), (q103, .inl (cq104, 16, .inl (fun _ => 0)))] := hD
    refine va_ldcS hx hb hown g_sa dX5_type_103 ?_
    refine lv_iload hx hb dX5_type_105 (lv_at hl 1 rfl) ?_
    have hPc := hP.sub (ws' := []) [] rfl
    have hDc := hD.sub (ws' := []) [] (by decide) rfl
    have hKc := hK.sub (tys' := []) [] rfl
    have hFc := va_free (wc := []) hD hS hA [] rfl
    refine va_calli (va_runV (As := [.int 0]) (rest := [.ref q102]) ⟨hx, hb, hml, hown, hts⟩ (kx_J0_charAt_5068e_0 l dC dI ge5 gea gv5 gva gde gic gi0 H.size) (cwV 1 hts gX5_type_J0_charAt_5068e rfl rfl rfl (by decide +kernel) ⟨Nat.le_of_ble_eq_true rfl, Nat.le_of_ble_eq_true rfl⟩) ⟨fun a U g mk q => by obtain ⟨q0, q1, qP, qK, qD, qG⟩ := q; exact ⟨q0, q1, qP, va_K.moved (u := U) (U := U.calling g mk a) (Vm.Alike.refl U.vm) qK, qD, gv.fb qG⟩, (by obtain ⟨cell, k1, k2, k3, -⟩ := g_oa.kept hS.2.1; exact ⟨cell, k1, k2, k3⟩), fun U hU hW => ⟨rfl, by rw [hU], by rw [hU]; exact hPc, va_K.moved hW.alike hKc, hDc.weaken (fun _ _ _ _ => trivial), gv.pass hW hU hS hFc hG⟩⟩ rfl rfl hl.1 rfl (lv_room (Nat.le_of_ble_eq_true rfl)) dX5_type_107 ⟨Nat.le_of_ble_eq_true rfl, Nat.le_of_ble_eq_true rfl⟩) hS (fun q _ h => hFc q h) hFc (fun r9 u t H1 locs ht hvm hw hB hz1 hk1 hS => ?_)
    obtain rfl := hw
    obtain ⟨hP1, hK1, hD1⟩ := hB
    rw [ht] at hP1
    have hK1 := va_K.moved hvm.symm hK1
    obtain ⟨hP, hD⟩ := va_join (wr := [(h0, .inr (9, [.int 0, .ref h1, .ref z0, .ref z1, .int 0, .int 0, .int 0])), (h1, .inl (k0, 4, .inr (.inr (.inr (.inr (va_up (va_up (va_up (va_up (fun _ => none) 0 (some ge5)) 1 (some ge5)) 2 (some ge5)) 3 (some ge5))))))), (h2, .inl (k1, 5, .inl (upd (upd (upd (upd (upd (fun _ => 0) 0 0) 1 l2) 2 l3) 3 l4) 4 l5))), (q102, .inr (1, [.ref q103, .int 0, .int 0, .int 0])), (q103, .inl (cq104, 16, .inl (fun _ => 0)))]) (w1 := []) hP hD [] [0, 1, 2, 3, 4] rfl rfl (by decide) (by decide) hk1 hFc hP1 hD1
    generalize H1 = H at hP hS ⊢
    have hP : va_P (dC, dI) vwCl [(h0, .inr (9, [.int 0, .ref h1, .ref z0, .ref z1, .int 0, .int 0, .int 0])), (h1, .inl (k0, 4, .inr (.inr (.inr (.inr (va_up (va_up (va_up (va_up (fun _ => none) 0 (some ge5)) 1 (some ge5)) 2 (some ge5)) 3 (some ge5))))))), (h2, .inl (k1, 5, .inl (upd (upd (upd (upd (upd (fun _ => 0) 0 0) 1 l2) 2 l3) 3 l4) 4 l5))), (q102, .inr (1, [.ref q103, .int 0, .int 0, .int 0])), (q103, .inl (cq104, 16, .inl (fun _ => 0)))] H := hP
    have hD : va_D A [(h0, .inr (9, [.int 0, .ref h1, .ref z0, .ref z1, .int 0, .int 0, .int 0])), (h1, .inl (k0, 4, .inr (.inr (.inr (.inr (va_up (va_up (va_up (va_up (fun _ => none) 0 (some ge5)) 1 (some ge5)) 2 (some ge5)) 3 (some ge5))))))), (h2, .inl (k1, 5, .inl (upd (upd (upd (upd (upd (fun _ => 0) 0 0) 1 l2) 2 l3) 3 l4) 4 l5))), (q102, .inr (1, [.ref q103, .int 0, .int 0, .int 0])), (q103, .inl (cq104, 16, .inl (fun _ => 0)))] := hD
    have hPc := hP.sub (ws' := [(q102, .inr (1, [.ref q103, .int 0, .int 0, .int 0])), (q103, .inl (cq104, 16, .inl (fun _ => 0)))]) [3, 4] rfl
    have hDc := hD.sub (ws' := [(q102, .inr (1, [.ref q103, .int 0, .int 0, .int 0])), (q103, .inl (cq104, 16, .inl (fun _ => 0)))]) [3, 4] (by decide) rfl
    have hKc := hK.sub (tys' := [(cq104, .byte)]) [2] rfl
    have hFc := va_free (wc := [(q102, .inr (1, [.ref q103, .int 0, .int 0, .int 0])), (q103, .inl (cq104, 16, .inl (fun _ => 0)))]) hD hS hA [3, 4] rfl
    refine va_callr (va_runV (As := [.int 97]) (rest := []) ⟨hx, hb, hml, hown, hts⟩ (kx_J4_append_cf468_0 l dC dI ge5 gea gv5 gva gde gic gi0 q102 q103 cq104 H.size) (cwV 1 hts gX5_type_J4_append_cf468 rfl rfl rfl (by decide +kernel) ⟨Nat.le_of_ble_eq_true rfl, Nat.le_of_ble_eq_true rfl⟩) ⟨fun a U g mk q => by obtain ⟨q0, q1, qP, qK, qD, qG⟩ := q; exact ⟨q0, q1, qP, va_K.moved (u := U) (U := U.calling g mk a) (Vm.Alike.refl U.vm) qK, qD, gv.fb qG⟩, va_recv hKc hPc (ci := 1) (q0 := 0) rfl rfl, fun U hU hW => ⟨rfl, by rw [hU], by rw [hU]; exact hPc, va_K.moved hW.alike hKc, hDc.weaken (fun _ _ _ _ => trivial), gv.pass hW hU hS hFc hG⟩⟩ rfl rfl hl.1 rfl (lv_room (Nat.le_of_ble_eq_true rfl)) dX5_type_110 ⟨Nat.le_of_ble_eq_true rfl, Nat.le_of_ble_eq_true rfl⟩) hS (fun q _ h => hFc q h) hFc (fun u ra t H1 locs ht hvm hw hB hz1 hk1 hS => ?_)
    obtain ⟨f105, f105_t, hra, hP1, hK1, hD1⟩ := hB
    rw [hra]
    rw [ht] at hP1
    have hK1 := va_K.moved hvm.symm hK1
    obtain ⟨hP, hD⟩ := va_join (wr := [(h0, .inr (9, [.int 0, .ref h1, .ref z0, .ref z1, .int 0, .int 0, .int 0])), (h1, .inl (k0, 4, .inr (.inr (.inr (.inr (va_up (va_up (va_up (va_up (fun _ => none) 0 (some ge5)) 1 (some ge5)) 2 (some ge5)) 3 (some ge5))))))), (h2, .inl (k1, 5, .inl (upd (upd (upd (upd (upd (fun _ => 0) 0 0) 1 l2) 2 l3) 3 l4) 4 l5)))]) (w1 := [(q102, .inr (1, [.ref q103, .int 0, .int 0, .int 1])), (q103, .inl (cq104, 16, .inl f105))]) hP hD [3, 4] [0, 1, 2] rfl rfl (by decide) (by decide) hk1 hFc hP1 hD1
    generalize H1 = H at hP hS ⊢
    have hP : va_P (dC, dI) vwCl [(h0, .inr (9, [.int 0, .ref h1, .ref z0, .ref z1, .int 0, .int 0, .int 0])), (h1, .inl (k0, 4, .inr (.inr (.inr (.inr (va_up (va_up (va_up (va_up (fun _ => none) 0 (some ge5)) 1 (some ge5)) 2 (some ge5)) 3 (some ge5))))))), (h2, .inl (k1, 5, .inl (upd (upd (upd (upd (upd (fun _ => 0) 0 0) 1 l2) 2 l3) 3 l4) 4 l5))), (q102, .inr (1, [.ref q103, .int 0, .int 0, .int 1])), (q103, .inl (cq104, 16, .inl f105))] H := hP
    have hD : va_D A [(h0, .inr (9, [.int 0, .ref h1, .ref z0, .ref z1, .int 0, .int 0, .int 0])), (h1, .inl (k0, 4, .inr (.inr (.inr (.inr (va_up (va_up (va_up (va_up (fun _ => none) 0 (some ge5)) 1 (some ge5)) 2 (some ge5)) 3 (some ge5))))))), (h2, .inl (k1, 5, .inl (upd (upd (upd (upd (upd (fun _ => 0) 0 0) 1 l2) 2 l3) 3 l4) 4 l5))), (q102, .inr (1, [.ref q103, .int 0, .int 0, .int 1])), (q103, .inl (cq104, 16, .inl f105))] := hD
    have hPc := hP.sub (ws' := [(q102, .inr (1, [.ref q103, .int 0, .int 0, .int 1])), (q103, .inl (cq104, 16, .inl f105))]) [3, 4] rfl
    have hDc := hD.sub (ws' := [(q102, .inr (1, [.ref q103, .int 0, .int 0, .int 1])), (q103, .inl (cq104, 16, .inl f105))]) [3, 4] (by decide) rfl
    have hKc := hK.sub (tys' := [(cq104, .byte)]) [2] rfl
    have hFc := va_free (wc := [(q102, .inr (1, [.ref q103, .int 0, .int 0, .int 1])), (q103, .inl (cq104, 16, .inl f105))]) hD hS hA [3, 4] rfl
    refine va_callr (va_runV (As := []) (rest := []) ⟨hx, hb, hml, hown, hts⟩ (kx_J4_toString_0e30d_1 l dC dI ge5 gea gv5 gva gde gic gi0 q102 q103 cq104 H.size f105 f105_t) (cwV 0 hts gX5_type_J4_toString_0e30d rfl rfl rfl (by decide +kernel) ⟨Nat.le_of_ble_eq_true rfl, Nat.le_of_ble_eq_true rfl⟩) ⟨fun a U g mk q => by obtain ⟨q0, q1, qP, qK, qD, qG⟩ := q; exact ⟨q0, q1, qP, va_K.moved (u := U) (U := U.calling g mk a) (Vm.Alike.refl U.vm) qK, qD, gv.fb qG⟩, va_recv hKc hPc (ci := 1) (q0 := 0) rfl rfl, fun U hU hW => ⟨rfl, by rw [hU], by rw [hU]; exact hPc, va_K.moved hW.alike hKc, hDc.weaken (fun _ _ _ _ => trivial), gv.pass hW hU hS hFc hG⟩⟩ rfl rfl hl.1 rfl (lv_room (Nat.le_of_ble_eq_true rfl)) dX5_type_113 ⟨Nat.le_of_ble_eq_true rfl, Nat.le_of_ble_eq_true rfl⟩) hS (fun q _ h => hFc q h) hFc (fun u ra t H1 locs ht hvm hw hB hz1 hk1 hS => ?_)
    obtain ⟨q106, q107, cq108, f109, f109_t, hra, hP1, hK1, hD1⟩ := hB
    rw [hra]
    rw [ht] at hP1
    have hK1 := va_K.moved hvm.symm hK1
    obtain ⟨hP, hD⟩ := va_join (wr := [(h0, .inr (9, [.int 0, .ref h1, .ref z0, .ref z1, .int 0, .int 0, .int 0])), (h1, .inl (k0, 4, .inr (.inr (.inr (.inr (va_up (va_up (va_up (va_up (fun _ => none) 0 (some ge5)) 1 (some ge5)) 2 (some ge5)) 3 (some ge5))))))), (h2, .inl (k1, 5, .inl (upd (upd (upd (upd (upd (fun _ => 0) 0 0) 1 l2) 2 l3) 3 l4) 4 l5)))]) (w1 := [(q102, .inr (1, [.ref q103, .int 0, .int 0, .int 1])), (q103, .inl (cq104, 16, .inl f105)), (q106, .inr (0, [.ref q107, .int 0, .int 0, .int 0])), (q107, .inl (cq108, 1, .inl f109))]) hP hD [3, 4] [0, 1, 2] rfl rfl (by decide) (by decide) hk1 hFc hP1 hD1
    have hK := hK.app (hK1.sub (tys' := [(cq108, .byte)]) [1] rfl)
    generalize H1 = H at hP hS ⊢
    have hK : va_K (dC, dI) vwCl [(k0, .object "java/lang/String"), (k1, .int), (cq104, .byte), (cq108, .byte)] s := hK
    have hP : va_P (dC, dI) vwCl [(h0, .inr (9, [.int 0, .ref h1, .ref z0, .ref z1, .int 0, .int 0, .int 0])), (h1, .inl (k0, 4, .inr (.inr (.inr (.inr (va_up (va_up (va_up (va_up (fun _ => none) 0 (some ge5)) 1 (some ge5)) 2 (some ge5)) 3 (some ge5))))))), (h2, .inl (k1, 5, .inl (upd (upd (upd (upd (upd (fun _ => 0) 0 0) 1 l2) 2 l3) 3 l4) 4 l5))), (q102, .inr (1, [.ref q103, .int 0, .int 0, .int 1])), (q103, .inl (cq104, 16, .inl f105)), (q106, .inr (0, [.ref q107, .int 0, .int 0, .int 0])), (q107, .inl (cq108, 1, .inl f109))] H := hP
    have hD : va_D A [(h0, .inr (9, [.int 0, .ref h1, .ref z0, .ref z1, .int 0, .int 0, .int 0])), (h1, .inl (k0, 4, .inr (.inr (.inr (.inr (va_up (va_up (va_up (va_up (fun _ => none) 0 (some ge5)) 1 (some ge5)) 2 (some ge5)) 3 (some ge5))))))), (h2, .inl (k1, 5, .inl (upd (upd (upd (upd (upd (fun _ => 0) 0 0) 1 l2) 2 l3) 3 l4) 4 l5))), (q102, .inr (1, [.ref q103, .int 0, .int 0, .int 1])), (q103, .inl (cq104, 16, .inl f105)), (q106, .inr (0, [.ref q107, .int 0, .int 0, .int 0])), (q107, .inl (cq108, 1, .inl f109))] := hD
    refine W.widen (k := 5) (n := 30) (by omega) (by omega) ?_
    refine lv_astore (lv' := [(9, .ref q106), (8, .int 0), (13, .int 0), (0, .ref h0), (1, .int rp), (7, .ref h2), (10, .ref h2), (11, .int 5), (12, .int 0)]) hx hb dX5_type_116 hl (by decide) rfl (fun ls hl => ?_)
    refine lv_iinc (v := 1) (lv' := [(12, .int 1), (9, .ref q106), (8, .int 0), (13, .int 0), (0, .ref h0), (1, .int rp), (7, .ref h2), (10, .ref h2), (11, .int 5)]) hx hb dX5_type_118 hl (k := 8) rfl (by decide) (by decide) rfl (fun ls hl => ?_)
    refine lv_goto (tgt := 47) hx hb dX5_type_121 (by decide) ?_
    have hP := hP.sub (ws' := [(h0, .inr (9, [.int 0, .ref h1, .ref z0, .ref z1, .int 0, .int 0, .int 0])), (h1, .inl (k0, 4, .inr (.inr (.inr (.inr (va_up (va_up (va_up (va_up (fun _ => none) 0 (some ge5)) 1 (some ge5)) 2 (some ge5)) 3 (some ge5))))))), (h2, .inl (k1, 5, .inl (upd (upd (upd (upd (upd (fun _ => 0) 0 0) 1 l2) 2 l3) 3 l4) 4 l5))), (q106, .inr (0, [.ref q107, .int 0, .int 0, .int 0])), (q107, .inl (cq108, 1, .inl f109))]) [0, 1, 2, 5, 6] rfl
    have hD := hD.sub (ws' := [(h0, .inr (9, [.int 0, .ref h1, .ref z0, .ref z1, .int 0, .int 0, .int 0])), (h1, .inl (k0, 4, .inr (.inr (.inr (.inr (va_up (va_up (va_up (va_up (fun _ => none) 0 (some ge5)) 1 (some ge5)) 2 (some ge5)) 3 (some ge5))))))), (h2, .inl (k1, 5, .inl (upd (upd (upd (upd (upd (fun _ => 0) 0 0) 1 l2) 2 l3) 3 l4) 4 l5))), (q106, .inr (0, [.ref q107, .int 0, .int 0, .int 0])), (q107, .inl (cq108, 1, .inl f109))]) [0, 1, 2, 5, 6] (by decide) rfl
    have hK := hK.sub (tys' := [(k0, .object "java/lang/String"), (k1, .int), (cq108, .byte)]) [0, 1, 3] rfl
    have hl := lv_sub hl [4, 5, 6, 2, 1, 7, 8, 0] (show lv_pick [(12, .int 1), (9, .ref q106), (8, .int 0), (13, .int 0), (0, .ref h0), (1, .int rp), (7, .ref h2), (10, .ref h2), (11, .int 5)] [4, 5, 6, 2, 1, 7, 8, 0] = [(0, .ref h0), (1, .int rp), (7, .ref h2), (8, .int 0), (9, .ref q106), (10, .ref h2), (11, .int 5), (12, .int 1)] from rfl)
    exact kx_X5_type_h110 f109_t hR hx hb hr hml hown hts hlocks hA hG hS hK hP hD hl
  · have hR : kz_ty rp 1 0 [l2, l3, l4, l5] = (R, v) := (kz_ty_g (by decide) (by decide)).symm.trans hR
    refine lv_iload hx hb dX5_type_47 (lv_at hl 7 rfl) ?_
    refine lv_iload hx hb dX5_type_49 (lv_at hl 6 rfl) ?_
    refine lv_icmp_ge (tgt := 124) hx hb dX5_type_51 (by decide) (fun c9 => absurd c9 (by decide)) (fun _ => ?_)
    refine lv_aload hx hb dX5_type_54 (lv_at hl 5 rfl) ?_
    refine lv_iload hx hb dX5_type_56 (lv_at hl 7 rfl) ?_
    refine va_iald (D := (dC, dI)) hx hb hK hP 2 1 rfl rfl (by unfold vp_in; decide) dX5_type_58 ?_
    refine W.eq (g2 := F0 m 59 ls [.int 1]) rfl ?_
    refine lv_istore (lv' := [(13, .int 1), (0, .ref h0), (1, .int rp), (7, .ref h2), (8, .int 0), (9, .ref ge5), (10, .ref h2), (11, .int 5), (12, .int 0)]) hx hb dX5_type_59 hl (by decide) rfl (fun ls hl => ?_)
    refine lv_iload hx hb dX5_type_61 (lv_at hl 4 rfl) ?_
    refine lv_iload hx hb dX5_type_63 (lv_at hl 0 rfl) ?_
    refine lv_iconst (v := (-1)) hx hb dX5_type_65 (by decide) ?_
    refine lv_iconst (v := 3) hx hb dX5_type_66 (by decide) ?_
    have hPc := hP.sub (ws' := []) [] rfl
    have hDc := hD.sub (ws' := []) [] (by decide) rfl
    have hKc := hK.sub (tys' := []) [] rfl
    have hFc := va_free (wc := []) hD hS hA [] rfl
    refine va_calli (va_runS (As := [.int 1, .int (-1), .int 3]) (rest := [.int 0]) ⟨hx, hb, hml, hown, hts⟩ (kx_X5_isIn_9 l dC dI H.size) (cwS 3 hts gX5_type_X5_isIn rfl rfl rfl (by decide +kernel) ⟨Nat.le_of_ble_eq_true rfl, Nat.le_of_ble_eq_true rfl⟩) ⟨fun a U g mk q => by obtain ⟨q0, q1, qP, qK, qD⟩ := q; exact ⟨q0, q1, qP, va_K.moved (u := U) (U := U.calling g mk a) (Vm.Alike.refl U.vm) qK, qD⟩, fun U hU hW => ⟨rfl, by rw [hU], by rw [hU]; exact hPc, va_K.moved hW.alike hKc, hDc.weaken (fun _ _ _ _ => trivial)⟩⟩ rfl rfl hl.1 rfl (lv_room (Nat.le_of_ble_eq_true rfl)) dX5_type_67 ⟨Nat.le_of_ble_eq_true rfl, Nat.le_of_ble_eq_true rfl⟩) hS (fun q _ h => hFc q h) hFc (fun r9 u t H1 locs ht hvm hw hB hz1 hk1 hS => ?_)
    obtain rfl := hw
    obtain ⟨hP1, hK1, hD1⟩ := hB
    rw [ht] at hP1
    have hK1 := va_K.moved hvm.symm hK1
    obtain ⟨hP, hD⟩ := va_join (wr := [(h0, .inr (9, [.int 0, .ref h1, .ref z0, .ref z1, .int 0, .int 0, .int 0])), (h1, .inl (k0, 4, .inr (.inr (.inr (.inr (va_up (va_up (va_up (va_up (fun _ => none) 0 (some ge5)) 1 (some ge5)) 2 (some ge5)) 3 (some ge5))))))), (h2, .inl (k1, 5, .inl (upd (upd (upd (upd (upd (fun _ => 0) 0 1) 1 l2) 2 l3) 3 l4) 4 l5)))]) (w1 := []) hP hD [] [0, 1, 2] rfl rfl (by decide) (by decide) hk1 hFc hP1 hD1
    generalize H1 = H at hP hS ⊢
    have hP : va_P (dC, dI) vwCl [(h0, .inr (9, [.int 0, .ref h1, .ref z0, .ref z1, .int 0, .int 0, .int 0])), (h1, .inl (k0, 4, .inr (.inr (.inr (.inr (va_up (va_up (va_up (va_up (fun _ => none) 0 (some ge5)) 1 (some ge5)) 2 (some ge5)) 3 (some ge5))))))), (h2, .inl (k1, 5, .inl (upd (upd (upd (upd (upd (fun _ => 0) 0 1) 1 l2) 2 l3) 3 l4) 4 l5)))] H := hP
    have hD : va_D A [(h0, .inr (9, [.int 0, .ref h1, .ref z0, .ref z1, .int 0, .int 0, .int 0])), (h1, .inl (k0, 4, .inr (.inr (.inr (.inr (va_up (va_up (va_up (va_up (fun _ => none) 0 (some ge5)) 1 (some ge5)) 2 (some ge5)) 3 (some ge5))))))), (h2, .inl (k1, 5, .inl (upd (upd (upd (upd (upd (fun _ => 0) 0 1) 1 l2) 2 l3) 3 l4) 4 l5)))] := hD
    refine lv_if_ne (tgt := 77) hx hb dX5_type_70 (by decide) (fun _ => ?_) (fun c9 => absurd c9 (by decide))
    refine lv_iconst (v := 0) hx hb dX5_type_77 (by decide) ?_
    refine lv_ior hx hb dX5_type_78 ?_
    refine lv_topi (fun y101 ey101 => ?_)
    obtain rfl : y101 = 0 := ey101.trans (by decide)
    refine lv_istore (lv' := [(8, .int 0), (13, .int 1), (0, .ref h0), (1, .int rp), (7, .ref h2), (9, .ref ge5), (10, .ref h2), (11, .int 5), (12, .int 0)]) hx hb dX5_type_79 hl (by decide) rfl (fun ls hl => ?_)
    refine lv_iload hx hb dX5_type_81 (lv_at hl 1 rfl) ?_
    refine lv_iconst (v := 0) hx hb dX5_type_83 (by decide) ?_
    refine lv_iconst (v := 3) hx hb dX5_type_84 (by decide) ?_
    have hPc := hP.sub (ws' := []) [] rfl
    have hDc := hD.sub (ws' := []) [] (by decide) rfl
    have hKc := hK.sub (tys' := []) [] rfl
    have hFc := va_free (wc := []) hD hS hA [] rfl
    refine va_calli (va_runS (As := [.int 1, .int 0, .int 3]) (rest := []) ⟨hx, hb, hml, hown, hts⟩ (kx_X5_isIn_10 l dC dI H.size) (cwS 3 hts gX5_type_X5_isIn rfl rfl rfl (by decide +kernel) ⟨Nat.le_of_ble_eq_true rfl, Nat.le_of_ble_eq_true rfl⟩) ⟨fun a U g mk q => by obtain ⟨q0, q1, qP, qK, qD⟩ := q; exact ⟨q0, q1, qP, va_K.moved (u := U) (U := U.calling g mk a) (Vm.Alike.refl U.vm) qK, qD⟩, fun U hU hW => ⟨rfl, by rw [hU], by rw [hU]; exact hPc, va_K.moved hW.alike hKc, hDc.weaken (fun _ _ _ _ => trivial)⟩⟩ rfl rfl hl.1 rfl (lv_room (Nat.le_of_ble_eq_true rfl)) dX5_type_85 ⟨Nat.le_of_ble_eq_true rfl, Nat.le_of_ble_eq_true rfl⟩) hS (fun q _ h => hFc q h) hFc (fun r9 u t H1 locs ht hvm hw hB hz1 hk1 hS => ?_)
    obtain rfl := hw
    obtain ⟨hP1, hK1, hD1⟩ := hB
    rw [ht] at hP1
    have hK1 := va_K.moved hvm.symm hK1
    obtain ⟨hP, hD⟩ := va_join (wr := [(h0, .inr (9, [.int 0, .ref h1, .ref z0, .ref z1, .int 0, .int 0, .int 0])), (h1, .inl (k0, 4, .inr (.inr (.inr (.inr (va_up (va_up (va_up (va_up (fun _ => none) 0 (some ge5)) 1 (some ge5)) 2 (some ge5)) 3 (some ge5))))))), (h2, .inl (k1, 5, .inl (upd (upd (upd (upd (upd (fun _ => 0) 0 1) 1 l2) 2 l3) 3 l4) 4 l5)))]) (w1 := []) hP hD [] [0, 1, 2] rfl rfl (by decide) (by decide) hk1 hFc hP1 hD1
    generalize H1 = H at hP hS ⊢
    have hP : va_P (dC, dI) vwCl [(h0, .inr (9, [.int 0, .ref h1, .ref z0, .ref z1, .int 0, .int 0, .int 0])), (h1, .inl (k0, 4, .inr (.inr (.inr (.inr (va_up (va_up (va_up (va_up (fun _ => none) 0 (some ge5)) 1 (some ge5)) 2 (some ge5)) 3 (some ge5))))))), (h2, .inl (k1, 5, .inl (upd (upd (upd (upd (upd (fun _ => 0) 0 1) 1 l2) 2 l3) 3 l4) 4 l5)))] H := hP
    have hD : va_D A [(h0, .inr (9, [.int 0, .ref h1, .ref z0, .ref z1, .int 0, .int 0, .int 0])), (h1, .inl (k0, 4, .inr (.inr (.inr (.inr (va_up (va_up (va_up (va_up (fun _ => none) 0 (some ge5)) 1 (some ge5)) 2 (some ge5)) 3 (some ge5))))))), (h2, .inl (k1, 5, .inl (upd (upd (upd (upd (upd (fun _ => 0) 0 1) 1 l2) 2 l3) 3 l4) 4 l5)))] := hD
    refine lv_if_eq (tgt := 118) hx hb dX5_type_88 (by decide) (fun c9 => absurd c9 (by decide)) (fun _ => ?_)
    refine va_new (ci := 1) (fs := [.null, .int 0, .int 0, .int 0]) (C := RJ4) (T := TJ4) (N := 4) hx hb hts (by decide +kernel) tyJ4 tyJ4_ok hown (hts (.classLink RX5 49 RJ4) (by decide +kernel)) (hts (.instantiable RJ4 4) (by decide +kernel)) (hts (.initialized RJ4) (by decide +kernel)) hK hP hD hS hA rfl (fun j hj => by rcases (show j = 0 ∨ j = 1 ∨ j = 2 ∨ j = 3 by omega) with rfl | rfl | rfl | rfl <;> rfl) (Nat.le_of_ble_eq_true rfl) (Nat.le_of_ble_eq_true rfl) dX5_type_91 (fun q102 H hP hD hS => ?_)
    have hP : va_P (dC, dI) vwCl [(h0, .inr (9, [.int 0, .ref h1, .ref z0, .ref z1, .int 0, .int 0, .int 0])), (h1, .inl (k0, 4, .inr (.inr (.inr (.inr (va_up (va_up (va_up (va_up (fun _ => none) 0 (some ge5)) 1 (some ge5)) 2 (some ge5)) 3 (some ge5))))))), (h2, .inl (k1, 5, .inl (upd (upd (upd (upd (upd (fun _ => 0) 0 1) 1 l2) 2 l3) 3 l4) 4 l5))), (q102, .inr (1, [.null, .int 0, .int 0, .int 0]))] H := hP
    have hD : va_D A [(h0, .inr (9, [.int 0, .ref h1, .ref z0, .ref z1, .int 0, .int 0, .int 0])), (h1, .inl (k0, 4, .inr (.inr (.inr (.inr (va_up (va_up (va_up (va_up (fun _ => none) 0 (some ge5)) 1 (some ge5)) 2 (some ge5)) 3 (some ge5))))))), (h2, .inl (k1, 5, .inl (upd (upd (upd (upd (upd (fun _ => 0) 0 1) 1 l2) 2 l3) 3 l4) 4 l5))), (q102, .inr (1, [.null, .int 0, .int 0, .int 0]))] := hD
    refine W.widen (k := 2) (n := 9) (by omega) (by omega) ?_
    refine lv_dup hx hb dX5_type_94 rfl ?_
    have hPc := hP.sub (ws' := [(q102, .inr (1, [.null, .int 0, .int 0, .int 0]))]) [3] rfl
    have hDc := hD.sub (ws' := [(q102, .inr (1, [.null, .int 0, .int 0, .int 0]))]) [3] (by decide) rfl
    have hKc := hK.sub (tys' := []) [] rfl
    have hFc := va_free (wc := [(q102, .inr (1, [.null, .int 0, .int 0, .int 0]))]) hD hS hA [3] rfl
    refine va_callv (va_runI (As := []) (rest := [.ref q102]) ⟨hx, hb, hml, hown, hts⟩ (kx_J4_init_da8c8_0 l dC dI ge5 gea gv5 gva gde gic gi0 q102 H.size) (cwI 0 hts gX5_type_J4_init_da8c8 rfl rfl rfl (hts (.initialized RJ4) (by decide +kernel)) (hts (.methodLink RX5 51 yJ4_init_da8c8) (by decide +kernel)) (hts (.instanceMethod yJ4_init_da8c8) (by decide +kernel)) rfl (by decide +kernel) ⟨Nat.le_of_ble_eq_true rfl, Nat.le_of_ble_eq_true rfl⟩) ⟨fun a U g mk q => by obtain ⟨q0, q1, qP, qK, qD, qG⟩ := q; exact ⟨q0, q1, qP, va_K.moved (u := U) (U := U.calling g mk a) (Vm.Alike.refl U.vm) qK, qD, gv.fb qG⟩, fun U hU hW => ⟨rfl, by rw [hU], by rw [hU]; exact hPc, va_K.moved hW.alike hKc, hDc.weaken (fun _ _ _ _ => trivial), gv.pass hW hU hS hFc hG⟩⟩ rfl rfl hl.1 rfl (lv_room (Nat.le_of_ble_eq_true rfl)) dX5_type_95 ⟨Nat.le_of_ble_eq_true rfl, Nat.le_of_ble_eq_true rfl⟩) hS (fun q _ h => hFc q h) hFc (fun u t H1 locs ht hvm hw hB hz1 hk1 hS => ?_)
    obtain ⟨q103, cq104, hP1, hK1, hD1⟩ := hB
    rw [ht] at hP1
    have hK1 := va_K.moved hvm.symm hK1
    obtain ⟨hP, hD⟩ := va_join (wr := [(h0, .inr (9, [.int 0, .ref h1, .ref z0, .ref z1, .int 0, .int 0, .int 0])), (h1, .inl (k0, 4, .inr (.inr (.inr (.inr (va_up (va_up (va_up (va_up (fun _ => none) 0 (some ge5)) 1 (some ge5)) 2 (some ge5)) 3 (some ge5))))))), (h2, .inl (k1, 5, .inl (upd (upd (upd (upd (upd (fun _ => 0) 0 1) 1 l2) 2 l3) 3 l4) 4 l5)))]) (w1 := [(q102, .inr (1, [.ref q103, .int 0, .int 0, .int 0])), (q103, .inl (cq104, 16, .inl (fun _ => 0)))]) hP hD [3] [0, 1, 2] rfl rfl (by decide) (by decide) hk1 hFc hP1 hD1
    have hK := hK.app (hK1.sub (tys' := [(cq104, .byte)]) [0] rfl)
    generalize H1 = H at hP hS ⊢
    have hK : va_K (dC, dI) vwCl [(k0, .object "java/lang/String"), (k1, .int), (cq104, .byte)] s := hK
    have hP : va_P (dC, dI) vwCl [(h0, .inr (9, [.int 0, .ref h1, .ref z0, .ref z1, .int 0, .int 0, .int 0])), (h1, .inl (k0, 4, .inr (.inr (.inr (.inr (va_up (va_up (va_up (va_up (fun _ => none) 0 (some ge5)) 1 (some ge5)) 2 (some ge5)) 3 (some ge5))))))), (h2, .inl (k1, 5, .inl (upd (upd (upd (upd (upd (fun _ => 0) 0 1) 1 l2) 2 l3) 3 l4) 4 l5))), (q102, .inr (1, [.ref q103, .int 0, .int 0, .int 0])), (q103, .inl (cq104, 16, .inl (fun _ => 0)))] H := hP
    have hD : va_D A [(h0, .inr (9, [.int 0, .ref h1, .ref z0, .ref z1, .int 0, .int 0, .int 0])), (h1, .inl (k0, 4, .inr (.inr (.inr (.inr (va_up (va_up (va_up (va_up (fun _ => none) 0 (some ge5)) 1 (some ge5)) 2 (some ge5)) 3 (some ge5))))))), (h2, .inl (k1, 5, .inl (upd (upd (upd (upd (upd (fun _ => 0) 0 1) 1 l2) 2 l3) 3 l4) 4 l5))), (q102, .inr (1, [.ref q103, .int 0, .int 0, .int 0])), (q103, .inl (cq104, 16, .inl (fun _ => 0)))] := hD
    refine W.widen (k := 3) (n := 25) (by omega) (by omega) ?_
    refine lv_aload hx hb dX5_type_98 (lv_at hl 5 rfl) ?_
    have hPc := hP.sub (ws' := [(q102, .inr (1, [.ref q103, .int 0, .int 0, .int 0])), (q103, .inl (cq104, 16, .inl (fun _ => 0)))]) [3, 4] rfl
    have hDc := hD.sub (ws' := [(q102, .inr (1, [.ref q103, .int 0, .int 0, .int 0])), (q103, .inl (cq104, 16, .inl (fun _ => 0)))]) [3, 4] (by decide) rfl
    have hKc := hK.sub (tys' := [(cq104, .byte)]) [2] rfl
    have hFc := va_free (wc := [(q102, .inr (1, [.ref q103, .int 0, .int 0, .int 0])), (q103, .inl (cq104, 16, .inl (fun _ => 0)))]) hD hS hA [3, 4] rfl
    refine va_callr (va_runV (As := [.ref ge5]) (rest := []) ⟨hx, hb, hml, hown, hts⟩ (kx_J4_append_15ec4_0 l dC dI ge5 gea gv5 gva gde gic gi0 q102 q103 cq104 H.size) (cwV 1 hts gX5_type_J4_append_15ec4 rfl rfl rfl (by decide +kernel) ⟨Nat.le_of_ble_eq_true rfl, Nat.le_of_ble_eq_true rfl⟩) ⟨fun a U g mk q => by obtain ⟨q0, q1, qP, qK, qD, qG⟩ := q; exact ⟨q0, q1, qP, va_K.moved (u := U) (U := U.calling g mk a) (Vm.Alike.refl U.vm) qK, qD, gv.fb qG⟩, va_recv hKc hPc (ci := 1) (q0 := 0) rfl rfl, fun U hU hW => ⟨rfl, by rw [hU], by rw [hU]; exact hPc, va_K.moved hW.alike hKc, hDc.weaken (fun _ _ _ _ => trivial), gv.pass hW hU hS hFc hG⟩⟩ rfl rfl hl.1 rfl (lv_room (Nat.le_of_ble_eq_true rfl)) dX5_type_100 ⟨Nat.le_of_ble_eq_true rfl, Nat.le_of_ble_eq_true rfl⟩) hS (fun q _ h => hFc q h) hFc (fun u ra t H1 locs ht hvm hw hB hz1 hk1 hS => ?_)
    obtain ⟨hra, hP1, hK1, hD1⟩ := hB
    rw [hra]
    rw [ht] at hP1
    have hK1 := va_K.moved hvm.symm hK1
    obtain ⟨hP, hD⟩ := va_join (wr := [(h0, .inr (9, [.int 0, .ref h1, .ref z0, .ref z1, .int 0, .int 0, .int 0])), (h1, .inl (k0, 4, .inr (.inr (.inr (.inr (va_up (va_up (va_up (va_up (fun _ => none) 0 (some ge5)) 1 (some ge5)) 2 (some ge5)) 3 (some ge5))))))), (h2, .inl (k1, 5, .inl (upd (upd (upd (upd (upd (fun _ => 0) 0 1) 1 l2) 2 l3) 3 l4) 4 l5)))]) (w1 := [(q102, .inr (1, [.ref q103, .int 0, .int 0, .int 0])), (q103, .inl (cq104, 16, .inl (fun _ => 0)))]) hP hD [3, 4] [0, 1, 2] rfl rfl (by decide) (by decide) hk1 hFc hP1 hD1
    generalize H1 = H at hP hS ⊢
    have hP : va_P (dC, dI) vwCl [(h0, .inr (9, [.int 0, .ref h1, .ref z0, .ref z1, .int 0, .int 0, .int 0])), (h1, .inl (k0, 4, .inr (.inr (.inr (.inr (va_up (va_up (va_up (va_up (fun _ => none) 0 (some ge5)) 1 (some ge5)) 2 (some ge5)) 3 (some ge5))))))), (h2, .inl (k1, 5, .inl (upd (upd (upd (upd (upd (fun _ => 0) 0 1) 1 l2) 2 l3) 3 l4) 4 l5))), (q102, .inr (1, [.ref q103, .int 0, .int 0, .int 0])), (q103, .inl (cq104, 16, .inl (fun _ => 0)))] H := hP
    have hD : va_D A [(h0, .inr (9, [.int 0, .ref h1, .ref z0, .ref z1, .int 0, .int 0, .int 0])), (h1, .inl (k0, 4, .inr (.inr (.inr (.inr (va_up (va_up (va_up (va_up (fun _ => none) 0 (some ge5)) 1 (some ge5)) 2 (some ge5)) 3 (some ge5))))))), (h2, .inl (k1, 5, .inl (upd (upd (upd (upd (upd (fun _ => 0) 0 1) 1 l2) 2 l3) 3 l4) 4 l5))), (q102, .inr (1, [.ref q103, .int 0, .int 0, .int 0])), (q103, .inl (cq104, 16, .inl (fun _ => 0)))] := hD
    refine va_ldcS hx hb hown g_sa dX5_type_103 ?_
    refine lv_iload hx hb dX5_type_105 (lv_at hl 1 rfl) ?_
    have hPc := hP.sub (ws' := []) [] rfl
    have hDc := hD.sub (ws' := []) [] (by decide) rfl
    have hKc := hK.sub (tys' := []) [] rfl
    have hFc := va_free (wc := []) hD hS hA [] rfl
    refine va_calli (va_runV (As := [.int 1]) (rest := [.ref q102]) ⟨hx, hb, hml, hown, hts⟩ (kx_J0_charAt_5068e_1 l dC dI ge5 gea gv5 gva gde gic gi0 H.size) (cwV 1 hts gX5_type_J0_charAt_5068e rfl rfl rfl (by decide +kernel) ⟨Nat.le_of_ble_eq_true rfl, Nat.le_of_ble_eq_true rfl⟩) ⟨fun a U g mk q => by obtain ⟨q0, q1, qP, qK, qD, qG⟩ := q; exact ⟨q0, q1, qP, va_K.moved (u := U) (U := U.calling g mk a) (Vm.Alike.refl U.vm) qK, qD, gv.fb qG⟩, (by obtain ⟨cell, k1, k2, k3, -⟩ := g_oa.kept hS.2.1; exact ⟨cell, k1, k2, k3⟩), fun U hU hW => ⟨rfl, by rw [hU], by rw [hU]; exact hPc, va_K.moved hW.alike hKc, hDc.weaken (fun _ _ _ _ => trivial), gv.pass hW hU hS hFc hG⟩⟩ rfl rfl hl.1 rfl (lv_room (Nat.le_of_ble_eq_true rfl)) dX5_type_107 ⟨Nat.le_of_ble_eq_true rfl, Nat.le_of_ble_eq_true rfl⟩) hS (fun q _ h => hFc q h) hFc (fun r9 u t H1 locs ht hvm hw hB hz1 hk1 hS => ?_)
    obtain rfl := hw
    obtain ⟨hP1, hK1, hD1⟩ := hB
    rw [ht] at hP1
    have hK1 := va_K.moved hvm.symm hK1
    obtain ⟨hP, hD⟩ := va_join (wr := [(h0, .inr (9, [.int 0, .ref h1, .ref z0, .ref z1, .int 0, .int 0, .int 0])), (h1, .inl (k0, 4, .inr (.inr (.inr (.inr (va_up (va_up (va_up (va_up (fun _ => none) 0 (some ge5)) 1 (some ge5)) 2 (some ge5)) 3 (some ge5))))))), (h2, .inl (k1, 5, .inl (upd (upd (upd (upd (upd (fun _ => 0) 0 1) 1 l2) 2 l3) 3 l4) 4 l5))), (q102, .inr (1, [.ref q103, .int 0, .int 0, .int 0])), (q103, .inl (cq104, 16, .inl (fun _ => 0)))]) (w1 := []) hP hD [] [0, 1, 2, 3, 4] rfl rfl (by decide) (by decide) hk1 hFc hP1 hD1
    generalize H1 = H at hP hS ⊢
    have hP : va_P (dC, dI) vwCl [(h0, .inr (9, [.int 0, .ref h1, .ref z0, .ref z1, .int 0, .int 0, .int 0])), (h1, .inl (k0, 4, .inr (.inr (.inr (.inr (va_up (va_up (va_up (va_up (fun _ => none) 0 (some ge5)) 1 (some ge5)) 2 (some ge5)) 3 (some ge5))))))), (h2, .inl (k1, 5, .inl (upd (upd (upd (upd (upd (fun _ => 0) 0 1) 1 l2) 2 l3) 3 l4) 4 l5))), (q102, .inr (1, [.ref q103, .int 0, .int 0, .int 0])), (q103, .inl (cq104, 16, .inl (fun _ => 0)))] H := hP
    have hD : va_D A [(h0, .inr (9, [.int 0, .ref h1, .ref z0, .ref z1, .int 0, .int 0, .int 0])), (h1, .inl (k0, 4, .inr (.inr (.inr (.inr (va_up (va_up (va_up (va_up (fun _ => none) 0 (some ge5)) 1 (some ge5)) 2 (some ge5)) 3 (some ge5))))))), (h2, .inl (k1, 5, .inl (upd (upd (upd (upd (upd (fun _ => 0) 0 1) 1 l2) 2 l3) 3 l4) 4 l5))), (q102, .inr (1, [.ref q103, .int 0, .int 0, .int 0])), (q103, .inl (cq104, 16, .inl (fun _ => 0)))] := hD
    have hPc := hP.sub (ws' := [(q102, .inr (1, [.ref q103, .int 0, .int 0, .int 0])), (q103, .inl (cq104, 16, .inl (fun _ => 0)))]) [3, 4] rfl
    have hDc := hD.sub (ws' := [(q102, .inr (1, [.ref q103, .int 0, .int 0, .int 0])), (q103, .inl (cq104, 16, .inl (fun _ => 0)))]) [3, 4] (by decide) rfl
    have hKc := hK.sub (tys' := [(cq104, .byte)]) [2] rfl
    have hFc := va_free (wc := [(q102, .inr (1, [.ref q103, .int 0, .int 0, .int 0])), (q103, .inl (cq104, 16, .inl (fun _ => 0)))]) hD hS hA [3, 4] rfl
    refine va_callr (va_runV (As := [.int 98]) (rest := []) ⟨hx, hb, hml, hown, hts⟩ (kx_J4_append_cf468_1 l dC dI ge5 gea gv5 gva gde gic gi0 q102 q103 cq104 H.size) (cwV 1 hts gX5_type_J4_append_cf468 rfl rfl rfl (by decide +kernel) ⟨Nat.le_of_ble_eq_true rfl, Nat.le_of_ble_eq_true rfl⟩) ⟨fun a U g mk q => by obtain ⟨q0, q1, qP, qK, qD, qG⟩ := q; exact ⟨q0, q1, qP, va_K.moved (u := U) (U := U.calling g mk a) (Vm.Alike.refl U.vm) qK, qD, gv.fb qG⟩, va_recv hKc hPc (ci := 1) (q0 := 0) rfl rfl, fun U hU hW => ⟨rfl, by rw [hU], by rw [hU]; exact hPc, va_K.moved hW.alike hKc, hDc.weaken (fun _ _ _ _ => trivial), gv.pass hW hU hS hFc hG⟩⟩ rfl rfl hl.1 rfl (lv_room (Nat.le_of_ble_eq_true rfl)) dX5_type_110 ⟨Nat.le_of_ble_eq_true rfl, Nat.le_of_ble_eq_true rfl⟩) hS (fun q _ h => hFc q h) hFc (fun u ra t H1 locs ht hvm hw hB hz1 hk1 hS => ?_)
    obtain ⟨f105, f105_t, hra, hP1, hK1, hD1⟩ := hB
    rw [hra]
    rw [ht] at hP1
    have hK1 := va_K.moved hvm.symm hK1
    obtain ⟨hP, hD⟩ := va_join (wr := [(h0, .inr (9, [.int 0, .ref h1, .ref z0, .ref z1, .int 0, .int 0, .int 0])), (h1, .inl (k0, 4, .inr (.inr (.inr (.inr (va_up (va_up (va_up (va_up (fun _ => none) 0 (some ge5)) 1 (some ge5)) 2 (some ge5)) 3 (some ge5))))))), (h2, .inl (k1, 5, .inl (upd (upd (upd (upd (upd (fun _ => 0) 0 1) 1 l2) 2 l3) 3 l4) 4 l5)))]) (w1 := [(q102, .inr (1, [.ref q103, .int 0, .int 0, .int 1])), (q103, .inl (cq104, 16, .inl f105))]) hP hD [3, 4] [0, 1, 2] rfl rfl (by decide) (by decide) hk1 hFc hP1 hD1
    generalize H1 = H at hP hS ⊢
    have hP : va_P (dC, dI) vwCl [(h0, .inr (9, [.int 0, .ref h1, .ref z0, .ref z1, .int 0, .int 0, .int 0])), (h1, .inl (k0, 4, .inr (.inr (.inr (.inr (va_up (va_up (va_up (va_up (fun _ => none) 0 (some ge5)) 1 (some ge5)) 2 (some ge5)) 3 (some ge5))))))), (h2, .inl (k1, 5, .inl (upd (upd (upd (upd (upd (fun _ => 0) 0 1) 1 l2) 2 l3) 3 l4) 4 l5))), (q102, .inr (1, [.ref q103, .int 0, .int 0, .int 1])), (q103, .inl (cq104, 16, .inl f105))] H := hP
    have hD : va_D A [(h0, .inr (9, [.int 0, .ref h1, .ref z0, .ref z1, .int 0, .int 0, .int 0])), (h1, .inl (k0, 4, .inr (.inr (.inr (.inr (va_up (va_up (va_up (va_up (fun _ => none) 0 (some ge5)) 1 (some ge5)) 2 (some ge5)) 3 (some ge5))))))), (h2, .inl (k1, 5, .inl (upd (upd (upd (upd (upd (fun _ => 0) 0 1) 1 l2) 2 l3) 3 l4) 4 l5))), (q102, .inr (1, [.ref q103, .int 0, .int 0, .int 1])), (q103, .inl (cq104, 16, .inl f105))] := hD
    have hPc := hP.sub (ws' := [(q102, .inr (1, [.ref q103, .int 0, .int 0, .int 1])), (q103, .inl (cq104, 16, .inl f105))]) [3, 4] rfl
    have hDc := hD.sub (ws' := [(q102, .inr (1, [.ref q103, .int 0, .int 0, .int 1])), (q103, .inl (cq104, 16, .inl f105))]) [3, 4] (by decide) rfl
    have hKc := hK.sub (tys' := [(cq104, .byte)]) [2] rfl
    have hFc := va_free (wc := [(q102, .inr (1, [.ref q103, .int 0, .int 0, .int 1])), (q103, .inl (cq104, 16, .inl f105))]) hD hS hA [3, 4] rfl
    refine va_callr (va_runV (As := []) (rest := []) ⟨hx, hb, hml, hown, hts⟩ (kx_J4_toString_0e30d_1 l dC dI ge5 gea gv5 gva gde gic gi0 q102 q103 cq104 H.size f105 f105_t) (cwV 0 hts gX5_type_J4_toString_0e30d rfl rfl rfl (by decide +kernel) ⟨Nat.le_of_ble_eq_true rfl, Nat.le_of_ble_eq_true rfl⟩) ⟨fun a U g mk q => by obtain ⟨q0, q1, qP, qK, qD, qG⟩ := q; exact ⟨q0, q1, qP, va_K.moved (u := U) (U := U.calling g mk a) (Vm.Alike.refl U.vm) qK, qD, gv.fb qG⟩, va_recv hKc hPc (ci := 1) (q0 := 0) rfl rfl, fun U hU hW => ⟨rfl, by rw [hU], by rw [hU]; exact hPc, va_K.moved hW.alike hKc, hDc.weaken (fun _ _ _ _ => trivial), gv.pass hW hU hS hFc hG⟩⟩ rfl rfl hl.1 rfl (lv_room (Nat.le_of_ble_eq_true rfl)) dX5_type_113 ⟨Nat.le_of_ble_eq_true rfl, Nat.le_of_ble_eq_true rfl⟩) hS (fun q _ h => hFc q h) hFc (fun u ra t H1 locs ht hvm hw hB hz1 hk1 hS => ?_)
    obtain ⟨q106, q107, cq108, f109, f109_t, hra, hP1, hK1, hD1⟩ := hB
    rw [hra]
    rw [ht] at hP1
    have hK1 := va_K.moved hvm.symm hK1
    obtain ⟨hP, hD⟩ := va_join (wr := [(h0, .inr (9, [.int 0, .ref h1, .ref z0, .ref z1, .int 0, .int 0, .int 0])), (h1, .inl (k0, 4, .inr (.inr (.inr (.inr (va_up (va_up (va_up (va_up (fun _ => none) 0 (some ge5)) 1 (some ge5)) 2 (some ge5)) 3 (some ge5))))))), (h2, .inl (k1, 5, .inl (upd (upd (upd (upd (upd (fun _ => 0) 0 1) 1 l2) 2 l3) 3 l4) 4 l5)))]) (w1 := [(q102, .inr (1, [.ref q103, .int 0, .int 0, .int 1])), (q103, .inl (cq104, 16, .inl f105)), (q106, .inr (0, [.ref q107, .int 0, .int 0, .int 0])), (q107, .inl (cq108, 1, .inl f109))]) hP hD [3, 4] [0, 1, 2] rfl rfl (by decide) (by decide) hk1 hFc hP1 hD1
    have hK := hK.app (hK1.sub (tys' := [(cq108, .byte)]) [1] rfl)
    generalize H1 = H at hP hS ⊢
    have hK : va_K (dC, dI) vwCl [(k0, .object "java/lang/String"), (k1, .int), (cq104, .byte), (cq108, .byte)] s := hK
    have hP : va_P (dC, dI) vwCl [(h0, .inr (9, [.int 0, .ref h1, .ref z0, .ref z1, .int 0, .int 0, .int 0])), (h1, .inl (k0, 4, .inr (.inr (.inr (.inr (va_up (va_up (va_up (va_up (fun _ => none) 0 (some ge5)) 1 (some ge5)) 2 (some ge5)) 3 (some ge5))))))), (h2, .inl (k1, 5, .inl (upd (upd (upd (upd (upd (fun _ => 0) 0 1) 1 l2) 2 l3) 3 l4) 4 l5))), (q102, .inr (1, [.ref q103, .int 0, .int 0, .int 1])), (q103, .inl (cq104, 16, .inl f105)), (q106, .inr (0, [.ref q107, .int 0, .int 0, .int 0])), (q107, .inl (cq108, 1, .inl f109))] H := hP
    have hD : va_D A [(h0, .inr (9, [.int 0, .ref h1, .ref z0, .ref z1, .int 0, .int 0, .int 0])), (h1, .inl (k0, 4, .inr (.inr (.inr (.inr (va_up (va_up (va_up (va_up (fun _ => none) 0 (some ge5)) 1 (some ge5)) 2 (some ge5)) 3 (some ge5))))))), (h2, .inl (k1, 5, .inl (upd (upd (upd (upd (upd (fun _ => 0) 0 1) 1 l2) 2 l3) 3 l4) 4 l5))), (q102, .inr (1, [.ref q103, .int 0, .int 0, .int 1])), (q103, .inl (cq104, 16, .inl f105)), (q106, .inr (0, [.ref q107, .int 0, .int 0, .int 0])), (q107, .inl (cq108, 1, .inl f109))] := hD
    refine W.widen (k := 5) (n := 30) (by omega) (by omega) ?_
    refine lv_astore (lv' := [(9, .ref q106), (8, .int 0), (13, .int 1), (0, .ref h0), (1, .int rp), (7, .ref h2), (10, .ref h2), (11, .int 5), (12, .int 0)]) hx hb dX5_type_116 hl (by decide) rfl (fun ls hl => ?_)
    refine lv_iinc (v := 1) (lv' := [(12, .int 1), (9, .ref q106), (8, .int 0), (13, .int 1), (0, .ref h0), (1, .int rp), (7, .ref h2), (10, .ref h2), (11, .int 5)]) hx hb dX5_type_118 hl (k := 8) rfl (by decide) (by decide) rfl (fun ls hl => ?_)
    refine lv_goto (tgt := 47) hx hb dX5_type_121 (by decide) ?_
    have hP := hP.sub (ws' := [(h0, .inr (9, [.int 0, .ref h1, .ref z0, .ref z1, .int 0, .int 0, .int 0])), (h1, .inl (k0, 4, .inr (.inr (.inr (.inr (va_up (va_up (va_up (va_up (fun _ => none) 0 (some ge5)) 1 (some ge5)) 2 (some ge5)) 3 (some ge5))))))), (h2, .inl (k1, 5, .inl (upd (upd (upd (upd (upd (fun _ => 0) 0 1) 1 l2) 2 l3) 3 l4) 4 l5))), (q106, .inr (0, [.ref q107, .int 0, .int 0, .int 0])), (q107, .inl (cq108, 1, .inl f109))]) [0, 1, 2, 5, 6] rfl
    have hD := hD.sub (ws' := [(h0, .inr (9, [.int 0, .ref h1, .ref z0, .ref z1, .int 0, .int 0, .int 0])), (h1, .inl (k0, 4, .inr (.inr (.inr (.inr (va_up (va_up (va_up (va_up (fun _ => none) 0 (some ge5)) 1 (some ge5)) 2 (some ge5)) 3 (some ge5))))))), (h2, .inl (k1, 5, .inl (upd (upd (upd (upd (upd (fun _ => 0) 0 1) 1 l2) 2 l3) 3 l4) 4 l5))), (q106, .inr (0, [.ref q107, .int 0, .int 0, .int 0])), (q107, .inl (cq108, 1, .inl f109))]) [0, 1, 2, 5, 6] (by decide) rfl
    have hK := hK.sub (tys' := [(k0, .object "java/lang/String"), (k1, .int), (cq108, .byte)]) [0, 1, 3] rfl
    have hl := lv_sub hl [4, 5, 6, 2, 1, 7, 8, 0] (show lv_pick [(12, .int 1), (9, .ref q106), (8, .int 0), (13, .int 1), (0, .ref h0), (1, .int rp), (7, .ref h2), (10, .ref h2), (11, .int 5)] [4, 5, 6, 2, 1, 7, 8, 0] = [(0, .ref h0), (1, .int rp), (7, .ref h2), (8, .int 0), (9, .ref q106), (10, .ref h2), (11, .int 5), (12, .int 1)] from rfl)
    exact kx_X5_type_h110 f109_t hR hx hb hr hml hown hts hlocks hA hG hS hK hP hD hl
  · have hR : kz_ty rp 1 0 [l2, l3, l4, l5] = (R, v) := (kz_ty_g (by decide) (by decide)).symm.trans hR
    refine lv_iload hx hb dX5_type_47 (lv_at hl 7 rfl) ?_
    refine lv_iload hx hb dX5_type_49 (lv_at hl 6 rfl) ?_
    refine lv_icmp_ge (tgt := 124) hx hb dX5_type_51 (by decide) (fun c9 => absurd c9 (by decide)) (fun _ => ?_)
    refine lv_aload hx hb dX5_type_54 (lv_at hl 5 rfl) ?_
    refine lv_iload hx hb dX5_type_56 (lv_at hl 7 rfl) ?_
    refine va_iald (D := (dC, dI)) hx hb hK hP 2 1 rfl rfl (by unfold vp_in; decide) dX5_type_58 ?_
    refine W.eq (g2 := F0 m 59 ls [.int 2]) rfl ?_
    refine lv_istore (lv' := [(13, .int 2), (0, .ref h0), (1, .int rp), (7, .ref h2), (8, .int 0), (9, .ref ge5), (10, .ref h2), (11, .int 5), (12, .int 0)]) hx hb dX5_type_59 hl (by decide) rfl (fun ls hl => ?_)
    refine lv_iload hx hb dX5_type_61 (lv_at hl 4 rfl) ?_
    refine lv_iload hx hb dX5_type_63 (lv_at hl 0 rfl) ?_
    refine lv_iconst (v := (-1)) hx hb dX5_type_65 (by decide) ?_
    refine lv_iconst (v := 3) hx hb dX5_type_66 (by decide) ?_
    have hPc := hP.sub (ws' := []) [] rfl
    have hDc := hD.sub (ws' := []) [] (by decide) rfl
    have hKc := hK.sub (tys' := []) [] rfl
    have hFc := va_free (wc := []) hD hS hA [] rfl
    refine va_calli (va_runS (As := [.int 2, .int (-1), .int 3]) (rest := [.int 0]) ⟨hx, hb, hml, hown, hts⟩ (kx_X5_isIn_11 l dC dI H.size) (cwS 3 hts gX5_type_X5_isIn rfl rfl rfl (by decide +kernel) ⟨Nat.le_of_ble_eq_true rfl, Nat.le_of_ble_eq_true rfl⟩) ⟨fun a U g mk q => by obtain ⟨q0, q1, qP, qK, qD⟩ := q; exact ⟨q0, q1, qP, va_K.moved (u := U) (U := U.calling g mk a) (Vm.Alike.refl U.vm) qK, qD⟩, fun U hU hW => ⟨rfl, by rw [hU], by rw [hU]; exact hPc, va_K.moved hW.alike hKc, hDc.weaken (fun _ _ _ _ => trivial)⟩⟩ rfl rfl hl.1 rfl (lv_room (Nat.le_of_ble_eq_true rfl)) dX5_type_67 ⟨Nat.le_of_ble_eq_true rfl, Nat.le_of_ble_eq_true rfl⟩) hS (fun q _ h => hFc q h) hFc (fun r9 u t H1 locs ht hvm hw hB hz1 hk1 hS => ?_)
    obtain rfl := hw
    obtain ⟨hP1, hK1, hD1⟩ := hB
    rw [ht] at hP1
    have hK1 := va_K.moved hvm.symm hK1
    obtain ⟨hP, hD⟩ := va_join (wr := [(h0, .inr (9, [.int 0, .ref h1, .ref z0, .ref z1, .int 0, .int 0, .int 0])), (h1, .inl (k0, 4, .inr (.inr (.inr (.inr (va_up (va_up (va_up (va_up (fun _ => none) 0 (some ge5)) 1 (some ge5)) 2 (some ge5)) 3 (some ge5))))))), (h2, .inl (k1, 5, .inl (upd (upd (upd (upd (upd (fun _ => 0) 0 2) 1 l2) 2 l3) 3 l4) 4 l5)))]) (w1 := []) hP hD [] [0, 1, 2] rfl rfl (by decide) (by decide) hk1 hFc hP1 hD1
    generalize H1 = H at hP hS ⊢
    have hP : va_P (dC, dI) vwCl [(h0, .inr (9, [.int 0, .ref h1, .ref z0, .ref z1, .int 0, .int 0, .int 0])), (h1, .inl (k0, 4, .inr (.inr (.inr (.inr (va_up (va_up (va_up (va_up (fun _ => none) 0 (some ge5)) 1 (some ge5)) 2 (some ge5)) 3 (some ge5))))))), (h2, .inl (k1, 5, .inl (upd (upd (upd (upd (upd (fun _ => 0) 0 2) 1 l2) 2 l3) 3 l4) 4 l5)))] H := hP
    have hD : va_D A [(h0, .inr (9, [.int 0, .ref h1, .ref z0, .ref z1, .int 0, .int 0, .int 0])), (h1, .inl (k0, 4, .inr (.inr (.inr (.inr (va_up (va_up (va_up (va_up (fun _ => none) 0 (some ge5)) 1 (some ge5)) 2 (some ge5)) 3 (some ge5))))))), (h2, .inl (k1, 5, .inl (upd (upd (upd (upd (upd (fun _ => 0) 0 2) 1 l2) 2 l3) 3 l4) 4 l5)))] := hD
    refine lv_if_ne (tgt := 77) hx hb dX5_type_70 (by decide) (fun _ => ?_) (fun c9 => absurd c9 (by decide))
    refine lv_iconst (v := 0) hx hb dX5_type_77 (by decide) ?_
    refine lv_ior hx hb dX5_type_78 ?_
    refine lv_topi (fun y101 ey101 => ?_)
    obtain rfl : y101 = 0 := ey101.trans (by decide)
    refine lv_istore (lv' := [(8, .int 0), (13, .int 2), (0, .ref h0), (1, .int rp), (7, .ref h2), (9, .ref ge5), (10, .ref h2), (11, .int 5), (12, .int 0)]) hx hb dX5_type_79 hl (by decide) rfl (fun ls hl => ?_)
    refine lv_iload hx hb dX5_type_81 (lv_at hl 1 rfl) ?_
    refine lv_iconst (v := 0) hx hb dX5_type_83 (by decide) ?_
    refine lv_iconst (v := 3) hx hb dX5_type_84 (by decide) ?_
    have hPc := hP.sub (ws' := []) [] rfl
    have hDc := hD.sub (ws' := []) [] (by decide) rfl
    have hKc := hK.sub (tys' := []) [] rfl
    have hFc := va_free (wc := []) hD hS hA [] rfl
    refine va_calli (va_runS (As := [.int 2, .int 0, .int 3]) (rest := []) ⟨hx, hb, hml, hown, hts⟩ (kx_X5_isIn_12 l dC dI H.size) (cwS 3 hts gX5_type_X5_isIn rfl rfl rfl (by decide +kernel) ⟨Nat.le_of_ble_eq_true rfl, Nat.le_of_ble_eq_true rfl⟩) ⟨fun a U g mk q => by obtain ⟨q0, q1, qP, qK, qD⟩ := q; exact ⟨q0, q1, qP, va_K.moved (u := U) (U := U.calling g mk a) (Vm.Alike.refl U.vm) qK, qD⟩, fun U hU hW => ⟨rfl, by rw [hU], by rw [hU]; exact hPc, va_K.moved hW.alike hKc, hDc.weaken (fun _ _ _ _ => trivial)⟩⟩ rfl rfl hl.1 rfl (lv_room (Nat.le_of_ble_eq_true rfl)) dX5_type_85 ⟨Nat.le_of_ble_eq_true rfl, Nat.le_of_ble_eq_true rfl⟩) hS (fun q _ h => hFc q h) hFc (fun r9 u t H1 locs ht hvm hw hB hz1 hk1 hS => ?_)
    obtain rfl := hw
    obtain ⟨hP1, hK1, hD1⟩ := hB
    rw [ht] at hP1
    have hK1 := va_K.moved hvm.symm hK1
    obtain ⟨hP, hD⟩ := va_join (wr := [(h0, .inr (9, [.int 0, .ref h1, .ref z0, .ref z1, .int 0, .int 0, .int 0])), (h1, .inl (k0, 4, .inr (.inr (.inr (.inr (va_up (va_up (va_up (va_up (fun _ => none) 0 (some ge5)) 1 (some ge5)) 2 (some ge5)) 3 (some ge5))))))), (h2, .inl (k1, 5, .inl (upd (upd (upd (upd (upd (fun _ => 0) 0 2) 1 l2) 2 l3) 3 l4) 4 l5)))]) (w1 := []) hP hD [] [0, 1, 2] rfl rfl (by decide) (by decide) hk1 hFc hP1 hD1
    generalize H1 = H at hP hS ⊢
    have hP : va_P (dC, dI) vwCl [(h0, .inr (9, [.int 0, .ref h1, .ref z0, .ref z1, .int 0, .int 0, .int 0])), (h1, .inl (k0, 4, .inr (.inr (.inr (.inr (va_up (va_up (va_up (va_up (fun _ => none) 0 (some ge5)) 1 (some ge5)) 2 (some ge5)) 3 (some ge5))))))), (h2, .inl (k1, 5, .inl (upd (upd (upd (upd (upd (fun _ => 0) 0 2) 1 l2) 2 l3) 3 l4) 4 l5)))] H := hP
    have hD : va_D A [(h0, .inr (9, [.int 0, .ref h1, .ref z0, .ref z1, .int 0, .int 0, .int 0])), (h1, .inl (k0, 4, .inr (.inr (.inr (.inr (va_up (va_up (va_up (va_up (fun _ => none) 0 (some ge5)) 1 (some ge5)) 2 (some ge5)) 3 (some ge5))))))), (h2, .inl (k1, 5, .inl (upd (upd (upd (upd (upd (fun _ => 0) 0 2) 1 l2) 2 l3) 3 l4) 4 l5)))] := hD
    refine lv_if_eq (tgt := 118) hx hb dX5_type_88 (by decide) (fun c9 => absurd c9 (by decide)) (fun _ => ?_)
    refine va_new (ci := 1) (fs := [.null, .int 0, .int 0, .int 0]) (C := RJ4) (T := TJ4) (N := 4) hx hb hts (by decide +kernel) tyJ4 tyJ4_ok hown (hts (.classLink RX5 49 RJ4) (by decide +kernel)) (hts (.instantiable RJ4 4) (by decide +kernel)) (hts (.initialized RJ4) (by decide +kernel)) hK hP hD hS hA rfl (fun j hj => by rcases (show j = 0 ∨ j = 1 ∨ j = 2 ∨ j = 3 by omega) with rfl | rfl | rfl | rfl <;> rfl) (Nat.le_of_ble_eq_true rfl) (Nat.le_of_ble_eq_true rfl) dX5_type_91 (fun q102 H hP hD hS => ?_)
    have hP : va_P (dC, dI) vwCl [(h0, .inr (9, [.int 0, .ref h1, .ref z0, .ref z1, .int 0, .int 0, .int 0])), (h1, .inl (k0, 4, .inr (.inr (.inr (.inr (va_up (va_up (va_up (va_up (fun _ => none) 0 (some ge5)) 1 (some ge5)) 2 (some ge5)) 3 (some ge5))))))), (h2, .inl (k1, 5, .inl (upd (upd (upd (upd (upd (fun _ => 0) 0 2) 1 l2) 2 l3) 3 l4) 4 l5))), (q102, .inr (1, [.null, .int 0, .int 0, .int 0]))] H := hP
    have hD : va_D A [(h0, .inr (9, [.int 0, .ref h1, .ref z0, .ref z1, .int 0, .int 0, .int 0])), (h1, .inl (k0, 4, .inr (.inr (.inr (.inr (va_up (va_up (va_up (va_up (fun _ => none) 0 (some ge5)) 1 (some ge5)) 2 (some ge5)) 3 (some ge5))))))), (h2, .inl (k1, 5, .inl (upd (upd (upd (upd (upd (fun _ => 0) 0 2) 1 l2) 2 l3) 3 l4) 4 l5))), (q102, .inr (1, [.null, .int 0, .int 0, .int 0]))] := hD
    refine W.widen (k := 2) (n := 9) (by omega) (by omega) ?_
    refine lv_dup hx hb dX5_type_94 rfl ?_
    have hPc := hP.sub (ws' := [(q102, .inr (1, [.null, .int 0, .int 0, .int 0]))]) [3] rfl
    have hDc := hD.sub (ws' := [(q102, .inr (1, [.null, .int 0, .int 0, .int 0]))]) [3] (by decide) rfl
    have hKc := hK.sub (tys' := []) [] rfl
    have hFc := va_free (wc := [(q102, .inr (1, [.null, .int 0, .int 0, .int 0]))]) hD hS hA [3] rfl
    refine va_callv (va_runI (As := []) (rest := [.ref q102]) ⟨hx, hb, hml, hown, hts⟩ (kx_J4_init_da8c8_0 l dC dI ge5 gea gv5 gva gde gic gi0 q102 H.size) (cwI 0 hts gX5_type_J4_init_da8c8 rfl rfl rfl (hts (.initialized RJ4) (by decide +kernel)) (hts (.methodLink RX5 51 yJ4_init_da8c8) (by decide +kernel)) (hts (.instanceMethod yJ4_init_da8c8) (by decide +kernel)) rfl (by decide +kernel) ⟨Nat.le_of_ble_eq_true rfl, Nat.le_of_ble_eq_true rfl⟩) ⟨fun a U g mk q => by obtain ⟨q0, q1, qP, qK, qD, qG⟩ := q; exact ⟨q0, q1, qP, va_K.moved (u := U) (U := U.calling g mk a) (Vm.Alike.refl U.vm) qK, qD, gv.fb qG⟩, fun U hU hW => ⟨rfl, by rw [hU], by rw [hU]; exact hPc, va_K.moved hW.alike hKc, hDc.weaken (fun _ _ _ _ => trivial), gv.pass hW hU hS hFc hG⟩⟩ rfl rfl hl.1 rfl (lv_room (Nat.le_of_ble_eq_true rfl)) dX5_type_95 ⟨Nat.le_of_ble_eq_true rfl, Nat.le_of_ble_eq_true rfl⟩) hS (fun q _ h => hFc q h) hFc (fun u t H1 locs ht hvm hw hB hz1 hk1 hS => ?_)
    obtain ⟨q103, cq104, hP1, hK1, hD1⟩ := hB
    rw [ht] at hP1
    have hK1 := va_K.moved hvm.symm hK1
    obtain ⟨hP, hD⟩ := va_join (wr := [(h0, .inr (9, [.int 0, .ref h1, .ref z0, .ref z1, .int 0, .int 0, .int 0])), (h1, .inl (k0, 4, .inr (.inr (.inr (.inr (va_up (va_up (va_up (va_up (fun _ => none) 0 (some ge5)) 1 (some ge5)) 2 (some ge5)) 3 (some ge5))))))), (h2, .inl (k1, 5, .inl (upd (upd (upd (upd (upd (fun _ => 0) 0 2) 1 l2) 2 l3) 3 l4) 4 l5)))]) (w1 := [(q102, .inr (1, [.ref q103, .int 0, .int 0, .int 0])), (q103, .inl (cq104, 16, .inl (fun _ => 0)))]) hP hD [3] [0, 1, 2] rfl rfl (by decide) (by decide) hk1 hFc hP1 hD1
    have hK := hK.app (hK1.sub (tys' := [(cq104, .byte)]) [0] rfl)
    generalize H1 = H at hP hS ⊢
    have hK : va_K (dC, dI) vwCl [(k0, .object "java/lang/String"), (k1, .int), (cq104, .byte)] s := hK
    have hP : va_P (dC, dI) vwCl [(h0, .inr (9, [.int 0, .ref h1, .ref z0, .ref z1, .int 0, .int 0, .int 0])), (h1, .inl (k0, 4, .inr (.inr (.inr (.inr (va_up (va_up (va_up (va_up (fun _ => none) 0 (some ge5)) 1 (some ge5)) 2 (some ge5)) 3 (some ge5))))))), (h2, .inl (k1, 5, .inl (upd (upd (upd (upd (upd (fun _ => 0) 0 2) 1 l2) 2 l3) 3 l4) 4 l5))), (q102, .inr (1, [.ref q103, .int 0, .int 0, .int 0])), (q103, .inl (cq104, 16, .inl (fun _ => 0)))] H := hP
    have hD : va_D A [(h0, .inr (9, [.int 0, .ref h1, .ref z0, .ref z1, .int 0, .int 0, .int 0])), (h1, .inl (k0, 4, .inr (.inr (.inr (.inr (va_up (va_up (va_up (va_up (fun _ => none) 0 (some ge5)) 1 (some ge5)) 2 (some ge5)) 3 (some ge5))))))), (h2, .inl (k1, 5, .inl (upd (upd (upd (upd (upd (fun _ => 0) 0 2) 1 l2) 2 l3) 3 l4) 4 l5))), (q102, .inr (1, [.ref q103, .int 0, .int 0, .int 0])), (q103, .inl (cq104, 16, .inl (fun _ => 0)))] := hD
    refine W.widen (k := 3) (n := 25) (by omega) (by omega) ?_
    refine lv_aload hx hb dX5_type_98 (lv_at hl 5 rfl) ?_
    have hPc := hP.sub (ws' := [(q102, .inr (1, [.ref q103, .int 0, .int 0, .int 0])), (q103, .inl (cq104, 16, .inl (fun _ => 0)))]) [3, 4] rfl
    have hDc := hD.sub (ws' := [(q102, .inr (1, [.ref q103, .int 0, .int 0, .int 0])), (q103, .inl (cq104, 16, .inl (fun _ => 0)))]) [3, 4] (by decide) rfl
    have hKc := hK.sub (tys' := [(cq104, .byte)]) [2] rfl
    have hFc := va_free (wc := [(q102, .inr (1, [.ref q103, .int 0, .int 0, .int 0])), (q103, .inl (cq104, 16, .inl (fun _ => 0)))]) hD hS hA [3, 4] rfl
    refine va_callr (va_runV (As := [.ref ge5]) (rest := []) ⟨hx, hb, hml, hown, hts⟩ (kx_J4_append_15ec4_0 l dC dI ge5 gea gv5 gva gde gic gi0 q102 q103 cq104 H.size) (cwV 1 hts gX5_type_J4_append_15ec4 rfl rfl rfl (by decide +kernel) ⟨Nat.le_of_ble_eq_true rfl, Nat.le_of_ble_eq_true rfl⟩) ⟨fun a U g mk q => by obtain ⟨q0, q1, qP, qK, qD, qG⟩ := q; exact ⟨q0, q1, qP, va_K.moved (u := U) (U := U.calling g mk a) (Vm.Alike.refl U.vm) qK, qD, gv.fb qG⟩, va_recv hKc hPc (ci := 1) (q0 := 0) rfl rfl, fun U hU hW => ⟨rfl, by rw [hU], by rw [hU]; exact hPc, va_K.moved hW.alike hKc, hDc.weaken (fun _ _ _ _ => trivial), gv.pass hW hU hS hFc hG⟩⟩ rfl rfl hl.1 rfl (lv_room (Nat.le_of_ble_eq_true rfl)) dX5_type_100 ⟨Nat.le_of_ble_eq_true rfl, Nat.le_of_ble_eq_true rfl⟩) hS (fun q _ h => hFc q h) hFc (fun u ra t H1 locs ht hvm hw hB hz1 hk1 hS => ?_)
    obtain ⟨hra, hP1, hK1, hD1⟩ := hB
    rw [hra]
    rw [ht] at hP1
    have hK1 := va_K.moved hvm.symm hK1
    obtain ⟨hP, hD⟩ := va_join (wr := [(h0, .inr (9, [.int 0, .ref h1, .ref z0, .ref z1, .int 0, .int 0, .int 0])), (h1, .inl (k0, 4, .inr (.inr (.inr (.inr (va_up (va_up (va_up (va_up (fun _ => none) 0 (some ge5)) 1 (some ge5)) 2 (some ge5)) 3 (some ge5))))))), (h2, .inl (k1, 5, .inl (upd (upd (upd (upd (upd (fun _ => 0) 0 2) 1 l2) 2 l3) 3 l4) 4 l5)))]) (w1 := [(q102, .inr (1, [.ref q103, .int 0, .int 0, .int 0])), (q103, .inl (cq104, 16, .inl (fun _ => 0)))]) hP hD [3, 4] [0, 1, 2] rfl rfl (by decide) (by decide) hk1 hFc hP1 hD1
    generalize H1 = H at hP hS ⊢
    have hP : va_P (dC, dI) vwCl [(h0, .inr (9, [.int 0, .ref h1, .ref z0, .ref z1, .int 0, .int 0, .int 0])), (h1, .inl (k0, 4, .inr (.inr (.inr (.inr (va_up (va_up (va_up (va_up (fun _ => none) 0 (some ge5)) 1 (some ge5)) 2 (some ge5)) 3 (some ge5))))))), (h2, .inl (k1, 5, .inl (upd (upd (upd (upd (upd (fun _ => 0) 0 2) 1 l2) 2 l3) 3 l4) 4 l5))), (q102, .inr (1, [.ref q103, .int 0, .int 0, .int 0])), (q103, .inl (cq104, 16, .inl (fun _ => 0)))] H := hP
    have hD : va_D A [(h0, .inr (9, [.int 0, .ref h1, .ref z0, .ref z1, .int 0, .int 0, .int 0])), (h1, .inl (k0, 4, .inr (.inr (.inr (.inr (va_up (va_up (va_up (va_up (fun _ => none) 0 (some ge5)) 1 (some ge5)) 2 (some ge5)) 3 (some ge5))))))), (h2, .inl (k1, 5, .inl (upd (upd (upd (upd (upd (fun _ => 0) 0 2) 1 l2) 2 l3) 3 l4) 4 l5))), (q102, .inr (1, [.ref q103, .int 0, .int 0, .int 0])), (q103, .inl (cq104, 16, .inl (fun _ => 0)))] := hD
    refine va_ldcS hx hb hown g_sa dX5_type_103 ?_
    refine lv_iload hx hb dX5_type_105 (lv_at hl 1 rfl) ?_
    have hPc := hP.sub (ws' := []) [] rfl
    have hDc := hD.sub (ws' := []) [] (by decide) rfl
    have hKc := hK.sub (tys' := []) [] rfl
    have hFc := va_free (wc := []) hD hS hA [] rfl
    refine va_calli (va_runV (As := [.int 2]) (rest := [.ref q102]) ⟨hx, hb, hml, hown, hts⟩ (kx_J0_charAt_5068e_2 l dC dI ge5 gea gv5 gva gde gic gi0 H.size) (cwV 1 hts gX5_type_J0_charAt_5068e rfl rfl rfl (by decide +kernel) ⟨Nat.le_of_ble_eq_true rfl, Nat.le_of_ble_eq_true rfl⟩) ⟨fun a U g mk q => by obtain ⟨q0, q1, qP, qK, qD, qG⟩ := q; exact ⟨q0, q1, qP, va_K.moved (u := U) (U := U.calling g mk a) (Vm.Alike.refl U.vm) qK, qD, gv.fb qG⟩, (by obtain ⟨cell, k1, k2, k3, -⟩ := g_oa.kept hS.2.1; exact ⟨cell, k1, k2, k3⟩), fun U hU hW => ⟨rfl, by rw [hU], by rw [hU]; exact hPc, va_K.moved hW.alike hKc, hDc.weaken (fun _ _ _ _ => trivial), gv.pass hW hU hS hFc hG⟩⟩ rfl rfl hl.1 rfl (lv_room (Nat.le_of_ble_eq_true rfl)) dX5_type_107 ⟨Nat.le_of_ble_eq_true rfl, Nat.le_of_ble_eq_true rfl⟩) hS (fun q _ h => hFc q h) hFc (fun r9 u t H1 locs ht hvm hw hB hz1 hk1 hS => ?_)
    obtain rfl := hw
    obtain ⟨hP1, hK1, hD1⟩ := hB
    rw [ht] at hP1
    have hK1 := va_K.moved hvm.symm hK1
    obtain ⟨hP, hD⟩ := va_join (wr := [(h0, .inr (9, [.int 0, .ref h1, .ref z0, .ref z1, .int 0, .int 0, .int 0])), (h1, .inl (k0, 4, .inr (.inr (.inr (.inr (va_up (va_up (va_up (va_up (fun _ => none) 0 (some ge5)) 1 (some ge5)) 2 (some ge5)) 3 (some ge5))))))), (h2, .inl (k1, 5, .inl (upd (upd (upd (upd (upd (fun _ => 0) 0 2) 1 l2) 2 l3) 3 l4) 4 l5))), (q102, .inr (1, [.ref q103, .int 0, .int 0, .int 0])), (q103, .inl (cq104, 16, .inl (fun _ => 0)))]) (w1 := []) hP hD [] [0, 1, 2, 3, 4] rfl rfl (by decide) (by decide) hk1 hFc hP1 hD1
    generalize H1 = H at hP hS ⊢
    have hP : va_P (dC, dI) vwCl [(h0, .inr (9, [.int 0, .ref h1, .ref z0, .ref z1, .int 0, .int 0, .int 0])), (h1, .inl (k0, 4, .inr (.inr (.inr (.inr (va_up (va_up (va_up (va_up (fun _ => none) 0 (some ge5)) 1 (some ge5)) 2 (some ge5)) 3 (some ge5))))))), (h2, .inl (k1, 5, .inl (upd (upd (upd (upd (upd (fun _ => 0) 0 2) 1 l2) 2 l3) 3 l4) 4 l5))), (q102, .inr (1, [.ref q103, .int 0, .int 0, .int 0])), (q103, .inl (cq104, 16, .inl (fun _ => 0)))] H := hP
    have hD : va_D A [(h0, .inr (9, [.int 0, .ref h1, .ref z0, .ref z1, .int 0, .int 0, .int 0])), (h1, .inl (k0, 4, .inr (.inr (.inr (.inr (va_up (va_up (va_up (va_up (fun _ => none) 0 (some ge5)) 1 (some ge5)) 2 (some ge5)) 3 (some ge5))))))), (h2, .inl (k1, 5, .inl (upd (upd (upd (upd (upd (fun _ => 0) 0 2) 1 l2) 2 l3) 3 l4) 4 l5))), (q102, .inr (1, [.ref q103, .int 0, .int 0, .int 0])), (q103, .inl (cq104, 16, .inl (fun _ => 0)))] := hD
    have hPc := hP.sub (ws' := [(q102, .inr (1, [.ref q103, .int 0, .int 0, .int 0])), (q103, .inl (cq104, 16, .inl (fun _ => 0)))]) [3, 4] rfl
    have hDc := hD.sub (ws' := [(q102, .inr (1, [.ref q103, .int 0, .int 0, .int 0])), (q103, .inl (cq104, 16, .inl (fun _ => 0)))]) [3, 4] (by decide) rfl
    have hKc := hK.sub (tys' := [(cq104, .byte)]) [2] rfl
    have hFc := va_free (wc := [(q102, .inr (1, [.ref q103, .int 0, .int 0, .int 0])), (q103, .inl (cq104, 16, .inl (fun _ => 0)))]) hD hS hA [3, 4] rfl
    refine va_callr (va_runV (As := [.int 99]) (rest := []) ⟨hx, hb, hml, hown, hts⟩ (kx_J4_append_cf468_2 l dC dI ge5 gea gv5 gva gde gic gi0 q102 q103 cq104 H.size) (cwV 1 hts gX5_type_J4_append_cf468 rfl rfl rfl (by decide +kernel) ⟨Nat.le_of_ble_eq_true rfl, Nat.le_of_ble_eq_true rfl⟩) ⟨fun a U g mk q => by obtain ⟨q0, q1, qP, qK, qD, qG⟩ := q; exact ⟨q0, q1, qP, va_K.moved (u := U) (U := U.calling g mk a) (Vm.Alike.refl U.vm) qK, qD, gv.fb qG⟩, va_recv hKc hPc (ci := 1) (q0 := 0) rfl rfl, fun U hU hW => ⟨rfl, by rw [hU], by rw [hU]; exact hPc, va_K.moved hW.alike hKc, hDc.weaken (fun _ _ _ _ => trivial), gv.pass hW hU hS hFc hG⟩⟩ rfl rfl hl.1 rfl (lv_room (Nat.le_of_ble_eq_true rfl)) dX5_type_110 ⟨Nat.le_of_ble_eq_true rfl, Nat.le_of_ble_eq_true rfl⟩) hS (fun q _ h => hFc q h) hFc (fun u ra t H1 locs ht hvm hw hB hz1 hk1 hS => ?_)
    obtain ⟨f105, f105_t, hra, hP1, hK1, hD1⟩ := hB
    rw [hra]
    rw [ht] at hP1
    have hK1 := va_K.moved hvm.symm hK1
    obtain ⟨hP, hD⟩ := va_join (wr := [(h0, .inr (9, [.int 0, .ref h1, .ref z0, .ref z1, .int 0, .int 0, .int 0])), (h1, .inl (k0, 4, .inr (.inr (.inr (.inr (va_up (va_up (va_up (va_up (fun _ => none) 0 (some ge5)) 1 (some ge5)) 2 (some ge5)) 3 (some ge5))))))), (h2, .inl (k1, 5, .inl (upd (upd (upd (upd (upd (fun _ => 0) 0 2) 1 l2) 2 l3) 3 l4) 4 l5)))]) (w1 := [(q102, .inr (1, [.ref q103, .int 0, .int 0, .int 1])), (q103, .inl (cq104, 16, .inl f105))]) hP hD [3, 4] [0, 1, 2] rfl rfl (by decide) (by decide) hk1 hFc hP1 hD1
    generalize H1 = H at hP hS ⊢
    have hP : va_P (dC, dI) vwCl [(h0, .inr (9, [.int 0, .ref h1, .ref z0, .ref z1, .int 0, .int 0, .int 0])), (h1, .inl (k0, 4, .inr (.inr (.inr (.inr (va_up (va_up (va_up (va_up (fun _ => none) 0 (some ge5)) 1 (some ge5)) 2 (some ge5)) 3 (some ge5))))))), (h2, .inl (k1, 5, .inl (upd (upd (upd (upd (upd (fun _ => 0) 0 2) 1 l2) 2 l3) 3 l4) 4 l5))), (q102, .inr (1, [.ref q103, .int 0, .int 0, .int 1])), (q103, .inl (cq104, 16, .inl f105))] H := hP
    have hD : va_D A [(h0, .inr (9, [.int 0, .ref h1, .ref z0, .ref z1, .int 0, .int 0, .int 0])), (h1, .inl (k0, 4, .inr (.inr (.inr (.inr (va_up (va_up (va_up (va_up (fun _ => none) 0 (some ge5)) 1 (some ge5)) 2 (some ge5)) 3 (some ge5))))))), (h2, .inl (k1, 5, .inl (upd (upd (upd (upd (upd (fun _ => 0) 0 2) 1 l2) 2 l3) 3 l4) 4 l5))), (q102, .inr (1, [.ref q103, .int 0, .int 0, .int 1])), (q103, .inl (cq104, 16, .inl f105))] := hD
    have hPc := hP.sub (ws' := [(q102, .inr (1, [.ref q103, .int 0, .int 0, .int 1])), (q103, .inl (cq104, 16, .inl f105))]) [3, 4] rfl
    have hDc := hD.sub (ws' := [(q102, .inr (1, [.ref q103, .int 0, .int 0, .int 1])), (q103, .inl (cq104, 16, .inl f105))]) [3, 4] (by decide) rfl
    have hKc := hK.sub (tys' := [(cq104, .byte)]) [2] rfl
    have hFc := va_free (wc := [(q102, .inr (1, [.ref q103, .int 0, .int 0, .int 1])), (q103, .inl (cq104, 16, .inl f105))]) hD hS hA [3, 4] rfl
    refine va_callr (va_runV (As := []) (rest := []) ⟨hx, hb, hml, hown, hts⟩ (kx_J4_toString_0e30d_1 l dC dI ge5 gea gv5 gva gde gic gi0 q102 q103 cq104 H.size f105 f105_t) (cwV 0 hts gX5_type_J4_toString_0e30d rfl rfl rfl (by decide +kernel) ⟨Nat.le_of_ble_eq_true rfl, Nat.le_of_ble_eq_true rfl⟩) ⟨fun a U g mk q => by obtain ⟨q0, q1, qP, qK, qD, qG⟩ := q; exact ⟨q0, q1, qP, va_K.moved (u := U) (U := U.calling g mk a) (Vm.Alike.refl U.vm) qK, qD, gv.fb qG⟩, va_recv hKc hPc (ci := 1) (q0 := 0) rfl rfl, fun U hU hW => ⟨rfl, by rw [hU], by rw [hU]; exact hPc, va_K.moved hW.alike hKc, hDc.weaken (fun _ _ _ _ => trivial), gv.pass hW hU hS hFc hG⟩⟩ rfl rfl hl.1 rfl (lv_room (Nat.le_of_ble_eq_true rfl)) dX5_type_113 ⟨Nat.le_of_ble_eq_true rfl, Nat.le_of_ble_eq_true rfl⟩) hS (fun q _ h => hFc q h) hFc (fun u ra t H1 locs ht hvm hw hB hz1 hk1 hS => ?_)
    obtain ⟨q106, q107, cq108, f109, f109_t, hra, hP1, hK1, hD1⟩ := hB
    rw [hra]
    rw [ht] at hP1
    have hK1 := va_K.moved hvm.symm hK1
    obtain ⟨hP, hD⟩ := va_join (wr := [(h0, .inr (9, [.int 0, .ref h1, .ref z0, .ref z1, .int 0, .int 0, .int 0])), (h1, .inl (k0, 4, .inr (.inr (.inr (.inr (va_up (va_up (va_up (va_up (fun _ => none) 0 (some ge5)) 1 (some ge5)) 2 (some ge5)) 3 (some ge5))))))), (h2, .inl (k1, 5, .inl (upd (upd (upd (upd (upd (fun _ => 0) 0 2) 1 l2) 2 l3) 3 l4) 4 l5)))]) (w1 := [(q102, .inr (1, [.ref q103, .int 0, .int 0, .int 1])), (q103, .inl (cq104, 16, .inl f105)), (q106, .inr (0, [.ref q107, .int 0, .int 0, .int 0])), (q107, .inl (cq108, 1, .inl f109))]) hP hD [3, 4] [0, 1, 2] rfl rfl (by decide) (by decide) hk1 hFc hP1 hD1
    have hK := hK.app (hK1.sub (tys' := [(cq108, .byte)]) [1] rfl)
    generalize H1 = H at hP hS ⊢
    have hK : va_K (dC, dI) vwCl [(k0, .object "java/lang/String"), (k1, .int), (cq104, .byte), (cq108, .byte)] s := hK
    have hP : va_P (dC, dI) vwCl [(h0, .inr (9, [.int 0, .ref h1, .ref z0, .ref z1, .int 0, .int 0, .int 0])), (h1, .inl (k0, 4, .inr (.inr (.inr (.inr (va_up (va_up (va_up (va_up (fun _ => none) 0 (some ge5)) 1 (some ge5)) 2 (some ge5)) 3 (some ge5))))))), (h2, .inl (k1, 5, .inl (upd (upd (upd (upd (upd (fun _ => 0) 0 2) 1 l2) 2 l3) 3 l4) 4 l5))), (q102, .inr (1, [.ref q103, .int 0, .int 0, .int 1])), (q103, .inl (cq104, 16, .inl f105)), (q106, .inr (0, [.ref q107, .int 0, .int 0, .int 0])), (q107, .inl (cq108, 1, .inl f109))] H := hP
    have hD : va_D A [(h0, .inr (9, [.int 0, .ref h1, .ref z0, .ref z1, .int 0, .int 0, .int 0])), (h1, .inl (k0, 4, .inr (.inr (.inr (.inr (va_up (va_up (va_up (va_up (fun _ => none) 0 (some ge5)) 1 (some ge5)) 2 (some ge5)) 3 (some ge5))))))), (h2, .inl (k1, 5, .inl (upd (upd (upd (upd (upd (fun _ => 0) 0 2) 1 l2) 2 l3) 3 l4) 4 l5))), (q102, .inr (1, [.ref q103, .int 0, .int 0, .int 1])), (q103, .inl (cq104, 16, .inl f105)), (q106, .inr (0, [.ref q107, .int 0, .int 0, .int 0])), (q107, .inl (cq108, 1, .inl f109))] := hD
    refine W.widen (k := 5) (n := 30) (by omega) (by omega) ?_
    refine lv_astore (lv' := [(9, .ref q106), (8, .int 0), (13, .int 2), (0, .ref h0), (1, .int rp), (7, .ref h2), (10, .ref h2), (11, .int 5), (12, .int 0)]) hx hb dX5_type_116 hl (by decide) rfl (fun ls hl => ?_)
    refine lv_iinc (v := 1) (lv' := [(12, .int 1), (9, .ref q106), (8, .int 0), (13, .int 2), (0, .ref h0), (1, .int rp), (7, .ref h2), (10, .ref h2), (11, .int 5)]) hx hb dX5_type_118 hl (k := 8) rfl (by decide) (by decide) rfl (fun ls hl => ?_)
    refine lv_goto (tgt := 47) hx hb dX5_type_121 (by decide) ?_
    have hP := hP.sub (ws' := [(h0, .inr (9, [.int 0, .ref h1, .ref z0, .ref z1, .int 0, .int 0, .int 0])), (h1, .inl (k0, 4, .inr (.inr (.inr (.inr (va_up (va_up (va_up (va_up (fun _ => none) 0 (some ge5)) 1 (some ge5)) 2 (some ge5)) 3 (some ge5))))))), (h2, .inl (k1, 5, .inl (upd (upd (upd (upd (upd (fun _ => 0) 0 2) 1 l2) 2 l3) 3 l4) 4 l5))), (q106, .inr (0, [.ref q107, .int 0, .int 0, .int 0])), (q107, .inl (cq108, 1, .inl f109))]) [0, 1, 2, 5, 6] rfl
    have hD := hD.sub (ws' := [(h0, .inr (9, [.int 0, .ref h1, .ref z0, .ref z1, .int 0, .int 0, .int 0])), (h1, .inl (k0, 4, .inr (.inr (.inr (.inr (va_up (va_up (va_up (va_up (fun _ => none) 0 (some ge5)) 1 (some ge5)) 2 (some ge5)) 3 (some ge5))))))), (h2, .inl (k1, 5, .inl (upd (upd (upd (upd (upd (fun _ => 0) 0 2) 1 l2) 2 l3) 3 l4) 4 l5))), (q106, .inr (0, [.ref q107, .int 0, .int 0, .int 0])), (q107, .inl (cq108, 1, .inl f109))]) [0, 1, 2, 5, 6] (by decide) rfl
    have hK := hK.sub (tys' := [(k0, .object "java/lang/String"), (k1, .int), (cq108, .byte)]) [0, 1, 3] rfl
    have hl := lv_sub hl [4, 5, 6, 2, 1, 7, 8, 0] (show lv_pick [(12, .int 1), (9, .ref q106), (8, .int 0), (13, .int 2), (0, .ref h0), (1, .int rp), (7, .ref h2), (10, .ref h2), (11, .int 5)] [4, 5, 6, 2, 1, 7, 8, 0] = [(0, .ref h0), (1, .int rp), (7, .ref h2), (8, .int 0), (9, .ref q106), (10, .ref h2), (11, .int 5), (12, .int 1)] from rfl)
    exact kx_X5_type_h110 f109_t hR hx hb hr hml hown hts hlocks hA hG hS hK hP hD hl
  · have hR : kz_ty rp 1 0 [l2, l3, l4, l5] = (R, v) := (kz_ty_g (by decide) (by decide)).symm.trans hR
    refine lv_iload hx hb dX5_type_47 (lv_at hl 7 rfl) ?_
    refine lv_iload hx hb dX5_type_49 (lv_at hl 6 rfl) ?_
    refine lv_icmp_ge (tgt := 124) hx hb dX5_type_51 (by decide) (fun c9 => absurd c9 (by decide)) (fun _ => ?_)
    refine lv_aload hx hb dX5_type_54 (lv_at hl 5 rfl) ?_
    refine lv_iload hx hb dX5_type_56 (lv_at hl 7 rfl) ?_
    refine va_iald (D := (dC, dI)) hx hb hK hP 2 1 rfl rfl (by unfold vp_in; decide) dX5_type_58 ?_
    refine W.eq (g2 := F0 m 59 ls [.int 3]) rfl ?_
    refine lv_istore (lv' := [(13, .int 3), (0, .ref h0), (1, .int rp), (7, .ref h2), (8, .int 0), (9, .ref ge5), (10, .ref h2), (11, .int 5), (12, .int 0)]) hx hb dX5_type_59 hl (by decide) rfl (fun ls hl => ?_)
    refine lv_iload hx hb dX5_type_61 (lv_at hl 4 rfl) ?_
    refine lv_iload hx hb dX5_type_63 (lv_at hl 0 rfl) ?_
    refine lv_iconst (v := (-1)) hx hb dX5_type_65 (by decide) ?_
    refine lv_iconst (v := 3) hx hb dX5_type_66 (by decide) ?_
    have hPc := hP.sub (ws' := []) [] rfl
    have hDc := hD.sub (ws' := []) [] (by decide) rfl
    have hKc := hK.sub (tys' := []) [] rfl
    have hFc := va_free (wc := []) hD hS hA [] rfl
    refine va_calli (va_runS (As := [.int 3, .int (-1), .int 3]) (rest := [.int 0]) ⟨hx, hb, hml, hown, hts⟩ (kx_X5_isIn_13 l dC dI H.size) (cwS 3 hts gX5_type_X5_isIn rfl rfl rfl (by decide +kernel) ⟨Nat.le_of_ble_eq_true rfl, Nat.le_of_ble_eq_true rfl⟩) ⟨fun a U g mk q => by obtain ⟨q0, q1, qP, qK, qD⟩ := q; exact ⟨q0, q1, qP, va_K.moved (u := U) (U := U.calling g mk a) (Vm.Alike.refl U.vm) qK, qD⟩, fun U hU hW => ⟨rfl, by rw [hU], by rw [hU]; exact hPc, va_K.moved hW.alike hKc, hDc.weaken (fun _ _ _ _ => trivial)⟩⟩ rfl rfl hl.1 rfl (lv_room (Nat.le_of_ble_eq_true rfl)) dX5_type_67 ⟨Nat.le_of_ble_eq_true rfl, Nat.le_of_ble_eq_true rfl⟩) hS (fun q _ h => hFc q h) hFc (fun r9 u t H1 locs ht hvm hw hB hz1 hk1 hS => ?_)
    obtain rfl := hw
    obtain ⟨hP1, hK1, hD1⟩ := hB
    rw [ht] at hP1
    have hK1 := va_K.moved hvm.symm hK1
    obtain ⟨hP, hD⟩ := va_join (wr := [(h0, .inr (9, [.int 0, .ref h1, .ref z0, .ref z1, .int 0, .int 0, .int 0])), (h1, .inl (k0, 4, .inr (.inr (.inr (.inr (va_up (va_up (va_up (va_up (fun _ => none) 0 (some ge5)) 1 (some ge5)) 2 (some ge5)) 3 (some ge5))))))), (h2, .inl (k1, 5, .inl (upd (upd (upd (upd (upd (fun _ => 0) 0 3) 1 l2) 2 l3) 3 l4) 4 l5)))]) (w1 := []) hP hD [] [0, 1, 2] rfl rfl (by decide) (by decide) hk1 hFc hP1 hD1
    generalize H1 = H at hP hS ⊢
    have hP : va_P (dC, dI) vwCl [(h0, .inr (9, [.int 0, .ref h1, .ref z0, .ref z1, .int 0, .int 0, .int 0])), (h1, .inl (k0, 4, .inr (.inr (.inr (.inr (va_up (va_up (va_up (va_up (fun _ => none) 0 (some ge5)) 1 (some ge5)) 2 (some ge5)) 3 (some ge5))))))), (h2, .inl (k1, 5, .inl (upd (upd (upd (upd (upd (fun _ => 0) 0 3) 1 l2) 2 l3) 3 l4) 4 l5)))] H := hP
    have hD : va_D A [(h0, .inr (9, [.int 0, .ref h1, .ref z0, .ref z1, .int 0, .int 0, .int 0])), (h1, .inl (k0, 4, .inr (.inr (.inr (.inr (va_up (va_up (va_up (va_up (fun _ => none) 0 (some ge5)) 1 (some ge5)) 2 (some ge5)) 3 (some ge5))))))), (h2, .inl (k1, 5, .inl (upd (upd (upd (upd (upd (fun _ => 0) 0 3) 1 l2) 2 l3) 3 l4) 4 l5)))] := hD
    refine lv_if_ne (tgt := 77) hx hb dX5_type_70 (by decide) (fun _ => ?_) (fun c9 => absurd c9 (by decide))
    refine lv_iconst (v := 0) hx hb dX5_type_77 (by decide) ?_
    refine lv_ior hx hb dX5_type_78 ?_
    refine lv_topi (fun y101 ey101 => ?_)
    obtain rfl : y101 = 0 := ey101.trans (by decide)
    refine lv_istore (lv' := [(8, .int 0), (13, .int 3), (0, .ref h0), (1, .int rp), (7, .ref h2), (9, .ref ge5), (10, .ref h2), (11, .int 5), (12, .int 0)]) hx hb dX5_type_79 hl (by decide) rfl (fun ls hl => ?_)
    refine lv_iload hx hb dX5_type_81 (lv_at hl 1 rfl) ?_
    refine lv_iconst (v := 0) hx hb dX5_type_83 (by decide) ?_
    refine lv_iconst (v := 3) hx hb dX5_type_84 (by decide) ?_
    have hPc := hP.sub (ws' := []) [] rfl
    have hDc := hD.sub (ws' := []) [] (by decide) rfl
    have hKc := hK.sub (tys' := []) [] rfl
    have hFc := va_free (wc := []) hD hS hA [] rfl
    refine va_calli (va_runS (As := [.int 3, .int 0, .int 3]) (rest := []) ⟨hx, hb, hml, hown, hts⟩ (kx_X5_isIn_14 l dC dI H.size) (cwS 3 hts gX5_type_X5_isIn rfl rfl rfl (by decide +kernel) ⟨Nat.le_of_ble_eq_true rfl, Nat.le_of_ble_eq_true rfl⟩) ⟨fun a U g mk q => by obtain ⟨q0, q1, qP, qK, qD⟩ := q; exact ⟨q0, q1, qP, va_K.moved (u := U) (U := U.calling g mk a) (Vm.Alike.refl U.vm) qK, qD⟩, fun U hU hW => ⟨rfl, by rw [hU], by rw [hU]; exact hPc, va_K.moved hW.alike hKc, hDc.weaken (fun _ _ _ _ => trivial)⟩⟩ rfl rfl hl.1 rfl (lv_room (Nat.le_of_ble_eq_true rfl)) dX5_type_85 ⟨Nat.le_of_ble_eq_true rfl, Nat.le_of_ble_eq_true rfl⟩) hS (fun q _ h => hFc q h) hFc (fun r9 u t H1 locs ht hvm hw hB hz1 hk1 hS => ?_)
    obtain rfl := hw
    obtain ⟨hP1, hK1, hD1⟩ := hB
    rw [ht] at hP1
    have hK1 := va_K.moved hvm.symm hK1
    obtain ⟨hP, hD⟩ := va_join (wr := [(h0, .inr (9, [.int 0, .ref h1, .ref z0, .ref z1, .int 0, .int 0, .int 0])), (h1, .inl (k0, 4, .inr (.inr (.inr (.inr (va_up (va_up (va_up (va_up (fun _ => none) 0 (some ge5)) 1 (some ge5)) 2 (some ge5)) 3 (some ge5))))))), (h2, .inl (k1, 5, .inl (upd (upd (upd (upd (upd (fun _ => 0) 0 3) 1 l2) 2 l3) 3 l4) 4 l5)))]) (w1 := []) hP hD [] [0, 1, 2] rfl rfl (by decide) (by decide) hk1 hFc hP1 hD1
    generalize H1 = H at hP hS ⊢
    have hP : va_P (dC, dI) vwCl [(h0, .inr (9, [.int 0, .ref h1, .ref z0, .ref z1, .int 0, .int 0, .int 0])), (h1, .inl (k0, 4, .inr (.inr (.inr (.inr (va_up (va_up (va_up (va_up (fun _ => none) 0 (some ge5)) 1 (some ge5)) 2 (some ge5)) 3 (some ge5))))))), (h2, .inl (k1, 5, .inl (upd (upd (upd (upd (upd (fun _ => 0) 0 3) 1 l2) 2 l3) 3 l4) 4 l5)))] H := hP
    have hD : va_D A [(h0, .inr (9, [.int 0, .ref h1, .ref z0, .ref z1, .int 0, .int 0, .int 0])), (h1, .inl (k0, 4, .inr (.inr (.inr (.inr (va_up (va_up (va_up (va_up (fun _ => none) 0 (some ge5)) 1 (some ge5)) 2 (some ge5)) 3 (some ge5))))))), (h2, .inl (k1, 5, .inl (upd (upd (upd (upd (upd (fun _ => 0) 0 3) 1 l2) 2 l3) 3 l4) 4 l5)))] := hD
    refine lv_if_eq (tgt := 118) hx hb dX5_type_88 (by decide) (fun c9 => absurd c9 (by decide)) (fun _ => ?_)
    refine va_new (ci := 1) (fs := [.null, .int 0, .int 0, .int 0]) (C := RJ4) (T := TJ4) (N := 4) hx hb hts (by decide +kernel) tyJ4 tyJ4_ok hown (hts (.classLink RX5 49 RJ4) (by decide +kernel)) (hts (.instantiable RJ4 4) (by decide +kernel)) (hts (.initialized RJ4) (by decide +kernel)) hK hP hD hS hA rfl (fun j hj => by rcases (show j = 0 ∨ j = 1 ∨ j = 2 ∨ j = 3 by omega) with rfl | rfl | rfl | rfl <;> rfl) (Nat.le_of_ble_eq_true rfl) (Nat.le_of_ble_eq_true rfl) dX5_type_91 (fun q102 H hP hD hS => ?_)
    have hP : va_P (dC, dI) vwCl [(h0, .inr (9, [.int 0, .ref h1, .ref z0, .ref z1, .int 0, .int 0, .int 0])), (h1, .inl (k0, 4, .inr (.inr (.inr (.inr (va_up (va_up (va_up (va_up (fun _ => none) 0 (some ge5)) 1 (some ge5)) 2 (some ge5)) 3 (some ge5))))))), (h2, .inl (k1, 5, .inl (upd (upd (upd (upd (upd (fun _ => 0) 0 3) 1 l2) 2 l3) 3 l4) 4 l5))), (q102, .inr (1, [.null, .int 0, .int 0, .int 0]))] H := hP
    have hD : va_D A [(h0, .inr (9, [.int 0, .ref h1, .ref z0, .ref z1, .int 0, .int 0, .int 0])), (h1, .inl (k0, 4, .inr (.inr (.inr (.inr (va_up (va_up (va_up (va_up (fun _ => none) 0 (some ge5)) 1 (some ge5)) 2 (some ge5)) 3 (some ge5))))))), (h2, .inl (k1, 5, .inl (upd (upd (upd (upd (upd (fun _ => 0) 0 3) 1 l2) 2 l3) 3 l4) 4 l5))), (q102, .inr (1, [.null, .int 0, .int 0, .int 0]))] := hD
    refine W.widen (k := 2) (n := 9) (by omega) (by omega) ?_
    refine lv_dup hx hb dX5_type_94 rfl ?_
    have hPc := hP.sub (ws' := [(q102, .inr (1, [.null, .int 0, .int 0, .int 0]))]) [3] rfl
    have hDc := hD.sub (ws' := [(q102, .inr (1, [.null, .int 0, .int 0, .int 0]))]) [3] (by decide) rfl
    have hKc := hK.sub (tys' := []) [] rfl
    have hFc := va_free (wc := [(q102, .inr (1, [.null, .int 0, .int 0, .int 0]))]) hD hS hA [3] rfl
    refine va_callv (va_runI (As := []) (rest := [.ref q102]) ⟨hx, hb, hml, hown, hts⟩ (kx_J4_init_da8c8_0 l dC dI ge5 gea gv5 gva gde gic gi0 q102 H.size) (cwI 0 hts gX5_type_J4_init_da8c8 rfl rfl rfl (hts (.initialized RJ4) (by decide +kernel)) (hts (.methodLink RX5 51 yJ4_init_da8c8) (by decide +kernel)) (hts (.instanceMethod yJ4_init_da8c8) (by decide +kernel)) rfl (by decide +kernel) ⟨Nat.le_of_ble_eq_true rfl, Nat.le_of_ble_eq_true rfl⟩) ⟨fun a U g mk q => by obtain ⟨q0, q1, qP, qK, qD, qG⟩ := q; exact ⟨q0, q1, qP, va_K.moved (u := U) (U := U.calling g mk a) (Vm.Alike.refl U.vm) qK, qD, gv.fb qG⟩, fun U hU hW => ⟨rfl, by rw [hU], by rw [hU]; exact hPc, va_K.moved hW.alike hKc, hDc.weaken (fun _ _ _ _ => trivial), gv.pass hW hU hS hFc hG⟩⟩ rfl rfl hl.1 rfl (lv_room (Nat.le_of_ble_eq_true rfl)) dX5_type_95 ⟨Nat.le_of_ble_eq_true rfl, Nat.le_of_ble_eq_true rfl⟩) hS (fun q _ h => hFc q h) hFc (fun u t H1 locs ht hvm hw hB hz1 hk1 hS => ?_)
    obtain ⟨q103, cq104, hP1, hK1, hD1⟩ := hB
    rw [ht] at hP1
    have hK1 := va_K.moved hvm.symm hK1
    obtain ⟨hP, hD⟩ := va_join (wr := [(h0, .inr (9, [.int 0, .ref h1, .ref z0, .ref z1, .int 0, .int 0, .int 0])), (h1, .inl (k0, 4, .inr (.inr (.inr (.inr (va_up (va_up (va_up (va_up (fun _ => none) 0 (some ge5)) 1 (some ge5)) 2 (some ge5)) 3 (some ge5))))))), (h2, .inl (k1, 5, .inl (upd (upd (upd (upd (upd (fun _ => 0) 0 3) 1 l2) 2 l3) 3 l4) 4 l5)))]) (w1 := [(q102, .inr (1, [.ref q103, .int 0, .int 0, .int 0])), (q103, .inl (cq104, 16, .inl (fun _ => 0)))]) hP hD [3] [0, 1, 2] rfl rfl (by decide) (by decide) hk1 hFc hP1 hD1
    have hK := hK.app (hK1.sub (tys' := [(cq104, .byte)]) [0] rfl)
    generalize H1 = H at hP hS ⊢
    have hK : va_K (dC, dI) vwCl [(k0, .object "java/lang/String"), (k1, .int), (cq104, .byte)] s := hK
    have hP : va_P (dC, dI) vwCl [(h0, .inr (9, [.int 0, .ref h1, .ref z0, .ref z1, .int 0, .int 0, .int 0])), (h1, .inl (k0, 4, .inr (.inr (.inr (.inr (va_up (va_up (va_up (va_up (fun _ => none) 0 (some ge5)) 1 (some ge5)) 2 (some ge5)) 3 (some ge5))))))), (h2, .inl (k1, 5, .inl (upd (upd (upd (upd (upd (fun _ => 0) 0 3) 1 l2) 2 l3) 3 l4) 4 l5))), (q102, .inr (1, [.ref q103, .int 0, .int 0, .int 0])), (q103, .inl (cq104, 16, .inl (fun _ => 0)))] H := hP
    have hD : va_D A [(h0, .inr (9, [.int 0, .ref h1, .ref z0, .ref z1, .int 0, .int 0, .int 0])), (h1, .inl (k0, 4, .inr (.inr (.inr (.inr (va_up (va_up (va_up (va_up (fun _ => none) 0 (some ge5)) 1 (some ge5)) 2 (some ge5)) 3 (some ge5))))))), (h2, .inl (k1, 5, .inl (upd (upd (upd (upd (upd (fun _ => 0) 0 3) 1 l2) 2 l3) 3 l4) 4 l5))), (q102, .inr (1, [.ref q103, .int 0, .int 0, .int 0])), (q103, .inl (cq104, 16, .inl (fun _ => 0)))] := hD
    refine W.widen (k := 3) (n := 25) (by omega) (by omega) ?_
    refine lv_aload hx hb dX5_type_98 (lv_at hl 5 rfl) ?_
    have hPc := hP.sub (ws' := [(q102, .inr (1, [.ref q103, .int 0, .int 0, .int 0])), (q103, .inl (cq104, 16, .inl (fun _ => 0)))]) [3, 4] rfl
    have hDc := hD.sub (ws' := [(q102, .inr (1, [.ref q103, .int 0, .int 0, .int 0])), (q103, .inl (cq104, 16, .inl (fun _ => 0)))]) [3, 4] (by decide) rfl
    have hKc := hK.sub (tys' := [(cq104, .byte)]) [2] rfl
    have hFc := va_free (wc := [(q102, .inr (1, [.ref q103, .int 0, .int 0, .int 0])), (q103, .inl (cq104, 16, .inl (fun _ => 0)))]) hD hS hA [3, 4] rfl
    refine va_callr (va_runV (As := [.ref ge5]) (rest := []) ⟨hx, hb, hml, hown, hts⟩ (kx_J4_append_15ec4_0 l dC dI ge5 gea gv5 gva gde gic gi0 q102 q103 cq104 H.size) (cwV 1 hts gX5_type_J4_append_15ec4 rfl rfl rfl (by decide +kernel) ⟨Nat.le_of_ble_eq_true rfl, Nat.le_of_ble_eq_true rfl⟩) ⟨fun a U g mk q => by obtain ⟨q0, q1, qP, qK, qD, qG⟩ := q; exact ⟨q0, q1, qP, va_K.moved (u := U) (U := U.calling g mk a) (Vm.Alike.refl U.vm) qK, qD, gv.fb qG⟩, va_recv hKc hPc (ci := 1) (q0 := 0) rfl rfl, fun U hU hW => ⟨rfl, by rw [hU], by rw [hU]; exact hPc, va_K.moved hW.alike hKc, hDc.weaken (fun _ _ _ _ => trivial), gv.pass hW hU hS hFc hG⟩⟩ rfl rfl hl.1 rfl (lv_room (Nat.le_of_ble_eq_true rfl)) dX5_type_100 ⟨Nat.le_of_ble_eq_true rfl, Nat.le_of_ble_eq_true rfl⟩) hS (fun q _ h => hFc q h) hFc (fun u ra t H1 locs ht hvm hw hB hz1 hk1 hS => ?_)
    obtain ⟨hra, hP1, hK1, hD1⟩ := hB
    rw [hra]
    rw [ht] at hP1
    have hK1 := va_K.moved hvm.symm hK1
    obtain ⟨hP, hD⟩ := va_join (wr := [(h0, .inr (9, [.int 0, .ref h1, .ref z0, .ref z1, .int 0, .int 0, .int 0])), (h1, .inl (k0, 4, .inr (.inr (.inr (.inr (va_up (va_up (va_up (va_up (fun _ => none) 0 (some ge5)) 1 (some ge5)) 2 (some ge5)) 3 (some ge5))))))), (h2, .inl (k1, 5, .inl (upd (upd (upd (upd (upd (fun _ => 0) 0 3) 1 l2) 2 l3) 3 l4) 4 l5)))]) (w1 := [(q102, .inr (1, [.ref q103, .int 0, .int 0, .int 0])), (q103, .inl (cq104, 16, .inl (fun _ => 0)))]) hP hD [3, 4] [0, 1, 2] rfl rfl (by decide) (by decide) hk1 hFc hP1 hD1
    generalize H1 = H at hP hS ⊢
    have hP : va_P (dC, dI) vwCl [(h0, .inr (9, [.int 0, .ref h1, .ref z0, .ref z1, .int 0, .int 0, .int 0])), (h1, .inl (k0, 4, .inr (.inr (.inr (.inr (va_up (va_up (va_up (va_up (fun _ => none) 0 (some ge5)) 1 (some ge5)) 2 (some ge5)) 3 (some ge5))))))), (h2, .inl (k1, 5, .inl (upd (upd (upd (upd (upd (fun _ => 0) 0 3) 1 l2) 2 l3) 3 l4) 4 l5))), (q102, .inr (1, [.ref q103, .int 0, .int 0, .int 0])), (q103, .inl (cq104, 16, .inl (fun _ => 0)))] H := hP
    have hD : va_D A [(h0, .inr (9, [.int 0, .ref h1, .ref z0, .ref z1, .int 0, .int 0, .int 0])), (h1, .inl (k0, 4, .inr (.inr (.inr (.inr (va_up (va_up (va_up (va_up (fun _ => none) 0 (some ge5)) 1 (some ge5)) 2 (some ge5)) 3 (some ge5))))))), (h2, .inl (k1, 5, .inl (upd (upd (upd (upd (upd (fun _ => 0) 0 3) 1 l2) 2 l3) 3 l4) 4 l5))), (q102, .inr (1, [.ref q103, .int 0, .int 0, .int 0])), (q103, .inl (cq104, 16, .inl (fun _ => 0)))] := hD
    refine va_ldcS hx hb hown g_sa dX5_type_103 ?_
    refine lv_iload hx hb dX5_type_105 (lv_at hl 1 rfl) ?_
    have hPc := hP.sub (ws' := []) [] rfl
    have hDc := hD.sub (ws' := []) [] (by decide) rfl
    have hKc := hK.sub (tys' := []) [] rfl
    have hFc := va_free (wc := []) hD hS hA [] rfl
    refine va_calli (va_runV (As := [.int 3]) (rest := [.ref q102]) ⟨hx, hb, hml, hown, hts⟩ (kx_J0_charAt_5068e_3 l dC dI ge5 gea gv5 gva gde gic gi0 H.size) (cwV 1 hts gX5_type_J0_charAt_5068e rfl rfl rfl (by decide +kernel) ⟨Nat.le_of_ble_eq_true rfl, Nat.le_of_ble_eq_true rfl⟩) ⟨fun a U g mk q => by obtain ⟨q0, q1, qP, qK, qD, qG⟩ := q; exact ⟨q0, q1, qP, va_K.moved (u := U) (U := U.calling g mk a) (Vm.Alike.refl U.vm) qK, qD, gv.fb qG⟩, (by obtain ⟨cell, k1, k2, k3, -⟩ := g_oa.kept hS.2.1; exact ⟨cell, k1, k2, k3⟩), fun U hU hW => ⟨rfl, by rw [hU], by rw [hU]; exact hPc, va_K.moved hW.alike hKc, hDc.weaken (fun _ _ _ _ => trivial), gv.pass hW hU hS hFc hG⟩⟩ rfl rfl hl.1 rfl (lv_room (Nat.le_of_ble_eq_true rfl)) dX5_type_107 ⟨Nat.le_of_ble_eq_true rfl, Nat.le_of_ble_eq_true rfl⟩) hS (fun q _ h => hFc q h) hFc (fun r9 u t H1 locs ht hvm hw hB hz1 hk1 hS => ?_)
    obtain rfl := hw
    obtain ⟨hP1, hK1, hD1⟩ := hB
    rw [ht] at hP1
    have hK1 := va_K.moved hvm.symm hK1
    obtain ⟨hP, hD⟩ := va_join (wr := [(h0, .inr (9, [.int 0, .ref h1, .ref z0, .ref z1, .int 0, .int 0, .int 0])), (h1, .inl (k0, 4, .inr (.inr (.inr (.inr (va_up (va_up (va_up (va_up (fun _ => none) 0 (some ge5)) 1 (some ge5)) 2 (some ge5)) 3 (some ge5))))))), (h2, .inl (k1, 5, .inl (upd (upd (upd (upd (upd (fun _ => 0) 0 3) 1 l2) 2 l3) 3 l4) 4 l5))), (q102, .inr (1, [.ref q103, .int 0, .int 0, .int 0])), (q103, .inl (cq104, 16, .inl (fun _ => 0)))]) (w1 := []) hP hD [] [0, 1, 2, 3, 4] rfl rfl (by decide) (by decide) hk1 hFc hP1 hD1
    generalize H1 = H at hP hS ⊢
    have hP : va_P (dC, dI) vwCl [(h0, .inr (9, [.int 0, .ref h1, .ref z0, .ref z1, .int 0, .int 0, .int 0])), (h1, .inl (k0, 4, .inr (.inr (.inr (.inr (va_up (va_up (va_up (va_up (fun _ => none) 0 (some ge5)) 1 (some ge5)) 2 (some ge5)) 3 (some ge5))))))), (h2, .inl (k1, 5, .inl (upd (upd (upd (upd (upd (fun _ => 0) 0 3) 1 l2) 2 l3) 3 l4) 4 l5))), (q102, .inr (1, [.ref q103, .int 0, .int 0, .int 0])), (q103, .inl (cq104, 16, .inl (fun _ => 0)))] H := hP
    have hD : va_D A [(h0, .inr (9, [.int 0, .ref h1, .ref z0, .ref z1, .int 0, .int 0, .int 0])), (h1, .inl (k0, 4, .inr (.inr (.inr (.inr (va_up (va_up (va_up (va_up (fun _ => none) 0 (some ge5)) 1 (some ge5)) 2 (some ge5)) 3 (some ge5))))))), (h2, .inl (k1, 5, .inl (upd (upd (upd (upd (upd (fun _ => 0) 0 3) 1 l2) 2 l3) 3 l4) 4 l5))), (q102, .inr (1, [.ref q103, .int 0, .int 0, .int 0])), (q103, .inl (cq104, 16, .inl (fun _ => 0)))] := hD
    have hPc := hP.sub (ws' := [(q102, .inr (1, [.ref q103, .int 0, .int 0, .int 0])), (q103, .inl (cq104, 16, .inl (fun _ => 0)))]) [3, 4] rfl
    have hDc := hD.sub (ws' := [(q102, .inr (1, [.ref q103, .int 0, .int 0, .int 0])), (q103, .inl (cq104, 16, .inl (fun _ => 0)))]) [3, 4] (by decide) rfl
    have hKc := hK.sub (tys' := [(cq104, .byte)]) [2] rfl
    have hFc := va_free (wc := [(q102, .inr (1, [.ref q103, .int 0, .int 0, .int 0])), (q103, .inl (cq104, 16, .inl (fun _ => 0)))]) hD hS hA [3, 4] rfl
    refine va_callr (va_runV (As := [.int 100]) (rest := []) ⟨hx, hb, hml, hown, hts⟩ (kx_J4_append_cf468_3 l dC dI ge5 gea gv5 gva gde gic gi0 q102 q103 cq104 H.size) (cwV 1 hts gX5_type_J4_append_cf468 rfl rfl rfl (by decide +kernel) ⟨Nat.le_of_ble_eq_true rfl, Nat.le_of_ble_eq_true rfl⟩) ⟨fun a U g mk q => by obtain ⟨q0, q1, qP, qK, qD, qG⟩ := q; exact ⟨q0, q1, qP, va_K.moved (u := U) (U := U.calling g mk a) (Vm.Alike.refl U.vm) qK, qD, gv.fb qG⟩, va_recv hKc hPc (ci := 1) (q0 := 0) rfl rfl, fun U hU hW => ⟨rfl, by rw [hU], by rw [hU]; exact hPc, va_K.moved hW.alike hKc, hDc.weaken (fun _ _ _ _ => trivial), gv.pass hW hU hS hFc hG⟩⟩ rfl rfl hl.1 rfl (lv_room (Nat.le_of_ble_eq_true rfl)) dX5_type_110 ⟨Nat.le_of_ble_eq_true rfl, Nat.le_of_ble_eq_true rfl⟩) hS (fun q _ h => hFc q h) hFc (fun u ra t H1 locs ht hvm hw hB hz1 hk1 hS => ?_)
    obtain ⟨f105, f105_t, hra, hP1, hK1, hD1⟩ := hB
    rw [hra]
    rw [ht] at hP1
    have hK1 := va_K.moved hvm.symm hK1
    obtain ⟨hP, hD⟩ := va_join (wr := [(h0, .inr (9, [.int 0, .ref h1, .ref z0, .ref z1, .int 0, .int 0, .int 0])), (h1, .inl (k0, 4, .inr (.inr (.inr (.inr (va_up (va_up (va_up (va_up (fun _ => none) 0 (some ge5)) 1 (some ge5)) 2 (some ge5)) 3 (some ge5))))))), (h2, .inl (k1, 5, .inl (upd (upd (upd (upd (upd (fun _ => 0) 0 3) 1 l2) 2 l3) 3 l4) 4 l5)))]) (w1 := [(q102, .inr (1, [.ref q103, .int 0, .int 0, .int 1])), (q103, .inl (cq104, 16, .inl f105))]) hP hD [3, 4] [0, 1, 2] rfl rfl (by decide) (by decide) hk1 hFc hP1 hD1
    generalize H1 = H at hP hS ⊢
    have hP : va_P (dC, dI) vwCl [(h0, .inr (9, [.int 0, .ref h1, .ref z0, .ref z1, .int 0, .int 0, .int 0])), (h1, .inl (k0, 4, .inr (.inr (.inr (.inr (va_up (va_up (va_up (va_up (fun _ => none) 0 (some ge5)) 1 (some ge5)) 2 (some ge5)) 3 (some ge5))))))), (h2, .inl (k1, 5, .inl (upd (upd (upd (upd (upd (fun _ => 0) 0 3) 1 l2) 2 l3) 3 l4) 4 l5))), (q102, .inr (1, [.ref q103, .int 0, .int 0, .int 1])), (q103, .inl (cq104, 16, .inl f105))] H := hP
    have hD : va_D A [(h0, .inr (9, [.int 0, .ref h1, .ref z0, .ref z1, .int 0, .int 0, .int 0])), (h1, .inl (k0, 4, .inr (.inr (.inr (.inr (va_up (va_up (va_up (va_up (fun _ => none) 0 (some ge5)) 1 (some ge5)) 2 (some ge5)) 3 (some ge5))))))), (h2, .inl (k1, 5, .inl (upd (upd (upd (upd (upd (fun _ => 0) 0 3) 1 l2) 2 l3) 3 l4) 4 l5))), (q102, .inr (1, [.ref q103, .int 0, .int 0, .int 1])), (q103, .inl (cq104, 16, .inl f105))] := hD
    have hPc := hP.sub (ws' := [(q102, .inr (1, [.ref q103, .int 0, .int 0, .int 1])), (q103, .inl (cq104, 16, .inl f105))]) [3, 4] rfl
    have hDc := hD.sub (ws' := [(q102, .inr (1, [.ref q103, .int 0, .int 0, .int 1])), (q103, .inl (cq104, 16, .inl f105))]) [3, 4] (by decide) rfl
    have hKc := hK.sub (tys' := [(cq104, .byte)]) [2] rfl
    have hFc := va_free (wc := [(q102, .inr (1, [.ref q103, .int 0, .int 0, .int 1])), (q103, .inl (cq104, 16, .inl f105))]) hD hS hA [3, 4] rfl
    refine va_callr (va_runV (As := []) (rest := []) ⟨hx, hb, hml, hown, hts⟩ (kx_J4_toString_0e30d_1 l dC dI ge5 gea gv5 gva gde gic gi0 q102 q103 cq104 H.size f105 f105_t) (cwV 0 hts gX5_type_J4_toString_0e30d rfl rfl rfl (by decide +kernel) ⟨Nat.le_of_ble_eq_true rfl, Nat.le_of_ble_eq_true rfl⟩) ⟨fun a U g mk q => by obtain ⟨q0, q1, qP, qK, qD, qG⟩ := q; exact ⟨q0, q1, qP, va_K.moved (u := U) (U := U.calling g mk a) (Vm.Alike.refl U.vm) qK, qD, gv.fb qG⟩, va_recv hKc hPc (ci := 1) (q0 := 0) rfl rfl, fun U hU hW => ⟨rfl, by rw [hU], by rw [hU]; exact hPc, va_K.moved hW.alike hKc, hDc.weaken (fun _ _ _ _ => trivial), gv.pass hW hU hS hFc hG⟩⟩ rfl rfl hl.1 rfl (lv_room (Nat.le_of_ble_eq_true rfl)) dX5_type_113 ⟨Nat.le_of_ble_eq_true rfl, Nat.le_of_ble_eq_true rfl⟩) hS (fun q _ h => hFc q h) hFc (fun u ra t H1 locs ht hvm hw hB hz1 hk1 hS => ?_)
    obtain ⟨q106, q107, cq108, f109, f109_t, hra, hP1, hK1, hD1⟩ := hB
    rw [hra]
    rw [ht] at hP1
    have hK1 := va_K.moved hvm.symm hK1
    obtain ⟨hP, hD⟩ := va_join (wr := [(h0, .inr (9, [.int 0, .ref h1, .ref z0, .ref z1, .int 0, .int 0, .int 0])), (h1, .inl (k0, 4, .inr (.inr (.inr (.inr (va_up (va_up (va_up (va_up (fun _ => none) 0 (some ge5)) 1 (some ge5)) 2 (some ge5)) 3 (some ge5))))))), (h2, .inl (k1, 5, .inl (upd (upd (upd (upd (upd (fun _ => 0) 0 3) 1 l2) 2 l3) 3 l4) 4 l5)))]) (w1 := [(q102, .inr (1, [.ref q103, .int 0, .int 0, .int 1])), (q103, .inl (cq104, 16, .inl f105)), (q106, .inr (0, [.ref q107, .int 0, .int 0, .int 0])), (q107, .inl (cq108, 1, .inl f109))]) hP hD [3, 4] [0, 1, 2] rfl rfl (by decide) (by decide) hk1 hFc hP1 hD1
    have hK := hK.app (hK1.sub (tys' := [(cq108, .byte)]) [1] rfl)
    generalize H1 = H at hP hS ⊢
    have hK : va_K (dC, dI) vwCl [(k0, .object "java/lang/String"), (k1, .int), (cq104, .byte), (cq108, .byte)] s := hK
    have hP : va_P (dC, dI) vwCl [(h0, .inr (9, [.int 0, .ref h1, .ref z0, .ref z1, .int 0, .int 0, .int 0])), (h1, .inl (k0, 4, .inr (.inr (.inr (.inr (va_up (va_up (va_up (va_up (fun _ => none) 0 (some ge5)) 1 (some ge5)) 2 (some ge5)) 3 (some ge5))))))), (h2, .inl (k1, 5, .inl (upd (upd (upd (upd (upd (fun _ => 0) 0 3) 1 l2) 2 l3) 3 l4) 4 l5))), (q102, .inr (1, [.ref q103, .int 0, .int 0, .int 1])), (q103, .inl (cq104, 16, .inl f105)), (q106, .inr (0, [.ref q107, .int 0, .int 0, .int 0])), (q107, .inl (cq108, 1, .inl f109))] H := hP
    have hD : va_D A [(h0, .inr (9, [.int 0, .ref h1, .ref z0, .ref z1, .int 0, .int 0, .int 0])), (h1, .inl (k0, 4, .inr (.inr (.inr (.inr (va_up (va_up (va_up (va_up (fun _ => none) 0 (some ge5)) 1 (some ge5)) 2 (some ge5)) 3 (some ge5))))))), (h2, .inl (k1, 5, .inl (upd (upd (upd (upd (upd (fun _ => 0) 0 3) 1 l2) 2 l3) 3 l4) 4 l5))), (q102, .inr (1, [.ref q103, .int 0, .int 0, .int 1])), (q103, .inl (cq104, 16, .inl f105)), (q106, .inr (0, [.ref q107, .int 0, .int 0, .int 0])), (q107, .inl (cq108, 1, .inl f109))] := hD
    refine W.widen (k := 5) (n := 30) (by omega) (by omega) ?_
    refine lv_astore (lv' := [(9, .ref q106), (8, .int 0), (13, .int 3), (0, .ref h0), (1, .int rp), (7, .ref h2), (10, .ref h2), (11, .int 5), (12, .int 0)]) hx hb dX5_type_116 hl (by decide) rfl (fun ls hl => ?_)
    refine lv_iinc (v := 1) (lv' := [(12, .int 1), (9, .ref q106), (8, .int 0), (13, .int 3), (0, .ref h0), (1, .int rp), (7, .ref h2), (10, .ref h2), (11, .int 5)]) hx hb dX5_type_118 hl (k := 8) rfl (by decide) (by decide) rfl (fun ls hl => ?_)
    refine lv_goto (tgt := 47) hx hb dX5_type_121 (by decide) ?_
    have hP := hP.sub (ws' := [(h0, .inr (9, [.int 0, .ref h1, .ref z0, .ref z1, .int 0, .int 0, .int 0])), (h1, .inl (k0, 4, .inr (.inr (.inr (.inr (va_up (va_up (va_up (va_up (fun _ => none) 0 (some ge5)) 1 (some ge5)) 2 (some ge5)) 3 (some ge5))))))), (h2, .inl (k1, 5, .inl (upd (upd (upd (upd (upd (fun _ => 0) 0 3) 1 l2) 2 l3) 3 l4) 4 l5))), (q106, .inr (0, [.ref q107, .int 0, .int 0, .int 0])), (q107, .inl (cq108, 1, .inl f109))]) [0, 1, 2, 5, 6] rfl
    have hD := hD.sub (ws' := [(h0, .inr (9, [.int 0, .ref h1, .ref z0, .ref z1, .int 0, .int 0, .int 0])), (h1, .inl (k0, 4, .inr (.inr (.inr (.inr (va_up (va_up (va_up (va_up (fun _ => none) 0 (some ge5)) 1 (some ge5)) 2 (some ge5)) 3 (some ge5))))))), (h2, .inl (k1, 5, .inl (upd (upd (upd (upd (upd (fun _ => 0) 0 3) 1 l2) 2 l3) 3 l4) 4 l5))), (q106, .inr (0, [.ref q107, .int 0, .int 0, .int 0])), (q107, .inl (cq108, 1, .inl f109))]) [0, 1, 2, 5, 6] (by decide) rfl
    have hK := hK.sub (tys' := [(k0, .object "java/lang/String"), (k1, .int), (cq108, .byte)]) [0, 1, 3] rfl
    have hl := lv_sub hl [4, 5, 6, 2, 1, 7, 8, 0] (show lv_pick [(12, .int 1), (9, .ref q106), (8, .int 0), (13, .int 3), (0, .ref h0), (1, .int rp), (7, .ref h2), (10, .ref h2), (11, .int 5)] [4, 5, 6, 2, 1, 7, 8, 0] = [(0, .ref h0), (1, .int rp), (7, .ref h2), (8, .int 0), (9, .ref q106), (10, .ref h2), (11, .int 5), (12, .int 1)] from rfl)
    exact kx_X5_type_h110 f109_t hR hx hb hr hml hown hts hlocks hA hG hS hK hP hD hl
  · have l1_l : (4 : Int) ≤ l1.toInt := by omega
    have l1_u : l1.toInt ≤ (2147483647 : Int) := by omega
    have hR : kz_ty rp 0 1 [l2, l3, l4, l5] = (R, v) := (kz_ty_b (by omega)).symm.trans hR
    refine lv_iload hx hb dX5_type_47 (lv_at hl 7 rfl) ?_
    refine lv_iload hx hb dX5_type_49 (lv_at hl 6 rfl) ?_
    refine lv_icmp_ge (tgt := 124) hx hb dX5_type_51 (by decide) (fun c9 => absurd c9 (by decide)) (fun _ => ?_)
    refine lv_aload hx hb dX5_type_54 (lv_at hl 5 rfl) ?_
    refine lv_iload hx hb dX5_type_56 (lv_at hl 7 rfl) ?_
    refine va_iald (D := (dC, dI)) hx hb hK hP 2 1 rfl rfl (by unfold vp_in; decide) dX5_type_58 ?_
    refine W.eq (g2 := F0 m 59 ls [.int l1]) rfl ?_
    refine lv_istore (lv' := [(13, .int l1), (0, .ref h0), (1, .int rp), (7, .ref h2), (8, .int 0), (9, .ref ge5), (10, .ref h2), (11, .int 5), (12, .int 0)]) hx hb dX5_type_59 hl (by decide) rfl (fun ls hl => ?_)
    refine lv_iload hx hb dX5_type_61 (lv_at hl 4 rfl) ?_
    refine lv_iload hx hb dX5_type_63 (lv_at hl 0 rfl) ?_
    refine lv_iconst (v := (-1)) hx hb dX5_type_65 (by decide) ?_
    refine lv_iconst (v := 3) hx hb dX5_type_66 (by decide) ?_
    have hPc := hP.sub (ws' := []) [] rfl
    have hDc := hD.sub (ws' := []) [] (by decide) rfl
    have hKc := hK.sub (tys' := []) [] rfl
    have hFc := va_free (wc := []) hD hS hA [] rfl
    refine va_calli (va_runS (As := [.int l1, .int (-1), .int 3]) (rest := [.int 0]) ⟨hx, hb, hml, hown, hts⟩ (kx_X5_isIn_15 l dC dI H.size l1 l1_l l1_u) (cwS 3 hts gX5_type_X5_isIn rfl rfl rfl (by decide +kernel) ⟨Nat.le_of_ble_eq_true rfl, Nat.le_of_ble_eq_true rfl⟩) ⟨fun a U g mk q => by obtain ⟨q0, q1, qP, qK, qD⟩ := q; exact ⟨q0, q1, qP, va_K.moved (u := U) (U := U.calling g mk a) (Vm.Alike.refl U.vm) qK, qD⟩, fun U hU hW => ⟨rfl, by rw [hU], by rw [hU]; exact hPc, va_K.moved hW.alike hKc, hDc.weaken (fun _ _ _ _ => trivial)⟩⟩ rfl rfl hl.1 rfl (lv_room (Nat.le_of_ble_eq_true rfl)) dX5_type_67 ⟨Nat.le_of_ble_eq_true rfl, Nat.le_of_ble_eq_true rfl⟩) hS (fun q _ h => hFc q h) hFc (fun r9 u t H1 locs ht hvm hw hB hz1 hk1 hS => ?_)
    obtain rfl := hw
    obtain ⟨hP1, hK1, hD1⟩ := hB
    rw [ht] at hP1
    have hK1 := va_K.moved hvm.symm hK1
    obtain ⟨hP, hD⟩ := va_join (wr := [(h0, .inr (9, [.int 0, .ref h1, .ref z0, .ref z1, .int 0, .int 0, .int 0])), (h1, .inl (k0, 4, .inr (.inr (.inr (.inr (va_up (va_up (va_up (va_up (fun _ => none) 0 (some ge5)) 1 (some ge5)) 2 (some ge5)) 3 (some ge5))))))), (h2, .inl (k1, 5, .inl (upd (upd (upd (upd (upd (fun _ => 0) 0 l1) 1 l2) 2 l3) 3 l4) 4 l5)))]) (w1 := []) hP hD [] [0, 1, 2] rfl rfl (by decide) (by decide) hk1 hFc hP1 hD1
    generalize H1 = H at hP hS ⊢
    have hP : va_P (dC, dI) vwCl [(h0, .inr (9, [.int 0, .ref h1, .ref z0, .ref z1, .int 0, .int 0, .int 0])), (h1, .inl (k0, 4, .inr (.inr (.inr (.inr (va_up (va_up (va_up (va_up (fun _ => none) 0 (some ge5)) 1 (some ge5)) 2 (some ge5)) 3 (some ge5))))))), (h2, .inl (k1, 5, .inl (upd (upd (upd (upd (upd (fun _ => 0) 0 l1) 1 l2) 2 l3) 3 l4) 4 l5)))] H := hP
    have hD : va_D A [(h0, .inr (9, [.int 0, .ref h1, .ref z0, .ref z1, .int 0, .int 0, .int 0])), (h1, .inl (k0, 4, .inr (.inr (.inr (.inr (va_up (va_up (va_up (va_up (fun _ => none) 0 (some ge5)) 1 (some ge5)) 2 (some ge5)) 3 (some ge5))))))), (h2, .inl (k1, 5, .inl (upd (upd (upd (upd (upd (fun _ => 0) 0 l1) 1 l2) 2 l3) 3 l4) 4 l5)))] := hD
    refine lv_if_ne (tgt := 77) hx hb dX5_type_70 (by decide) (fun c9 => absurd (by decide) c9) (fun _ => ?_)
    refine lv_iconst (v := 1) hx hb dX5_type_73 (by decide) ?_
    refine lv_goto (tgt := 78) hx hb dX5_type_74 (by decide) ?_
    refine lv_ior hx hb dX5_type_78 ?_
    refine lv_topi (fun y101 ey101 => ?_)
    obtain rfl : y101 = 1 := ey101.trans (by decide)
    refine lv_istore (lv' := [(8, .int 1), (13, .int l1), (0, .ref h0), (1, .int rp), (7, .ref h2), (9, .ref ge5), (10, .ref h2), (11, .int 5), (12, .int 0)]) hx hb dX5_type_79 hl (by decide) rfl (fun ls hl => ?_)
    refine lv_iload hx hb dX5_type_81 (lv_at hl 1 rfl) ?_
    refine lv_iconst (v := 0) hx hb dX5_type_83 (by decide) ?_
    refine lv_iconst (v := 3) hx hb dX5_type_84 (by decide) ?_
    have hPc := hP.sub (ws' := []) [] rfl
    have hDc := hD.sub (ws' := []) [] (by decide) rfl
    have hKc := hK.sub (tys' := []) [] rfl
    have hFc := va_free (wc := []) hD hS hA [] rfl
    refine va_calli (va_runS (As := [.int l1, .int 0, .int 3]) (rest := []) ⟨hx, hb, hml, hown, hts⟩ (kx_X5_isIn_2 l dC dI H.size l1 l1_l l1_u) (cwS 3 hts gX5_type_X5_isIn rfl rfl rfl (by decide +kernel) ⟨Nat.le_of_ble_eq_true rfl, Nat.le_of_ble_eq_true rfl⟩) ⟨fun a U g mk q => by obtain ⟨q0, q1, qP, qK, qD⟩ := q; exact ⟨q0, q1, qP, va_K.moved (u := U) (U := U.calling g mk a) (Vm.Alike.refl U.vm) qK, qD⟩, fun U hU hW => ⟨rfl, by rw [hU], by rw [hU]; exact hPc, va_K.moved hW.alike hKc, hDc.weaken (fun _ _ _ _ => trivial)⟩⟩ rfl rfl hl.1 rfl (lv_room (Nat.le_of_ble_eq_true rfl)) dX5_type_85 ⟨Nat.le_of_ble_eq_true rfl, Nat.le_of_ble_eq_true rfl⟩) hS (fun q _ h => hFc q h) hFc (fun r9 u t H1 locs ht hvm hw hB hz1 hk1 hS => ?_)
    obtain rfl := hw
    obtain ⟨hP1, hK1, hD1⟩ := hB
    rw [ht] at hP1
    have hK1 := va_K.moved hvm.symm hK1
    obtain ⟨hP, hD⟩ := va_join (wr := [(h0, .inr (9, [.int 0, .ref h1, .ref z0, .ref z1, .int 0, .int 0, .int 0])), (h1, .inl (k0, 4, .inr (.inr (.inr (.inr (va_up (va_up (va_up (va_up (fun _ => none) 0 (some ge5)) 1 (some ge5)) 2 (some ge5)) 3 (some ge5))))))), (h2, .inl (k1, 5, .inl (upd (upd (upd (upd (upd (fun _ => 0) 0 l1) 1 l2) 2 l3) 3 l4) 4 l5)))]) (w1 := []) hP hD [] [0, 1, 2] rfl rfl (by decide) (by decide) hk1 hFc hP1 hD1
    generalize H1 = H at hP hS ⊢
    have hP : va_P (dC, dI) vwCl [(h0, .inr (9, [.int 0, .ref h1, .ref z0, .ref z1, .int 0, .int 0, .int 0])), (h1, .inl (k0, 4, .inr (.inr (.inr (.inr (va_up (va_up (va_up (va_up (fun _ => none) 0 (some ge5)) 1 (some ge5)) 2 (some ge5)) 3 (some ge5))))))), (h2, .inl (k1, 5, .inl (upd (upd (upd (upd (upd (fun _ => 0) 0 l1) 1 l2) 2 l3) 3 l4) 4 l5)))] H := hP
    have hD : va_D A [(h0, .inr (9, [.int 0, .ref h1, .ref z0, .ref z1, .int 0, .int 0, .int 0])), (h1, .inl (k0, 4, .inr (.inr (.inr (.inr (va_up (va_up (va_up (va_up (fun _ => none) 0 (some ge5)) 1 (some ge5)) 2 (some ge5)) 3 (some ge5))))))), (h2, .inl (k1, 5, .inl (upd (upd (upd (upd (upd (fun _ => 0) 0 l1) 1 l2) 2 l3) 3 l4) 4 l5)))] := hD
    refine lv_if_eq (tgt := 118) hx hb dX5_type_88 (by decide) (fun _ => ?_) (fun c9 => absurd (by decide) c9)
    refine lv_iinc (v := 1) (lv' := [(12, .int 1), (8, .int 1), (13, .int l1), (0, .ref h0), (1, .int rp), (7, .ref h2), (9, .ref ge5), (10, .ref h2), (11, .int 5)]) hx hb dX5_type_118 hl (k := 8) rfl (by decide) (by decide) rfl (fun ls hl => ?_)
    refine lv_goto (tgt := 47) hx hb dX5_type_121 (by decide) ?_
    have hP := hP.sub (ws' := [(h0, .inr (9, [.int 0, .ref h1, .ref z0, .ref z1, .int 0, .int 0, .int 0])), (h1, .inl (k0, 4, .inr (.inr (.inr (.inr (va_up (va_up (va_up (va_up (fun _ => none) 0 (some ge5)) 1 (some ge5)) 2 (some ge5)) 3 (some ge5))))))), (h2, .inl (k1, 5, .inl (upd (upd (upd (upd (upd (fun _ => 0) 0 l1) 1 l2) 2 l3) 3 l4) 4 l5)))]) [0, 1, 2] rfl
    have hD := hD.sub (ws' := [(h0, .inr (9, [.int 0, .ref h1, .ref z0, .ref z1, .int 0, .int 0, .int 0])), (h1, .inl (k0, 4, .inr (.inr (.inr (.inr (va_up (va_up (va_up (va_up (fun _ => none) 0 (some ge5)) 1 (some ge5)) 2 (some ge5)) 3 (some ge5))))))), (h2, .inl (k1, 5, .inl (upd (upd (upd (upd (upd (fun _ => 0) 0 l1) 1 l2) 2 l3) 3 l4) 4 l5)))]) [0, 1, 2] (by decide) rfl
    have hK := hK.sub (tys' := [(k0, .object "java/lang/String"), (k1, .int)]) [0, 1] rfl
    have hl := lv_sub hl [3, 4, 5, 1, 6, 7, 8, 0] (show lv_pick [(12, .int 1), (8, .int 1), (13, .int l1), (0, .ref h0), (1, .int rp), (7, .ref h2), (9, .ref ge5), (10, .ref h2), (11, .int 5)] [3, 4, 5, 1, 6, 7, 8, 0] = [(0, .ref h0), (1, .int rp), (7, .ref h2), (8, .int 1), (9, .ref ge5), (10, .ref h2), (11, .int 5), (12, .int 1)] from rfl)
    exact kx_X5_type_h101 hR hx hb hr hml hown hts hlocks hA hG hS hK hP hD hl
set_option maxHeartbeats 8000000 in
set_option maxRecDepth 100000 in
theorem kx_X5_type_g (l : Launch) (dC : Nat → ClassId) (dI : Nat → Nat → Nat) (ge5 gea gv5 gva gde gic gi0 : Nat) (h0 : Nat) (h1 : Nat) (z0 : Nat) (z1 : Nat) (k0 : ClassId) (sz : Nat) (rp l1 l2 l3 l4 l5 R v : Int32) (hR : kz_ty rp 0 0 [l1, l2, l3, l4, l5] = (R, v)) : Met l yX5_type wsX5_type ({ frames := 6, cells := 25, slots := 169, locals := 171 }) (va_Pc [.ref h0, .int rp, .int l1, .int l2, .int l3, .int l4, .int l5] (fun U => U.heap.size = sz ∧ va_P (dC, dI) vwCl [(h0, .inr (9, [.int 0, .ref h1, .ref z0, .ref z1, .int 0, .int 0, .int 0])), (h1, .inl (k0, 4, .inr (.inr (.inr (.inr (va_up (va_up (va_up (va_up (fun _ => none) 0 (some ge5)) 1 (some ge5)) 2 (some ge5)) 3 (some ge5)))))))] U.heap ∧ va_K (dC, dI) vwCl [(k0, .object "java/lang/String")] U ∧ va_D (fun _ => True) [(h0, .inr (9, [.int 0, .ref h1, .ref z0, .ref z1, .int 0, .int 0, .int 0])), (h1, .inl (k0, 4, .inr (.inr (.inr (.inr (va_up (va_up (va_up (va_up (fun _ => none) 0 (some ge5)) 1 (some ge5)) 2 (some ge5)) 3 (some ge5)))))))] ∧ gv ge5 gea gv5 gva gde gic gi0 (va_A [(h0, .inr (9, [.int 0, .ref h1, .ref z0, .ref z1, .int 0, .int 0, .int 0])), (h1, .inl (k0, 4, .inr (.inr (.inr (.inr (va_up (va_up (va_up (va_up (fun _ => none) 0 (some ge5)) 1 (some ge5)) 2 (some ge5)) 3 (some ge5)))))))] sz) U U.heap)) (va_Qi (fun (r : Int32) (_ : Unit) => r = R) (fun (_ : Unit) (t : State) => va_P (dC, dI) vwCl [(h0, .inr (9, [.int v, .ref h1, .ref z0, .ref z1, .int 0, .int 0, .int 0]))] t.heap ∧ va_K (dC, dI) vwCl [(k0, .object "java/lang/String")] t ∧ va_D (va_A [(h0, .inr (9, [.int 0, .ref h1, .ref z0, .ref z1, .int 0, .int 0, .int 0])), (h1, .inl (k0, 4, .inr (.inr (.inr (.inr (va_up (va_up (va_up (va_up (fun _ => none) 0 (some ge5)) 1 (some ge5)) 2 (some ge5)) 3 (some ge5)))))))] sz) [(h0, .inr (9, [.int v, .ref h1, .ref z0, .ref z1, .int 0, .int 0, .int 0]))]) (va_A [(h0, .inr (9, [.int 0, .ref h1, .ref z0, .ref z1, .int 0, .int 0, .int 0])), (h1, .inl (k0, 4, .inr (.inr (.inr (.inr (va_up (va_up (va_up (va_up (fun _ => none) 0 (some ge5)) 1 (some ge5)) 2 (some ge5)) 3 (some ge5)))))))] sz)) 25 169 (va_A [(h0, .inr (9, [.int 0, .ref h1, .ref z0, .ref z1, .int 0, .int 0, .int 0])), (h1, .inl (k0, 4, .inr (.inr (.inr (.inr (va_up (va_up (va_up (va_up (fun _ => none) 0 (some ge5)) 1 (some ge5)) 2 (some ge5)) 3 (some ge5)))))))] sz) := by
  refine Met.ofW (cc := cX5_type) (maxL := 14) (ret := (some .int)) (by decide) rfl ?_
  intro p e s m args below meth c s₁ B hml hv
  obtain ⟨rfl, hsz, hP, hK, hD0, hG⟩ := hv
  have hx := B.exec
  have hb := B.bytes
  have hr := B.returns
  have hts := atoms_spec (ws := wsX5_type) B.pre
  have hown : s.vm.findClass RX5 = some m.cls := findClass_of_methodNamed B.named
  have hlocks := B.notSynchronized
  subst hsz
  have hD := hD0.self (sz := s.heap.size)
  generalize hAe : va_A [(h0, .inr (9, [.int 0, .ref h1, .ref z0, .ref z1, .int 0, .int 0, .int 0])), (h1, .inl (k0, 4, .inr (.inr (.inr (.inr (va_up (va_up (va_up (va_up (fun _ => none) 0 (some ge5)) 1 (some ge5)) 2 (some ge5)) 3 (some ge5)))))))] s.heap.size = A at hD hG ⊢
  obtain ⟨⟨g_AO_Text, g_AO_String, g_AO_Object, g_nm_RX1_20, g_nm_RX0_17, g_nm_RX3_31, g_nm_RX2_44, g_nm_RL_121, g_nf_RL_13, g_nf_RL_47, g_ca_IO, g_ca_IA, g_ca_IS, g_ca_IntObj, g_ca_StrObj, g_de_RT, g_de_EX, g_de_TH, g_nc_IA_IO, g_nc_IS_IO, g_nc_IS_IA⟩, ⟨g_s3, g_s5, g_sa, g_x278, g_x280, g_x282, g_x284, g_x286, g_x180, g_x238, g_x250⟩, ⟨g_o5, g_c5, g_v5, g_t5, g_oa, g_ca, g_va, g_ta, g_zc, g_zd, g_td, g_zf, g_zU, g_zN, g_zh, g_zk, g_tk, g_oi, g_vi⟩⟩ := id hG
  have hA : ∀ q : Nat, s.heap.size ≤ q → A q := fun q h => by rw [← hAe]; exact Or.inr h
  have hS : va_S A s.heap s.heap [] := va_S.rf
  have hP : va_P (dC, dI) vwCl [(h0, .inr (9, [.int 0, .ref h1, .ref z0, .ref z1, .int 0, .int 0, .int 0])), (h1, .inl (k0, 4, .inr (.inr (.inr (.inr (va_up (va_up (va_up (va_up (fun _ => none) 0 (some ge5)) 1 (some ge5)) 2 (some ge5)) 3 (some ge5)))))))] s.heap := hP
  have hl := lv_entry ([.ref h0, .int rp, .int l1, .int l2, .int l3, .int l4, .int l5]) (n := 14) (Nat.le_of_ble_eq_true rfl)
  rw [lg_entry_eq]
  generalize (lg_sl ([.ref h0, .int rp, .int l1, .int l2, .int l3, .int l4, .int l5]) ++ List.replicate (14 - (lg_sl ([.ref h0, .int rp, .int l1, .int l2, .int l3, .int l4, .int l5])).length) Slot.unset).toArray = ls at hl ⊢
  have hl : lv_has ls 14 [(0, .ref h0), (1, .int rp), (2, .int l1), (3, .int l2), (4, .int l3), (5, .int l4), (6, .int l5)] := hl
  refine lv_iconst (v := 5) hx hb dX5_type_0 (by decide) ?_
  refine va_newa (D := (dC, dI)) (atype := .int) (ty := .int) (a0 := (5, .inl (fun _ => 0))) (n := 5) (N' := 5) hx hb (hts (.arrayClass .int) (by decide +kernel)) rfl hK hP hD hS hA (fun _ => rfl) (by decide) (by decide) (Nat.le_of_ble_eq_true rfl) (Nat.le_of_ble_eq_true rfl) (Nat.le_of_ble_eq_true rfl) dX5_type_1 (fun q1 cq1 H hK hP hD hS => ?_)
  have hK : va_K (dC, dI) vwCl [(k0, .object "java/lang/String"), (cq1, .int)] s := hK
  have hP : va_P (dC, dI) vwCl [(h0, .inr (9, [.int 0, .ref h1, .ref z0, .ref z1, .int 0, .int 0, .int 0])), (h1, .inl (k0, 4, .inr (.inr (.inr (.inr (va_up (va_up (va_up (va_up (fun _ => none) 0 (some ge5)) 1 (some ge5)) 2 (some ge5)) 3 (some ge5))))))), (q1, .inl (cq1, 5, .inl (fun _ => 0)))] H := hP
  have hD : va_D A [(h0, .inr (9, [.int 0, .ref h1, .ref z0, .ref z1, .int 0, .int 0, .int 0])), (h1, .inl (k0, 4, .inr (.inr (.inr (.inr (va_up (va_up (va_up (va_up (fun _ => none) 0 (some ge5)) 1 (some ge5)) 2 (some ge5)) 3 (some ge5))))))), (q1, .inl (cq1, 5, .inl (fun _ => 0)))] := hD
  refine W.widen (k := 1) (n := 5) (by omega) (by omega) ?_
  refine lv_dup hx hb dX5_type_3 rfl ?_
  refine lv_iconst (v := 0) hx hb dX5_type_4 (by decide) ?_
  refine lv_iload_n hx hb dX5_type_5 rfl (lv_at hl 2 rfl) ?_
  refine va_iast (D := (dC, dI)) hx hb hK hP hD hS 2 1 rfl rfl (by unfold vp_in; decide) dX5_type_6 (fun H locs hP hD hS => ?_)
  have hP : va_P (dC, dI) vwCl [(h0, .inr (9, [.int 0, .ref h1, .ref z0, .ref z1, .int 0, .int 0, .int 0])), (h1, .inl (k0, 4, .inr (.inr (.inr (.inr (va_up (va_up (va_up (va_up (fun _ => none) 0 (some ge5)) 1 (some ge5)) 2 (some ge5)) 3 (some ge5))))))), (q1, .inl (cq1, 5, .inl (upd (fun _ => 0) 0 l1)))] H := hP
  have hD : va_D A [(h0, .inr (9, [.int 0, .ref h1, .ref z0, .ref z1, .int 0, .int 0, .int 0])), (h1, .inl (k0, 4, .inr (.inr (.inr (.inr (va_up (va_up (va_up (va_up (fun _ => none) 0 (some ge5)) 1 (some ge5)) 2 (some ge5)) 3 (some ge5))))))), (q1, .inl (cq1, 5, .inl (upd (fun _ => 0) 0 l1)))] := hD
  refine lv_dup hx hb dX5_type_7 rfl ?_
  refine lv_iconst (v := 1) hx hb dX5_type_8 (by decide) ?_
  refine lv_iload_n hx hb dX5_type_9 rfl (lv_at hl 3 rfl) ?_
  refine va_iast (D := (dC, dI)) hx hb hK hP hD hS 2 1 rfl rfl (by unfold vp_in; decide) dX5_type_10 (fun H locs hP hD hS => ?_)
  have hP : va_P (dC, dI) vwCl [(h0, .inr (9, [.int 0, .ref h1, .ref z0, .ref z1, .int 0, .int 0, .int 0])), (h1, .inl (k0, 4, .inr (.inr (.inr (.inr (va_up (va_up (va_up (va_up (fun _ => none) 0 (some ge5)) 1 (some ge5)) 2 (some ge5)) 3 (some ge5))))))), (q1, .inl (cq1, 5, .inl (upd (upd (fun _ => 0) 0 l1) 1 l2)))] H := hP
  have hD : va_D A [(h0, .inr (9, [.int 0, .ref h1, .ref z0, .ref z1, .int 0, .int 0, .int 0])), (h1, .inl (k0, 4, .inr (.inr (.inr (.inr (va_up (va_up (va_up (va_up (fun _ => none) 0 (some ge5)) 1 (some ge5)) 2 (some ge5)) 3 (some ge5))))))), (q1, .inl (cq1, 5, .inl (upd (upd (fun _ => 0) 0 l1) 1 l2)))] := hD
  refine lv_dup hx hb dX5_type_11 rfl ?_
  refine lv_iconst (v := 2) hx hb dX5_type_12 (by decide) ?_
  refine lv_iload hx hb dX5_type_13 (lv_at hl 4 rfl) ?_
  refine va_iast (D := (dC, dI)) hx hb hK hP hD hS 2 1 rfl rfl (by unfold vp_in; decide) dX5_type_15 (fun H locs hP hD hS => ?_)
  have hP : va_P (dC, dI) vwCl [(h0, .inr (9, [.int 0, .ref h1, .ref z0, .ref z1, .int 0, .int 0, .int 0])), (h1, .inl (k0, 4, .inr (.inr (.inr (.inr (va_up (va_up (va_up (va_up (fun _ => none) 0 (some ge5)) 1 (some ge5)) 2 (some ge5)) 3 (some ge5))))))), (q1, .inl (cq1, 5, .inl (upd (upd (upd (fun _ => 0) 0 l1) 1 l2) 2 l3)))] H := hP
  have hD : va_D A [(h0, .inr (9, [.int 0, .ref h1, .ref z0, .ref z1, .int 0, .int 0, .int 0])), (h1, .inl (k0, 4, .inr (.inr (.inr (.inr (va_up (va_up (va_up (va_up (fun _ => none) 0 (some ge5)) 1 (some ge5)) 2 (some ge5)) 3 (some ge5))))))), (q1, .inl (cq1, 5, .inl (upd (upd (upd (fun _ => 0) 0 l1) 1 l2) 2 l3)))] := hD
  refine lv_dup hx hb dX5_type_16 rfl ?_
  refine lv_iconst (v := 3) hx hb dX5_type_17 (by decide) ?_
  refine lv_iload hx hb dX5_type_18 (lv_at hl 5 rfl) ?_
  refine va_iast (D := (dC, dI)) hx hb hK hP hD hS 2 1 rfl rfl (by unfold vp_in; decide) dX5_type_20 (fun H locs hP hD hS => ?_)
  have hP : va_P (dC, dI) vwCl [(h0, .inr (9, [.int 0, .ref h1, .ref z0, .ref z1, .int 0, .int 0, .int 0])), (h1, .inl (k0, 4, .inr (.inr (.inr (.inr (va_up (va_up (va_up (va_up (fun _ => none) 0 (some ge5)) 1 (some ge5)) 2 (some ge5)) 3 (some ge5))))))), (q1, .inl (cq1, 5, .inl (upd (upd (upd (upd (fun _ => 0) 0 l1) 1 l2) 2 l3) 3 l4)))] H := hP
  have hD : va_D A [(h0, .inr (9, [.int 0, .ref h1, .ref z0, .ref z1, .int 0, .int 0, .int 0])), (h1, .inl (k0, 4, .inr (.inr (.inr (.inr (va_up (va_up (va_up (va_up (fun _ => none) 0 (some ge5)) 1 (some ge5)) 2 (some ge5)) 3 (some ge5))))))), (q1, .inl (cq1, 5, .inl (upd (upd (upd (upd (fun _ => 0) 0 l1) 1 l2) 2 l3) 3 l4)))] := hD
  refine lv_dup hx hb dX5_type_21 rfl ?_
  refine lv_iconst (v := 4) hx hb dX5_type_22 (by decide) ?_
  refine lv_iload hx hb dX5_type_23 (lv_at hl 6 rfl) ?_
  refine va_iast (D := (dC, dI)) hx hb hK hP hD hS 2 1 rfl rfl (by unfold vp_in; decide) dX5_type_25 (fun H locs hP hD hS => ?_)
  have hP : va_P (dC, dI) vwCl [(h0, .inr (9, [.int 0, .ref h1, .ref z0, .ref z1, .int 0, .int 0, .int 0])), (h1, .inl (k0, 4, .inr (.inr (.inr (.inr (va_up (va_up (va_up (va_up (fun _ => none) 0 (some ge5)) 1 (some ge5)) 2 (some ge5)) 3 (some ge5))))))), (q1, .inl (cq1, 5, .inl (upd (upd (upd (upd (upd (fun _ => 0) 0 l1) 1 l2) 2 l3) 3 l4) 4 l5)))] H := hP
  have hD : va_D A [(h0, .inr (9, [.int 0, .ref h1, .ref z0, .ref z1, .int 0, .int 0, .int 0])), (h1, .inl (k0, 4, .inr (.inr (.inr (.inr (va_up (va_up (va_up (va_up (fun _ => none) 0 (some ge5)) 1 (some ge5)) 2 (some ge5)) 3 (some ge5))))))), (q1, .inl (cq1, 5, .inl (upd (upd (upd (upd (upd (fun _ => 0) 0 l1) 1 l2) 2 l3) 3 l4) 4 l5)))] := hD
  refine lv_astore (lv' := [(7, .ref q1), (0, .ref h0), (1, .int rp), (2, .int l1), (3, .int l2), (4, .int l3), (5, .int l4), (6, .int l5)]) hx hb dX5_type_26 hl (by decide) rfl (fun ls hl => ?_)
  refine lv_iconst (v := 0) hx hb dX5_type_28 (by decide) ?_
  refine lv_istore (lv' := [(8, .int 0), (7, .ref q1), (0, .ref h0), (1, .int rp), (2, .int l1), (3, .int l2), (4, .int l3), (5, .int l4), (6, .int l5)]) hx hb dX5_type_29 hl (by decide) rfl (fun ls hl => ?_)
  refine va_ldcS hx hb hown g_s5 dX5_type_31 ?_
  refine lv_astore (lv' := [(9, .ref ge5), (8, .int 0), (7, .ref q1), (0, .ref h0), (1, .int rp), (2, .int l1), (3, .int l2), (4, .int l3), (5, .int l4), (6, .int l5)]) hx hb dX5_type_33 hl (by decide) rfl (fun ls hl => ?_)
  refine lv_aload hx hb dX5_type_35 (lv_at hl 2 rfl) ?_
  refine lv_astore (lv' := [(10, .ref q1), (9, .ref ge5), (8, .int 0), (7, .ref q1), (0, .ref h0), (1, .int rp), (2, .int l1), (3, .int l2), (4, .int l3), (5, .int l4), (6, .int l5)]) hx hb dX5_type_37 hl (by decide) rfl (fun ls hl => ?_)
  refine lv_aload hx hb dX5_type_39 (lv_at hl 0 rfl) ?_
  refine va_alen (D := (dC, dI)) (v := 5) hx hb hK hP 2 1 rfl rfl (show Int32.ofNat 5 = 5 from by decide) dX5_type_41 ?_
  refine lv_istore (lv' := [(11, .int 5), (10, .ref q1), (9, .ref ge5), (8, .int 0), (7, .ref q1), (0, .ref h0), (1, .int rp), (2, .int l1), (3, .int l2), (4, .int l3), (5, .int l4), (6, .int l5)]) hx hb dX5_type_42 hl (by decide) rfl (fun ls hl => ?_)
  refine lv_iconst (v := 0) hx hb dX5_type_44 (by decide) ?_
  refine lv_istore (lv' := [(12, .int 0), (11, .int 5), (10, .ref q1), (9, .ref ge5), (8, .int 0), (7, .ref q1), (0, .ref h0), (1, .int rp), (2, .int l1), (3, .int l2), (4, .int l3), (5, .int l4), (6, .int l5)]) hx hb dX5_type_45 hl (by decide) rfl (fun ls hl => ?_)
  have hP := hP.sub (ws' := [(h0, .inr (9, [.int 0, .ref h1, .ref z0, .ref z1, .int 0, .int 0, .int 0])), (h1, .inl (k0, 4, .inr (.inr (.inr (.inr (va_up (va_up (va_up (va_up (fun _ => none) 0 (some ge5)) 1 (some ge5)) 2 (some ge5)) 3 (some ge5))))))), (q1, .inl (cq1, 5, .inl (upd (upd (upd (upd (upd (fun _ => 0) 0 l1) 1 l2) 2 l3) 3 l4) 4 l5)))]) [0, 1, 2] rfl
  have hD := hD.sub (ws' := [(h0, .inr (9, [.int 0, .ref h1, .ref z0, .ref z1, .int 0, .int 0, .int 0])), (h1, .inl (k0, 4, .inr (.inr (.inr (.inr (va_up (va_up (va_up (va_up (fun _ => none) 0 (some ge5)) 1 (some ge5)) 2 (some ge5)) 3 (some ge5))))))), (q1, .inl (cq1, 5, .inl (upd (upd (upd (upd (upd (fun _ => 0) 0 l1) 1 l2) 2 l3) 3 l4) 4 l5)))]) [0, 1, 2] (by decide) rfl
  have hK := hK.sub (tys' := [(k0, .object "java/lang/String"), (cq1, .int)]) [0, 1] rfl
  have hl := lv_sub hl [6, 7, 5, 4, 3, 2, 1, 0] (show lv_pick [(12, .int 0), (11, .int 5), (10, .ref q1), (9, .ref ge5), (8, .int 0), (7, .ref q1), (0, .ref h0), (1, .int rp), (2, .int l1), (3, .int l2), (4, .int l3), (5, .int l4), (6, .int l5)] [6, 7, 5, 4, 3, 2, 1, 0] = [(0, .ref h0), (1, .int rp), (7, .ref q1), (8, .int 0), (9, .ref ge5), (10, .ref q1), (11, .int 5), (12, .int 0)] from rfl)
  exact kx_X5_type_h000 hR hx hb hr hml hown hts hlocks hA hG hS hK hP hD hl
set_option maxHeartbeats 4000000 in
set_option maxRecDepth 100000 in
theorem kx_X2_addPart_1 (l : Launch) (dC : Nat → ClassId) (dI : Nat → Nat → Nat) (h0 : Nat) (h1 : Nat) (h2 : Nat) (h3 : Nat) (k0 : ClassId) (k1 : ClassId) (sz : Nat) : Met l yX2_addPart wsX2_addPart ({ frames := 1, cells := 0, slots := 0, locals := 60 }) (va_Pc [.ref h2, .ref h0, .int 0, .int 0] (fun U => U.heap.size = sz ∧ va_P (dC, dI) vwCl [(h0, .inr (6, [.ref h1, .int 0])), (h1, .inl (k0, 64, .inl (fun _ => 0))), (h2, .inr (6, [.ref h3, .int 0])), (h3, .inl (k1, 64, .inl (fun _ => 0)))] U.heap ∧ va_K (dC, dI) vwCl [(k0, .byte), (k1, .byte)] U ∧ va_D (fun _ => True) [(h0, .inr (6, [.ref h1, .int 0])), (h1, .inl (k0, 64, .inl (fun _ => 0))), (h2, .inr (6, [.ref h3, .int 0])), (h3, .inl (k1, 64, .inl (fun _ => 0)))])) (va_Qv (fun _ : Unit => True) (fun (_ : Unit) (t : State) => va_P (dC, dI) vwCl [(h0, .inr (6, [.ref h1, .int 0])), (h1, .inl (k0, 64, .inl (fun _ => 0))), (h2, .inr (6, [.ref h3, .int 0])), (h3, .inl (k1, 64, .inl (fun _ => 0)))] t.heap ∧ va_K (dC, dI) vwCl [(k0, .byte), (k1, .byte)] t ∧ va_D (va_A [(h0, .inr (6, [.ref h1, .int 0])), (h1, .inl (k0, 64, .inl (fun _ => 0))), (h2, .inr (6, [.ref h3, .int 0])), (h3, .inl (k1, 64, .inl (fun _ => 0)))] sz) [(h0, .inr (6, [.ref h1, .int 0])), (h1, .inl (k0, 64, .inl (fun _ => 0))), (h2, .inr (6, [.ref h3, .int 0])), (h3, .inl (k1, 64, .inl (fun _ => 0)))]) (va_A [(h0, .inr (6, [.ref h1, .int 0])), (h1, .inl (k0, 64, .inl (fun _ => 0))), (h2, .inr (6, [.ref h3, .int 0])), (h3, .inl (k1, 64, .inl (fun _ => 0)))] sz)) 0 0 (va_A [(h0, .inr (6, [.ref h1, .int 0])), (h1, .inl (k0, 64, .inl (fun _ => 0))), (h2, .inr (6, [.ref h3, .int 0])), (h3, .inl (k1, 64, .inl (fun _ => 0)))] sz) := by
  refine Met.ofW (cc := cX2_addPart) (maxL := 5) (ret := none) (by decide) rfl ?_
  intro p e s m args below meth c s₁ B hml hv
  obtain ⟨rfl, hsz, hP, hK, hD0⟩ := hv
  have hx := B.exec
  have hb := B.bytes
  have hr := B.returns
  have hts := atoms_spec (ws := wsX2_addPart) B.pre
  have hown : s.vm.findClass RX2 = some m.cls := findClass_of_methodNamed B.named
  have hlocks := B.notSynchronized
  subst hsz
  have hD := hD0.self (sz := s.heap.size)
  generalize hAe : va_A [(h0, .inr (6, [.ref h1, .int 0])), (h1, .inl (k0, 64, .inl (fun _ => 0))), (h2, .inr (6, [.ref h3, .int 0])), (h3, .inl (k1, 64, .inl (fun _ => 0)))] s.heap.size = A at hD ⊢
  have hA : ∀ q : Nat, s.heap.size ≤ q → A q := fun q h => by rw [← hAe]; exact Or.inr h
  have hS : va_S A s.heap s.heap [] := va_S.rf
  have hP : va_P (dC, dI) vwCl [(h0, .inr (6, [.ref h1, .int 0])), (h1, .inl (k0, 64, .inl (fun _ => 0))), (h2, .inr (6, [.ref h3, .int 0])), (h3, .inl (k1, 64, .inl (fun _ => 0)))] s.heap := hP
  have hl := lv_entry ([.ref h2, .ref h0, .int 0, .int 0]) (n := 5) (Nat.le_of_ble_eq_true rfl)
  rw [lg_entry_eq]
  generalize (lg_sl ([.ref h2, .ref h0, .int 0, .int 0]) ++ List.replicate (5 - (lg_sl ([.ref h2, .ref h0, .int 0, .int 0])).length) Slot.unset).toArray = ls at hl ⊢
  have hl : lv_has ls 5 [(0, .ref h2), (1, .ref h0), (2, .int 0), (3, .int 0)] := hl
  refine lv_iload_n hx hb dX2_addPart_0 rfl (lv_at hl 3 rfl) ?_
  refine lv_iload_n hx hb dX2_addPart_1 rfl (lv_at hl 2 rfl) ?_
  refine lv_isub hx hb dX2_addPart_2 ?_
  refine lv_topi (fun y1 ey1 => ?_)
  obtain rfl : y1 = 0 := ey1.trans (by decide)
  refine lv_istore (lv' := [(4, .int 0), (0, .ref h2), (1, .ref h0), (2, .int 0), (3, .int 0)]) hx hb dX2_addPart_3 hl (by decide) rfl (fun ls hl => ?_)
  refine lv_iload_n hx hb dX2_addPart_5 rfl (lv_at hl 3 rfl) ?_
  refine lv_if_lt (tgt := 34) hx hb dX2_addPart_6 (by decide) (fun c9 => absurd c9 (by decide)) (fun _ => ?_)
  refine lv_iload hx hb dX2_addPart_9 (lv_at hl 0 rfl) ?_
  refine lv_if_lt (tgt := 34) hx hb dX2_addPart_11 (by decide) (fun c9 => absurd c9 (by decide)) (fun _ => ?_)
  refine lv_iload_n hx hb dX2_addPart_14 rfl (lv_at hl 4 rfl) ?_
  refine lv_aload_n hx hb dX2_addPart_15 rfl (lv_at hl 2 rfl) ?_
  refine va_get (D := (dC, dI)) (ci := 6) (v := .int 0) (C := RX2) (T := TX2) (N := 2) hx hb hts (by decide +kernel) hown hK hP 0 rfl rfl 1 (by decide) (hts (.fieldLink RX2 15 "Rewriterope$Text" "length" "I") (by decide +kernel)) (fun _ h9 => h9) rfl dX2_addPart_16 ?_
  refine lv_icmp_gt (tgt := 34) hx hb dX2_addPart_19 (by decide) (fun c9 => absurd c9 (by decide)) (fun _ => ?_)
  refine lv_aload_n hx hb dX2_addPart_22 rfl (lv_at hl 1 rfl) ?_
  refine va_get (D := (dC, dI)) (ci := 6) (v := .int 0) (C := RX2) (T := TX2) (N := 2) hx hb hts (by decide +kernel) hown hK hP 2 rfl rfl 1 (by decide) (hts (.fieldLink RX2 15 "Rewriterope$Text" "length" "I") (by decide +kernel)) (fun _ h9 => h9) rfl dX2_addPart_23 ?_
  refine lv_iload hx hb dX2_addPart_26 (lv_at hl 0 rfl) ?_
  refine lv_iadd hx hb dX2_addPart_28 ?_
  refine lv_topi (fun y2 ey2 => ?_)
  obtain rfl : y2 = 0 := ey2.trans (by decide)
  refine lv_bipush (v := 64) hx hb dX2_addPart_29 (by decide) ?_
  refine lv_icmp_le (tgt := 35) hx hb dX2_addPart_31 (by decide) (fun _ => ?_) (fun c9 => absurd (by decide) c9)
  refine lv_aload_n hx hb dX2_addPart_35 rfl (lv_at hl 2 rfl) ?_
  refine va_get (D := (dC, dI)) (ci := 6) (v := .ref h1) (C := RX2) (T := TX2) (N := 2) hx hb hts (by decide +kernel) hown hK hP 0 rfl rfl 0 (by decide) (hts (.fieldLink RX2 11 "Rewriterope$Text" "letters" "[B") (by decide +kernel)) (fun _ h9 => h9) rfl dX2_addPart_36 ?_
  refine lv_iload_n hx hb dX2_addPart_39 rfl (lv_at hl 3 rfl) ?_
  refine lv_aload_n hx hb dX2_addPart_40 rfl (lv_at hl 1 rfl) ?_
  refine va_get (D := (dC, dI)) (ci := 6) (v := .ref h3) (C := RX2) (T := TX2) (N := 2) hx hb hts (by decide +kernel) hown hK hP 2 rfl rfl 0 (by decide) (hts (.fieldLink RX2 11 "Rewriterope$Text" "letters" "[B") (by decide +kernel)) (fun _ h9 => h9) rfl dX2_addPart_41 ?_
  refine lv_aload_n hx hb dX2_addPart_44 rfl (lv_at hl 1 rfl) ?_
  refine va_get (D := (dC, dI)) (ci := 6) (v := .int 0) (C := RX2) (T := TX2) (N := 2) hx hb hts (by decide +kernel) hown hK hP 2 rfl rfl 1 (by decide) (hts (.fieldLink RX2 15 "Rewriterope$Text" "length" "I") (by decide +kernel)) (fun _ h9 => h9) rfl dX2_addPart_45 ?_
  refine lv_iload hx hb dX2_addPart_48 (lv_at hl 0 rfl) ?_
  refine va_copyi (D := (dC, dI)) (sp := 0) (dp := 0) (n := 0) hx hb (by rw [hml]; exact hl.1.symm) hown (hts (.methodLink RX2 19 arraycopyName) (by decide +kernel)) (hts (.native arraycopyName) (by decide +kernel)) (hts (.static arraycopyName) (by decide +kernel)) (hts (.initialized "java/lang/System") (by decide +kernel)) hK hP hD hS 1 3 0 1 rfl rfl rfl rfl rfl (by decide) (by decide) (by decide) (by decide) (by decide) (fun i hi => absurd hi (Nat.not_lt_zero i)) (Nat.le_of_ble_eq_true rfl) (Nat.le_of_ble_eq_true rfl) dX2_addPart_50 (fun H locs hP hD hS => ?_)
  rw [kz0] at hP hD
  have hP : va_P (dC, dI) vwCl [(h0, .inr (6, [.ref h1, .int 0])), (h1, .inl (k0, 64, .inl (fun _ => 0))), (h2, .inr (6, [.ref h3, .int 0])), (h3, .inl (k1, 64, .inl (fun _ => 0)))] H := hP
  have hD : va_D A [(h0, .inr (6, [.ref h1, .int 0])), (h1, .inl (k0, 64, .inl (fun _ => 0))), (h2, .inr (6, [.ref h3, .int 0])), (h3, .inl (k1, 64, .inl (fun _ => 0)))] := hD
  refine lv_aload_n hx hb dX2_addPart_53 rfl (lv_at hl 1 rfl) ?_
  refine lv_dup hx hb dX2_addPart_54 rfl ?_
  refine va_get (D := (dC, dI)) (ci := 6) (v := .int 0) (C := RX2) (T := TX2) (N := 2) hx hb hts (by decide +kernel) hown hK hP 2 rfl rfl 1 (by decide) (hts (.fieldLink RX2 15 "Rewriterope$Text" "length" "I") (by decide +kernel)) (fun _ h9 => h9) rfl dX2_addPart_55 ?_
  refine lv_iload hx hb dX2_addPart_58 (lv_at hl 0 rfl) ?_
  refine lv_iadd hx hb dX2_addPart_60 ?_
  refine lv_topi (fun y3 ey3 => ?_)
  obtain rfl : y3 = 0 := ey3.trans (by decide)
  refine va_put (D := (dC, dI)) (ci := 6) (v := .int 0) (ty := .int) (C := RX2) (T := TX2) (N := 2) hx hb hts (by decide +kernel) tyX2 tyX2_ok nmX2 hown hK hP hD hS 2 rfl rfl 1 (by decide) (hts (.fieldLink RX2 15 "Rewriterope$Text" "length" "I") (by decide +kernel)) (fun _ h9 => h9) rfl (by decide +kernel) rfl rfl (Nat.le_of_ble_eq_true rfl) dX2_addPart_61 (fun H locs hP hD hS => ?_)
  have hP : va_P (dC, dI) vwCl [(h0, .inr (6, [.ref h1, .int 0])), (h1, .inl (k0, 64, .inl (fun _ => 0))), (h2, .inr (6, [.ref h3, .int 0])), (h3, .inl (k1, 64, .inl (fun _ => 0)))] H := hP
  have hD : va_D A [(h0, .inr (6, [.ref h1, .int 0])), (h1, .inl (k0, 64, .inl (fun _ => 0))), (h2, .inr (6, [.ref h3, .int 0])), (h3, .inl (k1, 64, .inl (fun _ => 0)))] := hD
  exact W.vret hx hb hr (fun t ht hW => ⟨⟨(), rfl, trivial, by rw [ht]; exact hP, va_K.moved hW.alike hK, hD⟩, hS.F ht⟩) hS.2.2 dX2_addPart_64
set_option maxHeartbeats 8000000 in
set_option maxRecDepth 100000 in
theorem kx_X3_type_h50 {l : Launch} {dC : Nat → ClassId} {dI : Nat → Nat → Nat} {h0 h1 h2 h3 h4 h5 h6 h7 h8 h9 h10 h11 z0 z1 z2 z3 : Nat} {k0 k1 k2 k3 k4 k5 : ClassId} {rp  R : Int32} {p : Program} {e : Env} {s : State} {m : MethodId} {args : Array Value} {below : List Frame} {meth : Method} {c : Code} {A : Nat → Prop} {H : Heap} {locs : List Loc} {ls : Array Slot} (hR : kz_ct 0 [] = R) (rp_l : (0 : Int) ≤ rp.toInt) (rp_u : rp.toInt ≤ (3 : Int)) (hx : p.tables.exec = Jvm.exec) (hb : c.code = cX3_type) (hr : meth.sig.returnType = some .int) (hml : c.maxLocals = 8) (hown : s.vm.findClass RX3 = some m.cls) (hts : ∀ w ∈ wsX3_type, w.before args s = true) (hlocks : meth.locks = false) (hA : ∀ q : Nat, s.heap.size ≤ q → A q) (hS : va_S A s.heap H locs) (hK : va_K (dC, dI) vwCl [(k0, .object "Rewriterope$Text"), (k1, .byte), (k2, .byte), (k3, .byte), (k4, .byte), (k5, .byte)] s) (hP : va_P (dC, dI) vwCl [(h0, .inr (7, [.ref h1, .ref z0, .ref z1, .ref h2, .ref z2, .ref z3, .int 0, .int 0, .int 0])), (h1, .inl (k0, 4, .inr (.inr (.inr (.inr (va_up (va_up (va_up (va_up (fun _ => none) 0 (some h4)) 1 (some h6)) 2 (some h8)) 3 (some h10))))))), (h2, .inr (6, [.ref h3, .int 0])), (h3, .inl (k1, 64, .inl (fun _ => 0))), (h4, .inr (6, [.ref h5, .int 0])), (h5, .inl (k2, 64, .inl (fun _ => 0))), (h6, .inr (6, [.ref h7, .int 0])), (h7, .inl (k3, 64, .inl (fun _ => 0))), (h8, .inr (6, [.ref h9, .int 0])), (h9, .inl (k4, 64, .inl (fun _ => 0))), (h10, .inr (6, [.ref h11, .int 0])), (h11, .inl (k5, 64, .inl (fun _ => 0)))] H) (hD : va_D A [(h0, .inr (7, [.ref h1, .ref z0, .ref z1, .ref h2, .ref z2, .ref z3, .int 0, .int 0, .int 0])), (h1, .inl (k0, 4, .inr (.inr (.inr (.inr (va_up (va_up (va_up (va_up (fun _ => none) 0 (some h4)) 1 (some h6)) 2 (some h8)) 3 (some h10))))))), (h2, .inr (6, [.ref h3, .int 0])), (h3, .inl (k1, 64, .inl (fun _ => 0))), (h4, .inr (6, [.ref h5, .int 0])), (h5, .inl (k2, 64, .inl (fun _ => 0))), (h6, .inr (6, [.ref h7, .int 0])), (h7, .inl (k3, 64, .inl (fun _ => 0))), (h8, .inr (6, [.ref h9, .int 0])), (h9, .inl (k4, 64, .inl (fun _ => 0))), (h10, .inr (6, [.ref h11, .int 0])), (h11, .inl (k5, 64, .inl (fun _ => 0)))]) (hl : lv_has ls 8 [(0, .ref h0), (1, .int rp)]) : W p l e (headSpec wsX3_type ({ frames := 2, cells := 0, slots := 0, locals := 84 })).room s m args below meth c H locs 0 0 (MQ below (va_Qi (fun (r : Int32) (_ : Unit) => r = R) (fun (_ : Unit) (t : State) => va_P (dC, dI) vwCl [(h0, .inr (7, [.ref h1, .ref z0, .ref z1, .ref h2, .ref z2, .ref z3, .int 0, .int 0, .int 0]))] t.heap ∧ va_K (dC, dI) vwCl [(k0, .object "Rewriterope$Text"), (k1, .byte), (k2, .byte), (k3, .byte), (k4, .byte), (k5, .byte)] t ∧ va_D A [(h0, .inr (7, [.ref h1, .ref z0, .ref z1, .ref h2, .ref z2, .ref z3, .int 0, .int 0, .int 0]))]) A) args s 0 0 A) (F0 m 77 ls []) := by
  have hR9 : (0 : Int32) = R := (show (0 : Int32) = kz_ct 0 [] from (kz_ct_e.trans (by decide)).symm).trans hR
  subst hR9
  rcases kz_r4 rp_l rp_u with rfl | rfl | rfl | rfl
  · refine lv_aload_n hx hb dX3_type_77 rfl (lv_at hl 0 rfl) ?_
    refine va_get (D := (dC, dI)) (ci := 7) (v := .ref h1) (C := RX3) (T := TX3) (N := 9) hx hb hts (by decide +kernel) hown hK hP 0 rfl rfl 0 (by decide) (hts (.fieldLink RX3 11 "Rewriterope" "ropes" "[LRewriterope$Text;") (by decide +kernel)) (fun _ h9 => h9) rfl dX3_type_78 ?_
    refine lv_iload_n hx hb dX3_type_81 rfl (lv_at hl 1 rfl) ?_
    refine va_aldq (D := (dC, dI)) hx hb hK hP 1 0 rfl rfl (by unfold vp_in; decide) dX3_type_82 ?_
    refine W.eq (g2 := F0 m 83 ls [.ref h4]) rfl ?_
    refine lv_astore (lv' := [(7, .ref h4), (0, .ref h0), (1, .int 0)]) hx hb dX3_type_83 hl (by decide) rfl (fun ls hl => ?_)
    refine lv_aload hx hb dX3_type_85 (lv_at hl 0 rfl) ?_
    refine va_get (D := (dC, dI)) (ci := 6) (v := .int 0) (C := RX2) (T := TX2) (N := 2) hx hb hts (by decide +kernel) hown hK hP 4 rfl rfl 1 (by decide) (hts (.fieldLink RX3 65 "Rewriterope$Text" "length" "I") (by decide +kernel)) (fun _ h9 => h9) rfl dX3_type_87 ?_
    refine lv_aload_n hx hb dX3_type_90 rfl (lv_at hl 1 rfl) ?_
    refine va_get (D := (dC, dI)) (ci := 7) (v := .ref h2) (C := RX3) (T := TX3) (N := 9) hx hb hts (by decide +kernel) hown hK hP 0 rfl rfl 3 (by decide) (hts (.fieldLink RX3 32 "Rewriterope" "work" "LRewriterope$Text;") (by decide +kernel)) (fun _ h9 => h9) rfl dX3_type_91 ?_
    refine va_get (D := (dC, dI)) (ci := 6) (v := .int 0) (C := RX2) (T := TX2) (N := 2) hx hb hts (by decide +kernel) hown hK hP 2 rfl rfl 1 (by decide) (hts (.fieldLink RX3 65 "Rewriterope$Text" "length" "I") (by decide +kernel)) (fun _ h9 => h9) rfl dX3_type_94 ?_
    refine lv_iadd hx hb dX3_type_97 ?_
    refine lv_topi (fun y101 ey101 => ?_)
    obtain rfl : y101 = 0 := ey101.trans (by decide)
    refine lv_bipush (v := 32) hx hb dX3_type_98 (by decide) ?_
    refine lv_icmp_le (tgt := 113) hx hb dX3_type_100 (by decide) (fun _ => ?_) (fun c9 => absurd (by decide) c9)
    refine lv_aload hx hb dX3_type_113 (lv_at hl 0 rfl) ?_
    refine lv_aload_n hx hb dX3_type_115 rfl (lv_at hl 1 rfl) ?_
    refine va_get (D := (dC, dI)) (ci := 7) (v := .ref h2) (C := RX3) (T := TX3) (N := 9) hx hb hts (by decide +kernel) hown hK hP 0 rfl rfl 3 (by decide) (hts (.fieldLink RX3 32 "Rewriterope" "work" "LRewriterope$Text;") (by decide +kernel)) (fun _ h9 => h9) rfl dX3_type_116 ?_
    refine lv_iconst (v := 0) hx hb dX3_type_119 (by decide) ?_
    refine lv_aload_n hx hb dX3_type_120 rfl (lv_at hl 1 rfl) ?_
    refine va_get (D := (dC, dI)) (ci := 7) (v := .ref h2) (C := RX3) (T := TX3) (N := 9) hx hb hts (by decide +kernel) hown hK hP 0 rfl rfl 3 (by decide) (hts (.fieldLink RX3 32 "Rewriterope" "work" "LRewriterope$Text;") (by decide +kernel)) (fun _ h9 => h9) rfl dX3_type_121 ?_
    refine va_get (D := (dC, dI)) (ci := 6) (v := .int 0) (C := RX2) (T := TX2) (N := 2) hx hb hts (by decide +kernel) hown hK hP 2 rfl rfl 1 (by decide) (hts (.fieldLink RX3 65 "Rewriterope$Text" "length" "I") (by decide +kernel)) (fun _ h9 => h9) rfl dX3_type_124 ?_
    have hPc := hP.sub (ws' := [(h2, .inr (6, [.ref h3, .int 0])), (h3, .inl (k1, 64, .inl (fun _ => 0))), (h4, .inr (6, [.ref h5, .int 0])), (h5, .inl (k2, 64, .inl (fun _ => 0)))]) [2, 3, 4, 5] rfl
    have hDc := hD.sub (ws' := [(h2, .inr (6, [.ref h3, .int 0])), (h3, .inl (k1, 64, .inl (fun _ => 0))), (h4, .inr (6, [.ref h5, .int 0])), (h5, .inl (k2, 64, .inl (fun _ => 0)))]) [2, 3, 4, 5] (by decide) rfl
    have hKc := hK.sub (tys' := [(k1, .byte), (k2, .byte)]) [1, 2] rfl
    have hFc := va_free (wc := [(h2, .inr (6, [.ref h3, .int 0])), (h3, .inl (k1, 64, .inl (fun _ => 0))), (h4, .inr (6, [.ref h5, .int 0])), (h5, .inl (k2, 64, .inl (fun _ => 0)))]) hD hS hA [2, 3, 4, 5] rfl
    refine va_callv (va_runV (As := [.ref h2, .int 0, .int 0]) (rest := []) ⟨hx, hb, hml, hown, hts⟩ (kx_X2_addPart_1 l dC dI h2 h3 h4 h5 k1 k2 H.size) (cwV 3 hts gX3_type_X2_addPart rfl rfl rfl (by decide +kernel) ⟨Nat.le_of_ble_eq_true rfl, Nat.le_of_ble_eq_true rfl⟩) ⟨fun a U g mk q => by obtain ⟨q0, q1, qP, qK, qD⟩ := q; exact ⟨q0, q1, qP, va_K.moved (u := U) (U := U.calling g mk a) (Vm.Alike.refl U.vm) qK, qD⟩, va_recv hKc hPc (ci := 6) (q0 := 2) rfl rfl, fun U hU hW => ⟨rfl, by rw [hU], by rw [hU]; exact hPc, va_K.moved hW.alike hKc, hDc.weaken (fun _ _ _ _ => trivial)⟩⟩ rfl rfl hl.1 rfl (lv_room (Nat.le_of_ble_eq_true rfl)) dX3_type_127 ⟨Nat.le_of_ble_eq_true rfl, Nat.le_of_ble_eq_true rfl⟩) hS (fun q _ h => hFc q h) hFc (fun u t H1 locs ht hvm hw hB hz1 hk1 hS => ?_)
    obtain ⟨hP1, hK1, hD1⟩ := hB
    rw [ht] at hP1
    have hK1 := va_K.moved hvm.symm hK1
    obtain ⟨hP, hD⟩ := va_join (wr := [(h0, .inr (7, [.ref h1, .ref z0, .ref z1, .ref h2, .ref z2, .ref z3, .int 0, .int 0, .int 0])), (h1, .inl (k0, 4, .inr (.inr (.inr (.inr (va_up (va_up (va_up (va_up (fun _ => none) 0 (some h4)) 1 (some h6)) 2 (some h8)) 3 (some h10))))))), (h6, .inr (6, [.ref h7, .int 0])), (h7, .inl (k3, 64, .inl (fun _ => 0))), (h8, .inr (6, [.ref h9, .int 0])), (h9, .inl (k4, 64, .inl (fun _ => 0))), (h10, .inr (6, [.ref h11, .int 0])), (h11, .inl (k5, 64, .inl (fun _ => 0)))]) (w1 := [(h2, .inr (6, [.ref h3, .int 0])), (h3, .inl (k1, 64, .inl (fun _ => 0))), (h4, .inr (6, [.ref h5, .int 0])), (h5, .inl (k2, 64, .inl (fun _ => 0)))]) hP hD [2, 3, 4, 5] [0, 1, 6, 7, 8, 9, 10, 11] rfl rfl (by decide) (by decide) hk1 hFc hP1 hD1
    generalize H1 = H at hP hS ⊢
    have hP : va_P (dC, dI) vwCl [(h0, .inr (7, [.ref h1, .ref z0, .ref z1, .ref h2, .ref z2, .ref z3, .int 0, .int 0, .int 0])), (h1, .inl (k0, 4, .inr (.inr (.inr (.inr (va_up (va_up (va_up (va_up (fun _ => none) 0 (some h4)) 1 (some h6)) 2 (some h8)) 3 (some h10))))))), (h6, .inr (6, [.ref h7, .int 0])), (h7, .inl (k3, 64, .inl (fun _ => 0))), (h8, .inr (6, [.ref h9, .int 0])), (h9, .inl (k4, 64, .inl (fun _ => 0))), (h10, .inr (6, [.ref h11, .int 0])), (h11, .inl (k5, 64, .inl (fun _ => 0))), (h2, .inr (6, [.ref h3, .int 0])), (h3, .inl (k1, 64, .inl (fun _ => 0))), (h4, .inr (6, [.ref h5, .int 0])), (h5, .inl (k2, 64, .inl (fun _ => 0)))] H := hP
    have hD : va_D A [(h0, .inr (7, [.ref h1, .ref z0, .ref z1, .ref h2, .ref z2, .ref z3, .int 0, .int 0, .int 0])), (h1, .inl (k0, 4, .inr (.inr (.inr (.inr (va_up (va_up (va_up (va_up (fun _ => none) 0 (some h4)) 1 (some h6)) 2 (some h8)) 3 (some h10))))))), (h6, .inr (6, [.ref h7, .int 0])), (h7, .inl (k3, 64, .inl (fun _ => 0))), (h8, .inr (6, [.ref h9, .int 0])), (h9, .inl (k4, 64, .inl (fun _ => 0))), (h10, .inr (6, [.ref h11, .int 0])), (h11, .inl (k5, 64, .inl (fun _ => 0))), (h2, .inr (6, [.ref h3, .int 0])), (h3, .inl (k1, 64, .inl (fun _ => 0))), (h4, .inr (6, [.ref h5, .int 0])), (h5, .inl (k2, 64, .inl (fun _ => 0)))] := hD
    refine lv_aload hx hb dX3_type_130 (lv_at hl 0 rfl) ?_
    refine va_get (D := (dC, dI)) (ci := 6) (v := .int 0) (C := RX2) (T := TX2) (N := 2) hx hb hts (by decide +kernel) hown hK hP 10 rfl rfl 1 (by decide) (hts (.fieldLink RX3 65 "Rewriterope$Text" "length" "I") (by decide +kernel)) (fun _ h9 => h9) rfl dX3_type_132 ?_
    refine W.widen (k := 0) (n := 0) (Nat.le_of_ble_eq_true rfl) (Nat.le_of_ble_eq_true rfl) ?_
    have hK := hK.sub (tys' := [(k0, .object "Rewriterope$Text"), (k1, .byte), (k2, .byte), (k3, .byte), (k4, .byte), (k5, .byte)]) [0, 1, 2, 3, 4, 5] rfl
    have hP := hP.sub (ws' := [(h0, .inr (7, [.ref h1, .ref z0, .ref z1, .ref h2, .ref z2, .ref z3, .int 0, .int 0, .int 0]))]) [0] rfl
    have hD := hD.sub (ws' := [(h0, .inr (7, [.ref h1, .ref z0, .ref z1, .ref h2, .ref z2, .ref z3, .int 0, .int 0, .int 0]))]) [0] (by decide) rfl
    exact W.iret (v := 0) hx hb hr (fun t ht hW => ⟨⟨0, (), rfl, rfl, by rw [ht]; exact hP, va_K.moved hW.alike hK, hD⟩, hS.F ht⟩) hS.2.2 dX3_type_135
  · refine lv_aload_n hx hb dX3_type_77 rfl (lv_at hl 0 rfl) ?_
    refine va_get (D := (dC, dI)) (ci := 7) (v := .ref h1) (C := RX3) (T := TX3) (N := 9) hx hb hts (by decide +kernel) hown hK hP 0 rfl rfl 0 (by decide) (hts (.fieldLink RX3 11 "Rewriterope" "ropes" "[LRewriterope$Text;") (by decide +kernel)) (fun _ h9 => h9) rfl dX3_type_78 ?_
    refine lv_iload_n hx hb dX3_type_81 rfl (lv_at hl 1 rfl) ?_
    refine va_aldq (D := (dC, dI)) hx hb hK hP 1 0 rfl rfl (by unfold vp_in; decide) dX3_type_82 ?_
    refine W.eq (g2 := F0 m 83 ls [.ref h6]) rfl ?_
    refine lv_astore (lv' := [(7, .ref h6), (0, .ref h0), (1, .int 1)]) hx hb dX3_type_83 hl (by decide) rfl (fun ls hl => ?_)
    refine lv_aload hx hb dX3_type_85 (lv_at hl 0 rfl) ?_
    refine va_get (D := (dC, dI)) (ci := 6) (v := .int 0) (C := RX2) (T := TX2) (N := 2) hx hb hts (by decide +kernel) hown hK hP 6 rfl rfl 1 (by decide) (hts (.fieldLink RX3 65 "Rewriterope$Text" "length" "I") (by decide +kernel)) (fun _ h9 => h9) rfl dX3_type_87 ?_
    refine lv_aload_n hx hb dX3_type_90 rfl (lv_at hl 1 rfl) ?_
    refine va_get (D := (dC, dI)) (ci := 7) (v := .ref h2) (C := RX3) (T := TX3) (N := 9) hx hb hts (by decide +kernel) hown hK hP 0 rfl rfl 3 (by decide) (hts (.fieldLink RX3 32 "Rewriterope" "work" "LRewriterope$Text;") (by decide +kernel)) (fun _ h9 => h9) rfl dX3_type_91 ?_
    refine va_get (D := (dC, dI)) (ci := 6) (v := .int 0) (C := RX2) (T := TX2) (N := 2) hx hb hts (by decide +kernel) hown hK hP 2 rfl rfl 1 (by decide) (hts (.fieldLink RX3 65 "Rewriterope$Text" "length" "I") (by decide +kernel)) (fun _ h9 => h9) rfl dX3_type_94 ?_
    refine lv_iadd hx hb dX3_type_97 ?_
    refine lv_topi (fun y101 ey101 => ?_)
    obtain rfl : y101 = 0 := ey101.trans (by decide)
    refine lv_bipush (v := 32) hx hb dX3_type_98 (by decide) ?_
    refine lv_icmp_le (tgt := 113) hx hb dX3_type_100 (by decide) (fun _ => ?_) (fun c9 => absurd (by decide) c9)
    refine lv_aload hx hb dX3_type_113 (lv_at hl 0 rfl) ?_
    refine lv_aload_n hx hb dX3_type_115 rfl (lv_at hl 1 rfl) ?_
    refine va_get (D := (dC, dI)) (ci := 7) (v := .ref h2) (C := RX3) (T := TX3) (N := 9) hx hb hts (by decide +kernel) hown hK hP 0 rfl rfl 3 (by decide) (hts (.fieldLink RX3 32 "Rewriterope" "work" "LRewriterope$Text;") (by decide +kernel)) (fun _ h9 => h9) rfl dX3_type_116 ?_
    refine lv_iconst (v := 0) hx hb dX3_type_119 (by decide) ?_
    refine lv_aload_n hx hb dX3_type_120 rfl (lv_at hl 1 rfl) ?_
    refine va_get (D := (dC, dI)) (ci := 7) (v := .ref h2) (C := RX3) (T := TX3) (N := 9) hx hb hts (by decide +kernel) hown hK hP 0 rfl rfl 3 (by decide) (hts (.fieldLink RX3 32 "Rewriterope" "work" "LRewriterope$Text;") (by decide +kernel)) (fun _ h9 => h9) rfl dX3_type_121 ?_
    refine va_get (D := (dC, dI)) (ci := 6) (v := .int 0) (C := RX2) (T := TX2) (N := 2) hx hb hts (by decide +kernel) hown hK hP 2 rfl rfl 1 (by decide) (hts (.fieldLink RX3 65 "Rewriterope$Text" "length" "I") (by decide +kernel)) (fun _ h9 => h9) rfl dX3_type_124 ?_
    have hPc := hP.sub (ws' := [(h2, .inr (6, [.ref h3, .int 0])), (h3, .inl (k1, 64, .inl (fun _ => 0))), (h6, .inr (6, [.ref h7, .int 0])), (h7, .inl (k3, 64, .inl (fun _ => 0)))]) [2, 3, 6, 7] rfl
    have hDc := hD.sub (ws' := [(h2, .inr (6, [.ref h3, .int 0])), (h3, .inl (k1, 64, .inl (fun _ => 0))), (h6, .inr (6, [.ref h7, .int 0])), (h7, .inl (k3, 64, .inl (fun _ => 0)))]) [2, 3, 6, 7] (by decide) rfl
    have hKc := hK.sub (tys' := [(k1, .byte), (k3, .byte)]) [1, 3] rfl
    have hFc := va_free (wc := [(h2, .inr (6, [.ref h3, .int 0])), (h3, .inl (k1, 64, .inl (fun _ => 0))), (h6, .inr (6, [.ref h7, .int 0])), (h7, .inl (k3, 64, .inl (fun _ => 0)))]) hD hS hA [2, 3, 6, 7] rfl
    refine va_callv (va_runV (As := [.ref h2, .int 0, .int 0]) (rest := []) ⟨hx, hb, hml, hown, hts⟩ (kx_X2_addPart_1 l dC dI h2 h3 h6 h7 k1 k3 H.size) (cwV 3 hts gX3_type_X2_addPart rfl rfl rfl (by decide +kernel) ⟨Nat.le_of_ble_eq_true rfl, Nat.le_of_ble_eq_true rfl⟩) ⟨fun a U g mk q => by obtain ⟨q0, q1, qP, qK, qD⟩ := q; exact ⟨q0, q1, qP, va_K.moved (u := U) (U := U.calling g mk a) (Vm.Alike.refl U.vm) qK, qD⟩, va_recv hKc hPc (ci := 6) (q0 := 2) rfl rfl, fun U hU hW => ⟨rfl, by rw [hU], by rw [hU]; exact hPc, va_K.moved hW.alike hKc, hDc.weaken (fun _ _ _ _ => trivial)⟩⟩ rfl rfl hl.1 rfl (lv_room (Nat.le_of_ble_eq_true rfl)) dX3_type_127 ⟨Nat.le_of_ble_eq_true rfl, Nat.le_of_ble_eq_true rfl⟩) hS (fun q _ h => hFc q h) hFc (fun u t H1 locs ht hvm hw hB hz1 hk1 hS => ?_)
    obtain ⟨hP1, hK1, hD1⟩ := hB
    rw [ht] at hP1
    have hK1 := va_K.moved hvm.symm hK1
    obtain ⟨hP, hD⟩ := va_join (wr := [(h0, .inr (7, [.ref h1, .ref z0, .ref z1, .ref h2, .ref z2, .ref z3, .int 0, .int 0, .int 0])), (h1, .inl (k0, 4, .inr (.inr (.inr (.inr (va_up (va_up (va_up (va_up (fun _ => none) 0 (some h4)) 1 (some h6)) 2 (some h8)) 3 (some h10))))))), (h4, .inr (6, [.ref h5, .int 0])), (h5, .inl (k2, 64, .inl (fun _ => 0))), (h8, .inr (6, [.ref h9, .int 0])), (h9, .inl (k4, 64, .inl (fun _ => 0))), (h10, .inr (6, [.ref h11, .int 0])), (h11, .inl (k5, 64, .inl (fun _ => 0)))]) (w1 := [(h2, .inr (6, [.ref h3, .int 0])), (h3, .inl (k1, 64, .inl (fun _ => 0))), (h6, .inr (6, [.ref h7, .int 0])), (h7, .inl (k3, 64, .inl (fun _ => 0)))]) hP hD [2, 3, 6, 7] [0, 1, 4, 5, 8, 9, 10, 11] rfl rfl (by decide) (by decide) hk1 hFc hP1 hD1
    generalize H1 = H at hP hS ⊢
    have hP : va_P (dC, dI) vwCl [(h0, .inr (7, [.ref h1, .ref z0, .ref z1, .ref h2, .ref z2, .ref z3, .int 0, .int 0, .int 0])), (h1, .inl (k0, 4, .inr (.inr (.inr (.inr (va_up (va_up (va_up (va_up (fun _ => none) 0 (some h4)) 1 (some h6)) 2 (some h8)) 3 (some h10))))))), (h4, .inr (6, [.ref h5, .int 0])), (h5, .inl (k2, 64, .inl (fun _ => 0))), (h8, .inr (6, [.ref h9, .int 0])), (h9, .inl (k4, 64, .inl (fun _ => 0))), (h10, .inr (6, [.ref h11, .int 0])), (h11, .inl (k5, 64, .inl (fun _ => 0))), (h2, .inr (6, [.ref h3, .int 0])), (h3, .inl (k1, 64, .inl (fun _ => 0))), (h6, .inr (6, [.ref h7, .int 0])), (h7, .inl (k3, 64, .inl (fun _ => 0)))] H := hP
    have hD : va_D A [(h0, .inr (7, [.ref h1, .ref z0, .ref z1, .ref h2, .ref z2, .ref z3, .int 0, .int 0, .int 0])), (h1, .inl (k0, 4, .inr (.inr (.inr (.inr (va_up (va_up (va_up (va_up (fun _ => none) 0 (some h4)) 1 (some h6)) 2 (some h8)) 3 (some h10))))))), (h4, .inr (6, [.ref h5, .int 0])), (h5, .inl (k2, 64, .inl (fun _ => 0))), (h8, .inr (6, [.ref h9, .int 0])), (h9, .inl (k4, 64, .inl (fun _ => 0))), (h10, .inr (6, [.ref h11, .int 0])), (h11, .inl (k5, 64, .inl (fun _ => 0))), (h2, .inr (6, [.ref h3, .int 0])), (h3, .inl (k1, 64, .inl (fun _ => 0))), (h6, .inr (6, [.ref h7, .int 0])), (h7, .inl (k3, 64, .inl (fun _ => 0)))] := hD
    refine lv_aload hx hb dX3_type_130 (lv_at hl 0 rfl) ?_
    refine va_get (D := (dC, dI)) (ci := 6) (v := .int 0) (C := RX2) (T := TX2) (N := 2) hx hb hts (by decide +kernel) hown hK hP 10 rfl rfl 1 (by decide) (hts (.fieldLink RX3 65 "Rewriterope$Text" "length" "I") (by decide +kernel)) (fun _ h9 => h9) rfl dX3_type_132 ?_
    refine W.widen (k := 0) (n := 0) (Nat.le_of_ble_eq_true rfl) (Nat.le_of_ble_eq_true rfl) ?_
    have hK := hK.sub (tys' := [(k0, .object "Rewriterope$Text"), (k1, .byte), (k2, .byte), (k3, .byte), (k4, .byte), (k5, .byte)]) [0, 1, 2, 3, 4, 5] rfl
    have hP := hP.sub (ws' := [(h0, .inr (7, [.ref h1, .ref z0, .ref z1, .ref h2, .ref z2, .ref z3, .int 0, .int 0, .int 0]))]) [0] rfl
    have hD := hD.sub (ws' := [(h0, .inr (7, [.ref h1, .ref z0, .ref z1, .ref h2, .ref z2, .ref z3, .int 0, .int 0, .int 0]))]) [0] (by decide) rfl
    exact W.iret (v := 0) hx hb hr (fun t ht hW => ⟨⟨0, (), rfl, rfl, by rw [ht]; exact hP, va_K.moved hW.alike hK, hD⟩, hS.F ht⟩) hS.2.2 dX3_type_135
  · refine lv_aload_n hx hb dX3_type_77 rfl (lv_at hl 0 rfl) ?_
    refine va_get (D := (dC, dI)) (ci := 7) (v := .ref h1) (C := RX3) (T := TX3) (N := 9) hx hb hts (by decide +kernel) hown hK hP 0 rfl rfl 0 (by decide) (hts (.fieldLink RX3 11 "Rewriterope" "ropes" "[LRewriterope$Text;") (by decide +kernel)) (fun _ h9 => h9) rfl dX3_type_78 ?_
    refine lv_iload_n hx hb dX3_type_81 rfl (lv_at hl 1 rfl) ?_
    refine va_aldq (D := (dC, dI)) hx hb hK hP 1 0 rfl rfl (by unfold vp_in; decide) dX3_type_82 ?_
    refine W.eq (g2 := F0 m 83 ls [.ref h8]) rfl ?_
    refine lv_astore (lv' := [(7, .ref h8), (0, .ref h0), (1, .int 2)]) hx hb dX3_type_83 hl (by decide) rfl (fun ls hl => ?_)
    refine lv_aload hx hb dX3_type_85 (lv_at hl 0 rfl) ?_
    refine va_get (D := (dC, dI)) (ci := 6) (v := .int 0) (C := RX2) (T := TX2) (N := 2) hx hb hts (by decide +kernel) hown hK hP 8 rfl rfl 1 (by decide) (hts (.fieldLink RX3 65 "Rewriterope$Text" "length" "I") (by decide +kernel)) (fun _ h9 => h9) rfl dX3_type_87 ?_
    refine lv_aload_n hx hb dX3_type_90 rfl (lv_at hl 1 rfl) ?_
    refine va_get (D := (dC, dI)) (ci := 7) (v := .ref h2) (C := RX3) (T := TX3) (N := 9) hx hb hts (by decide +kernel) hown hK hP 0 rfl rfl 3 (by decide) (hts (.fieldLink RX3 32 "Rewriterope" "work" "LRewriterope$Text;") (by decide +kernel)) (fun _ h9 => h9) rfl dX3_type_91 ?_
    refine va_get (D := (dC, dI)) (ci := 6) (v := .int 0) (C := RX2) (T := TX2) (N := 2) hx hb hts (by decide +kernel) hown hK hP 2 rfl rfl 1 (by decide) (hts (.fieldLink RX3 65 "Rewriterope$Text" "length" "I") (by decide +kernel)) (fun _ h9 => h9) rfl dX3_type_94 ?_
    refine lv_iadd hx hb dX3_type_97 ?_
    refine lv_topi (fun y101 ey101 => ?_)
    obtain rfl : y101 = 0 := ey101.trans (by decide)
    refine lv_bipush (v := 32) hx hb dX3_type_98 (by decide) ?_
    refine lv_icmp_le (tgt := 113) hx hb dX3_type_100 (by decide) (fun _ => ?_) (fun c9 => absurd (by decide) c9)
    refine lv_aload hx hb dX3_type_113 (lv_at hl 0 rfl) ?_
    refine lv_aload_n hx hb dX3_type_115 rfl (lv_at hl 1 rfl) ?_
    refine va_get (D := (dC, dI)) (ci := 7) (v := .ref h2) (C := RX3) (T := TX3) (N := 9) hx hb hts (by decide +kernel) hown hK hP 0 rfl rfl 3 (by decide) (hts (.fieldLink RX3 32 "Rewriterope" "work" "LRewriterope$Text;") (by decide +kernel)) (fun _ h9 => h9) rfl dX3_type_116 ?_
    refine lv_iconst (v := 0) hx hb dX3_type_119 (by decide) ?_
    refine lv_aload_n hx hb dX3_type_120 rfl (lv_at hl 1 rfl) ?_
    refine va_get (D := (dC, dI)) (ci := 7) (v := .ref h2) (C := RX3) (T := TX3) (N := 9) hx hb hts (by decide +kernel) hown hK hP 0 rfl rfl 3 (by decide) (hts (.fieldLink RX3 32 "Rewriterope" "work" "LRewriterope$Text;") (by decide +kernel)) (fun _ h9 => h9) rfl dX3_type_121 ?_
    refine va_get (D := (dC, dI)) (ci := 6) (v := .int 0) (C := RX2) (T := TX2) (N := 2) hx hb hts (by decide +kernel) hown hK hP 2 rfl rfl 1 (by decide) (hts (.fieldLink RX3 65 "Rewriterope$Text" "length" "I") (by decide +kernel)) (fun _ h9 => h9) rfl dX3_type_124 ?_
    have hPc := hP.sub (ws' := [(h2, .inr (6, [.ref h3, .int 0])), (h3, .inl (k1, 64, .inl (fun _ => 0))), (h8, .inr (6, [.ref h9, .int 0])), (h9, .inl (k4, 64, .inl (fun _ => 0)))]) [2, 3, 8, 9] rfl
    have hDc := hD.sub (ws' := [(h2, .inr (6, [.ref h3, .int 0])), (h3, .inl (k1, 64, .inl (fun _ => 0))), (h8, .inr (6, [.ref h9, .int 0])), (h9, .inl (k4, 64, .inl (fun _ => 0)))]) [2, 3, 8, 9] (by decide) rfl
    have hKc := hK.sub (tys' := [(k1, .byte), (k4, .byte)]) [1, 4] rfl
    have hFc := va_free (wc := [(h2, .inr (6, [.ref h3, .int 0])), (h3, .inl (k1, 64, .inl (fun _ => 0))), (h8, .inr (6, [.ref h9, .int 0])), (h9, .inl (k4, 64, .inl (fun _ => 0)))]) hD hS hA [2, 3, 8, 9] rfl
    refine va_callv (va_runV (As := [.ref h2, .int 0, .int 0]) (rest := []) ⟨hx, hb, hml, hown, hts⟩ (kx_X2_addPart_1 l dC dI h2 h3 h8 h9 k1 k4 H.size) (cwV 3 hts gX3_type_X2_addPart rfl rfl rfl (by decide +kernel) ⟨Nat.le_of_ble_eq_true rfl, Nat.le_of_ble_eq_true rfl⟩) ⟨fun a U g mk q => by obtain ⟨q0, q1, qP, qK, qD⟩ := q; exact ⟨q0, q1, qP, va_K.moved (u := U) (U := U.calling g mk a) (Vm.Alike.refl U.vm) qK, qD⟩, va_recv hKc hPc (ci := 6) (q0 := 2) rfl rfl, fun U hU hW => ⟨rfl, by rw [hU], by rw [hU]; exact hPc, va_K.moved hW.alike hKc, hDc.weaken (fun _ _ _ _ => trivial)⟩⟩ rfl rfl hl.1 rfl (lv_room (Nat.le_of_ble_eq_true rfl)) dX3_type_127 ⟨Nat.le_of_ble_eq_true rfl, Nat.le_of_ble_eq_true rfl⟩) hS (fun q _ h => hFc q h) hFc (fun u t H1 locs ht hvm hw hB hz1 hk1 hS => ?_)
    obtain ⟨hP1, hK1, hD1⟩ := hB
    rw [ht] at hP1
    have hK1 := va_K.moved hvm.symm hK1
    obtain ⟨hP, hD⟩ := va_join (wr := [(h0, .inr (7, [.ref h1, .ref z0, .ref z1, .ref h2, .ref z2, .ref z3, .int 0, .int 0, .int 0])), (h1, .inl (k0, 4, .inr (.inr (.inr (.inr (va_up (va_up (va_up (va_up (fun _ => none) 0 (some h4)) 1 (some h6)) 2 (some h8)) 3 (some h10))))))), (h4, .inr (6, [.ref h5, .int 0])), (h5, .inl (k2, 64, .inl (fun _ => 0))), (h6, .inr (6, [.ref h7, .int 0])), (h7, .inl (k3, 64, .inl (fun _ => 0))), (h10, .inr (6, [.ref h11, .int 0])), (h11, .inl (k5, 64, .inl (fun _ => 0)))]) (w1 := [(h2, .inr (6, [.ref h3, .int 0])), (h3, .inl (k1, 64, .inl (fun _ => 0))), (h8, .inr (6, [.ref h9, .int 0])), (h9, .inl (k4, 64, .inl (fun _ => 0)))]) hP hD [2, 3, 8, 9] [0, 1, 4, 5, 6, 7, 10, 11] rfl rfl (by decide) (by decide) hk1 hFc hP1 hD1
    generalize H1 = H at hP hS ⊢
    have hP : va_P (dC, dI) vwCl [(h0, .inr (7, [.ref h1, .ref z0, .ref z1, .ref h2, .ref z2, .ref z3, .int 0, .int 0, .int 0])), (h1, .inl (k0, 4, .inr (.inr (.inr (.inr (va_up (va_up (va_up (va_up (fun _ => none) 0 (some h4)) 1 (some h6)) 2 (some h8)) 3 (some h10))))))), (h4, .inr (6, [.ref h5, .int 0])), (h5, .inl (k2, 64, .inl (fun _ => 0))), (h6, .inr (6, [.ref h7, .int 0])), (h7, .inl (k3, 64, .inl (fun _ => 0))), (h10, .inr (6, [.ref h11, .int 0])), (h11, .inl (k5, 64, .inl (fun _ => 0))), (h2, .inr (6, [.ref h3, .int 0])), (h3, .inl (k1, 64, .inl (fun _ => 0))), (h8, .inr (6, [.ref h9, .int 0])), (h9, .inl (k4, 64, .inl (fun _ => 0)))] H := hP
    have hD : va_D A [(h0, .inr (7, [.ref h1, .ref z0, .ref z1, .ref h2, .ref z2, .ref z3, .int 0, .int 0, .int 0])), (h1, .inl (k0, 4, .inr (.inr (.inr (.inr (va_up (va_up (va_up (va_up (fun _ => none) 0 (some h4)) 1 (some h6)) 2 (some h8)) 3 (some h10))))))), (h4, .inr (6, [.ref h5, .int 0])), (h5, .inl (k2, 64, .inl (fun _ => 0))), (h6, .inr (6, [.ref h7, .int 0])), (h7, .inl (k3, 64, .inl (fun _ => 0))), (h10, .inr (6, [.ref h11, .int 0])), (h11, .inl (k5, 64, .inl (fun _ => 0))), (h2, .inr (6, [.ref h3, .int 0])), (h3, .inl (k1, 64, .inl (fun _ => 0))), (h8, .inr (6, [.ref h9, .int 0])), (h9, .inl (k4, 64, .inl (fun _ => 0)))] := hD
    refine lv_aload hx hb dX3_type_130 (lv_at hl 0 rfl) ?_
    refine va_get (D := (dC, dI)) (ci := 6) (v := .int 0) (C := RX2) (T := TX2) (N := 2) hx hb hts (by decide +kernel) hown hK hP 10 rfl rfl 1 (by decide) (hts (.fieldLink RX3 65 "Rewriterope$Text" "length" "I") (by decide +kernel)) (fun _ h9 => h9) rfl dX3_type_132 ?_
    refine W.widen (k := 0) (n := 0) (Nat.le_of_ble_eq_true rfl) (Nat.le_of_ble_eq_true rfl) ?_
    have hK := hK.sub (tys' := [(k0, .object "Rewriterope$Text"), (k1, .byte), (k2, .byte), (k3, .byte), (k4, .byte), (k5, .byte)]) [0, 1, 2, 3, 4, 5] rfl
    have hP := hP.sub (ws' := [(h0, .inr (7, [.ref h1, .ref z0, .ref z1, .ref h2, .ref z2, .ref z3, .int 0, .int 0, .int 0]))]) [0] rfl
    have hD := hD.sub (ws' := [(h0, .inr (7, [.ref h1, .ref z0, .ref z1, .ref h2, .ref z2, .ref z3, .int 0, .int 0, .int 0]))]) [0] (by decide) rfl
    exact W.iret (v := 0) hx hb hr (fun t ht hW => ⟨⟨0, (), rfl, rfl, by rw [ht]; exact hP, va_K.moved hW.alike hK, hD⟩, hS.F ht⟩) hS.2.2 dX3_type_135
  · refine lv_aload_n hx hb dX3_type_77 rfl (lv_at hl 0 rfl) ?_
    refine va_get (D := (dC, dI)) (ci := 7) (v := .ref h1) (C := RX3) (T := TX3) (N := 9) hx hb hts (by decide +kernel) hown hK hP 0 rfl rfl 0 (by decide) (hts (.fieldLink RX3 11 "Rewriterope" "ropes" "[LRewriterope$Text;") (by decide +kernel)) (fun _ h9 => h9) rfl dX3_type_78 ?_
    refine lv_iload_n hx hb dX3_type_81 rfl (lv_at hl 1 rfl) ?_
    refine va_aldq (D := (dC, dI)) hx hb hK hP 1 0 rfl rfl (by unfold vp_in; decide) dX3_type_82 ?_
    refine W.eq (g2 := F0 m 83 ls [.ref h10]) rfl ?_
    refine lv_astore (lv' := [(7, .ref h10), (0, .ref h0), (1, .int 3)]) hx hb dX3_type_83 hl (by decide) rfl (fun ls hl => ?_)
    refine lv_aload hx hb dX3_type_85 (lv_at hl 0 rfl) ?_
    refine va_get (D := (dC, dI)) (ci := 6) (v := .int 0) (C := RX2) (T := TX2) (N := 2) hx hb hts (by decide +kernel) hown hK hP 10 rfl rfl 1 (by decide) (hts (.fieldLink RX3 65 "Rewriterope$Text" "length" "I") (by decide +kernel)) (fun _ h9 => h9) rfl dX3_type_87 ?_
    refine lv_aload_n hx hb dX3_type_90 rfl (lv_at hl 1 rfl) ?_
    refine va_get (D := (dC, dI)) (ci := 7) (v := .ref h2) (C := RX3) (T := TX3) (N := 9) hx hb hts (by decide +kernel) hown hK hP 0 rfl rfl 3 (by decide) (hts (.fieldLink RX3 32 "Rewriterope" "work" "LRewriterope$Text;") (by decide +kernel)) (fun _ h9 => h9) rfl dX3_type_91 ?_
    refine va_get (D := (dC, dI)) (ci := 6) (v := .int 0) (C := RX2) (T := TX2) (N := 2) hx hb hts (by decide +kernel) hown hK hP 2 rfl rfl 1 (by decide) (hts (.fieldLink RX3 65 "Rewriterope$Text" "length" "I") (by decide +kernel)) (fun _ h9 => h9) rfl dX3_type_94 ?_
    refine lv_iadd hx hb dX3_type_97 ?_
    refine lv_topi (fun y101 ey101 => ?_)
    obtain rfl : y101 = 0 := ey101.trans (by decide)
    refine lv_bipush (v := 32) hx hb dX3_type_98 (by decide) ?_
    refine lv_icmp_le (tgt := 113) hx hb dX3_type_100 (by decide) (fun _ => ?_) (fun c9 => absurd (by decide) c9)
    refine lv_aload hx hb dX3_type_113 (lv_at hl 0 rfl) ?_
    refine lv_aload_n hx hb dX3_type_115 rfl (lv_at hl 1 rfl) ?_
    refine va_get (D := (dC, dI)) (ci := 7) (v := .ref h2) (C := RX3) (T := TX3) (N := 9) hx hb hts (by decide +kernel) hown hK hP 0 rfl rfl 3 (by decide) (hts (.fieldLink RX3 32 "Rewriterope" "work" "LRewriterope$Text;") (by decide +kernel)) (fun _ h9 => h9) rfl dX3_type_116 ?_
    refine lv_iconst (v := 0) hx hb dX3_type_119 (by decide) ?_
    refine lv_aload_n hx hb dX3_type_120 rfl (lv_at hl 1 rfl) ?_
    refine va_get (D := (dC, dI)) (ci := 7) (v := .ref h2) (C := RX3) (T := TX3) (N := 9) hx hb hts (by decide +kernel) hown hK hP 0 rfl rfl 3 (by decide) (hts (.fieldLink RX3 32 "Rewriterope" "work" "LRewriterope$Text;") (by decide +kernel)) (fun _ h9 => h9) rfl dX3_type_121 ?_
    refine va_get (D := (dC, dI)) (ci := 6) (v := .int 0) (C := RX2) (T := TX2) (N := 2) hx hb hts (by decide +kernel) hown hK hP 2 rfl rfl 1 (by decide) (hts (.fieldLink RX3 65 "Rewriterope$Text" "length" "I") (by decide +kernel)) (fun _ h9 => h9) rfl dX3_type_124 ?_
    have hPc := hP.sub (ws' := [(h2, .inr (6, [.ref h3, .int 0])), (h3, .inl (k1, 64, .inl (fun _ => 0))), (h10, .inr (6, [.ref h11, .int 0])), (h11, .inl (k5, 64, .inl (fun _ => 0)))]) [2, 3, 10, 11] rfl
    have hDc := hD.sub (ws' := [(h2, .inr (6, [.ref h3, .int 0])), (h3, .inl (k1, 64, .inl (fun _ => 0))), (h10, .inr (6, [.ref h11, .int 0])), (h11, .inl (k5, 64, .inl (fun _ => 0)))]) [2, 3, 10, 11] (by decide) rfl
    have hKc := hK.sub (tys' := [(k1, .byte), (k5, .byte)]) [1, 5] rfl
    have hFc := va_free (wc := [(h2, .inr (6, [.ref h3, .int 0])), (h3, .inl (k1, 64, .inl (fun _ => 0))), (h10, .inr (6, [.ref h11, .int 0])), (h11, .inl (k5, 64, .inl (fun _ => 0)))]) hD hS hA [2, 3, 10, 11] rfl
    refine va_callv (va_runV (As := [.ref h2, .int 0, .int 0]) (rest := []) ⟨hx, hb, hml, hown, hts⟩ (kx_X2_addPart_1 l dC dI h2 h3 h10 h11 k1 k5 H.size) (cwV 3 hts gX3_type_X2_addPart rfl rfl rfl (by decide +kernel) ⟨Nat.le_of_ble_eq_true rfl, Nat.le_of_ble_eq_true rfl⟩) ⟨fun a U g mk q => by obtain ⟨q0, q1, qP, qK, qD⟩ := q; exact ⟨q0, q1, qP, va_K.moved (u := U) (U := U.calling g mk a) (Vm.Alike.refl U.vm) qK, qD⟩, va_recv hKc hPc (ci := 6) (q0 := 2) rfl rfl, fun U hU hW => ⟨rfl, by rw [hU], by rw [hU]; exact hPc, va_K.moved hW.alike hKc, hDc.weaken (fun _ _ _ _ => trivial)⟩⟩ rfl rfl hl.1 rfl (lv_room (Nat.le_of_ble_eq_true rfl)) dX3_type_127 ⟨Nat.le_of_ble_eq_true rfl, Nat.le_of_ble_eq_true rfl⟩) hS (fun q _ h => hFc q h) hFc (fun u t H1 locs ht hvm hw hB hz1 hk1 hS => ?_)
    obtain ⟨hP1, hK1, hD1⟩ := hB
    rw [ht] at hP1
    have hK1 := va_K.moved hvm.symm hK1
    obtain ⟨hP, hD⟩ := va_join (wr := [(h0, .inr (7, [.ref h1, .ref z0, .ref z1, .ref h2, .ref z2, .ref z3, .int 0, .int 0, .int 0])), (h1, .inl (k0, 4, .inr (.inr (.inr (.inr (va_up (va_up (va_up (va_up (fun _ => none) 0 (some h4)) 1 (some h6)) 2 (some h8)) 3 (some h10))))))), (h4, .inr (6, [.ref h5, .int 0])), (h5, .inl (k2, 64, .inl (fun _ => 0))), (h6, .inr (6, [.ref h7, .int 0])), (h7, .inl (k3, 64, .inl (fun _ => 0))), (h8, .inr (6, [.ref h9, .int 0])), (h9, .inl (k4, 64, .inl (fun _ => 0)))]) (w1 := [(h2, .inr (6, [.ref h3, .int 0])), (h3, .inl (k1, 64, .inl (fun _ => 0))), (h10, .inr (6, [.ref h11, .int 0])), (h11, .inl (k5, 64, .inl (fun _ => 0)))]) hP hD [2, 3, 10, 11] [0, 1, 4, 5, 6, 7, 8, 9] rfl rfl (by decide) (by decide) hk1 hFc hP1 hD1
    generalize H1 = H at hP hS ⊢
    have hP : va_P (dC, dI) vwCl [(h0, .inr (7, [.ref h1, .ref z0, .ref z1, .ref h2, .ref z2, .ref z3, .int 0, .int 0, .int 0])), (h1, .inl (k0, 4, .inr (.inr (.inr (.inr (va_up (va_up (va_up (va_up (fun _ => none) 0 (some h4)) 1 (some h6)) 2 (some h8)) 3 (some h10))))))), (h4, .inr (6, [.ref h5, .int 0])), (h5, .inl (k2, 64, .inl (fun _ => 0))), (h6, .inr (6, [.ref h7, .int 0])), (h7, .inl (k3, 64, .inl (fun _ => 0))), (h8, .inr (6, [.ref h9, .int 0])), (h9, .inl (k4, 64, .inl (fun _ => 0))), (h2, .inr (6, [.ref h3, .int 0])), (h3, .inl (k1, 64, .inl (fun _ => 0))), (h10, .inr (6, [.ref h11, .int 0])), (h11, .inl (k5, 64, .inl (fun _ => 0)))] H := hP
    have hD : va_D A [(h0, .inr (7, [.ref h1, .ref z0, .ref z1, .ref h2, .ref z2, .ref z3, .int 0, .int 0, .int 0])), (h1, .inl (k0, 4, .inr (.inr (.inr (.inr (va_up (va_up (va_up (va_up (fun _ => none) 0 (some h4)) 1 (some h6)) 2 (some h8)) 3 (some h10))))))), (h4, .inr (6, [.ref h5, .int 0])), (h5, .inl (k2, 64, .inl (fun _ => 0))), (h6, .inr (6, [.ref h7, .int 0])), (h7, .inl (k3, 64, .inl (fun _ => 0))), (h8, .inr (6, [.ref h9, .int 0])), (h9, .inl (k4, 64, .inl (fun _ => 0))), (h2, .inr (6, [.ref h3, .int 0])), (h3, .inl (k1, 64, .inl (fun _ => 0))), (h10, .inr (6, [.ref h11, .int 0])), (h11, .inl (k5, 64, .inl (fun _ => 0)))] := hD
    refine lv_aload hx hb dX3_type_130 (lv_at hl 0 rfl) ?_
    refine va_get (D := (dC, dI)) (ci := 6) (v := .int 0) (C := RX2) (T := TX2) (N := 2) hx hb hts (by decide +kernel) hown hK hP 10 rfl rfl 1 (by decide) (hts (.fieldLink RX3 65 "Rewriterope$Text" "length" "I") (by decide +kernel)) (fun _ h9 => h9) rfl dX3_type_132 ?_
    refine W.widen (k := 0) (n := 0) (Nat.le_of_ble_eq_true rfl) (Nat.le_of_ble_eq_true rfl) ?_
    have hK := hK.sub (tys' := [(k0, .object "Rewriterope$Text"), (k1, .byte), (k2, .byte), (k3, .byte), (k4, .byte), (k5, .byte)]) [0, 1, 2, 3, 4, 5] rfl
    have hP := hP.sub (ws' := [(h0, .inr (7, [.ref h1, .ref z0, .ref z1, .ref h2, .ref z2, .ref z3, .int 0, .int 0, .int 0]))]) [0] rfl
    have hD := hD.sub (ws' := [(h0, .inr (7, [.ref h1, .ref z0, .ref z1, .ref h2, .ref z2, .ref z3, .int 0, .int 0, .int 0]))]) [0] (by decide) rfl
    exact W.iret (v := 0) hx hb hr (fun t ht hW => ⟨⟨0, (), rfl, rfl, by rw [ht]; exact hP, va_K.moved hW.alike hK, hD⟩, hS.F ht⟩) hS.2.2 dX3_type_135
set_option maxHeartbeats 4000000 in
set_option maxRecDepth 100000 in
theorem kx_X2_addPart_2 (l : Launch) (dC : Nat → ClassId) (dI : Nat → Nat → Nat) (h0 : Nat) (h1 : Nat) (h2 : Nat) (h3 : Nat) (k0 : ClassId) (k1 : ClassId) (sz : Nat) (f0 : Nat → Int32) (f0_t : sb_Fit f0) : Met l yX2_addPart wsX2_addPart ({ frames := 1, cells := 0, slots := 0, locals := 60 }) (va_Pc [.ref h2, .ref h0, .int 0, .int 1] (fun U => U.heap.size = sz ∧ va_P (dC, dI) vwCl [(h0, .inr (6, [.ref h1, .int 1])), (h1, .inl (k0, 64, .inl f0)), (h2, .inr (6, [.ref h3, .int 0])), (h3, .inl (k1, 64, .inl (fun _ => 0)))] U.heap ∧ va_K (dC, dI) vwCl [(k0, .byte), (k1, .byte)] U ∧ va_D (fun _ => True) [(h0, .inr (6, [.ref h1, .int 1])), (h1, .inl (k0, 64, .inl f0)), (h2, .inr (6, [.ref h3, .int 0])), (h3, .inl (k1, 64, .inl (fun _ => 0)))])) (va_Qv (fun _ : Unit => True) (fun (_ : Unit) (t : State) => ∃ f3 : Nat → Int32, sb_Fit f3 ∧ va_P (dC, dI) vwCl [(h0, .inr (6, [.ref h1, .int 1])), (h1, .inl (k0, 64, .inl f0)), (h2, .inr (6, [.ref h3, .int 1])), (h3, .inl (k1, 64, .inl f3))] t.heap ∧ va_K (dC, dI) vwCl [(k0, .byte), (k1, .byte)] t ∧ va_D (va_A [(h0, .inr (6, [.ref h1, .int 1])), (h1, .inl (k0, 64, .inl f0)), (h2, .inr (6, [.ref h3, .int 0])), (h3, .inl (k1, 64, .inl (fun _ => 0)))] sz) [(h0, .inr (6, [.ref h1, .int 1])), (h1, .inl (k0, 64, .inl f0)), (h2, .inr (6, [.ref h3, .int 1])), (h3, .inl (k1, 64, .inl f3))]) (va_A [(h0, .inr (6, [.ref h1, .int 1])), (h1, .inl (k0, 64, .inl f0)), (h2, .inr (6, [.ref h3, .int 0])), (h3, .inl (k1, 64, .inl (fun _ => 0)))] sz)) 0 0 (va_A [(h0, .inr (6, [.ref h1, .int 1])), (h1, .inl (k0, 64, .inl f0)), (h2, .inr (6, [.ref h3, .int 0])), (h3, .inl (k1, 64, .inl (fun _ => 0)))] sz) := by
  refine Met.ofW (cc := cX2_addPart) (maxL := 5) (ret := none) (by decide) rfl ?_
  intro p e s m args below meth c s₁ B hml hv
  obtain ⟨rfl, hsz, hP, hK, hD0⟩ := hv
  have hx := B.exec
  have hb := B.bytes
  have hr := B.returns
  have hts := atoms_spec (ws := wsX2_addPart) B.pre
  have hown : s.vm.findClass RX2 = some m.cls := findClass_of_methodNamed B.named
  have hlocks := B.notSynchronized
  subst hsz
  have hD := hD0.self (sz := s.heap.size)
  generalize hAe : va_A [(h0, .inr (6, [.ref h1, .int 1])), (h1, .inl (k0, 64, .inl f0)), (h2, .inr (6, [.ref h3, .int 0])), (h3, .inl (k1, 64, .inl (fun _ => 0)))] s.heap.size = A at hD ⊢
  have hA : ∀ q : Nat, s.heap.size ≤ q → A q := fun q h => by rw [← hAe]; exact Or.inr h
  have hS : va_S A s.heap s.heap [] := va_S.rf
  have hP : va_P (dC, dI) vwCl [(h0, .inr (6, [.ref h1, .int 1])), (h1, .inl (k0, 64, .inl f0)), (h2, .inr (6, [.ref h3, .int 0])), (h3, .inl (k1, 64, .inl (fun _ => 0)))] s.heap := hP
  have hl := lv_entry ([.ref h2, .ref h0, .int 0, .int 1]) (n := 5) (Nat.le_of_ble_eq_true rfl)
  rw [lg_entry_eq]
  generalize (lg_sl ([.ref h2, .ref h0, .int 0, .int 1]) ++ List.replicate (5 - (lg_sl ([.ref h2, .ref h0, .int 0, .int 1])).length) Slot.unset).toArray = ls at hl ⊢
  have hl : lv_has ls 5 [(0, .ref h2), (1, .ref h0), (2, .int 0), (3, .int 1)] := hl
  refine lv_iload_n hx hb dX2_addPart_0 rfl (lv_at hl 3 rfl) ?_
  refine lv_iload_n hx hb dX2_addPart_1 rfl (lv_at hl 2 rfl) ?_
  refine lv_isub hx hb dX2_addPart_2 ?_
  refine lv_topi (fun y1 ey1 => ?_)
  obtain rfl : y1 = 1 := ey1.trans (by decide)
  refine lv_istore (lv' := [(4, .int 1), (0, .ref h2), (1, .ref h0), (2, .int 0), (3, .int 1)]) hx hb dX2_addPart_3 hl (by decide) rfl (fun ls hl => ?_)
  refine lv_iload_n hx hb dX2_addPart_5 rfl (lv_at hl 3 rfl) ?_
  refine lv_if_lt (tgt := 34) hx hb dX2_addPart_6 (by decide) (fun c9 => absurd c9 (by decide)) (fun _ => ?_)
  refine lv_iload hx hb dX2_addPart_9 (lv_at hl 0 rfl) ?_
  refine lv_if_lt (tgt := 34) hx hb dX2_addPart_11 (by decide) (fun c9 => absurd c9 (by decide)) (fun _ => ?_)
  refine lv_iload_n hx hb dX2_addPart_14 rfl (lv_at hl 4 rfl) ?_
  refine lv_aload_n hx hb dX2_addPart_15 rfl (lv_at hl 2 rfl) ?_
  refine va_get (D := (dC, dI)) (ci := 6) (v := .int 1) (C := RX2) (T := TX2) (N := 2) hx hb hts (by decide +kernel) hown hK hP 0 rfl rfl 1 (by decide) (hts (.fieldLink RX2 15 "Rewriterope$Text" "length" "I") (by decide +kernel)) (fun _ h9 => h9) rfl dX2_addPart_16 ?_
  refine lv_icmp_gt (tgt := 34) hx hb dX2_addPart_19 (by decide) (fun c9 => absurd c9 (by decide)) (fun _ => ?_)
  refine lv_aload_n hx hb dX2_addPart_22 rfl (lv_at hl 1 rfl) ?_
  refine va_get (D := (dC, dI)) (ci := 6) (v := .int 0) (C := RX2) (T := TX2) (N := 2) hx hb hts (by decide +kernel) hown hK hP 2 rfl rfl 1 (by decide) (hts (.fieldLink RX2 15 "Rewriterope$Text" "length" "I") (by decide +kernel)) (fun _ h9 => h9) rfl dX2_addPart_23 ?_
  refine lv_iload hx hb dX2_addPart_26 (lv_at hl 0 rfl) ?_
  refine lv_iadd hx hb dX2_addPart_28 ?_
  refine lv_topi (fun y2 ey2 => ?_)
  obtain rfl : y2 = 1 := ey2.trans (by decide)
  refine lv_bipush (v := 64) hx hb dX2_addPart_29 (by decide) ?_
  refine lv_icmp_le (tgt := 35) hx hb dX2_addPart_31 (by decide) (fun _ => ?_) (fun c9 => absurd (by decide) c9)
  refine lv_aload_n hx hb dX2_addPart_35 rfl (lv_at hl 2 rfl) ?_
  refine va_get (D := (dC, dI)) (ci := 6) (v := .ref h1) (C := RX2) (T := TX2) (N := 2) hx hb hts (by decide +kernel) hown hK hP 0 rfl rfl 0 (by decide) (hts (.fieldLink RX2 11 "Rewriterope$Text" "letters" "[B") (by decide +kernel)) (fun _ h9 => h9) rfl dX2_addPart_36 ?_
  refine lv_iload_n hx hb dX2_addPart_39 rfl (lv_at hl 3 rfl) ?_
  refine lv_aload_n hx hb dX2_addPart_40 rfl (lv_at hl 1 rfl) ?_
  refine va_get (D := (dC, dI)) (ci := 6) (v := .ref h3) (C := RX2) (T := TX2) (N := 2) hx hb hts (by decide +kernel) hown hK hP 2 rfl rfl 0 (by decide) (hts (.fieldLink RX2 11 "Rewriterope$Text" "letters" "[B") (by decide +kernel)) (fun _ h9 => h9) rfl dX2_addPart_41 ?_
  refine lv_aload_n hx hb dX2_addPart_44 rfl (lv_at hl 1 rfl) ?_
  refine va_get (D := (dC, dI)) (ci := 6) (v := .int 0) (C := RX2) (T := TX2) (N := 2) hx hb hts (by decide +kernel) hown hK hP 2 rfl rfl 1 (by decide) (hts (.fieldLink RX2 15 "Rewriterope$Text" "length" "I") (by decide +kernel)) (fun _ h9 => h9) rfl dX2_addPart_45 ?_
  refine lv_iload hx hb dX2_addPart_48 (lv_at hl 0 rfl) ?_
  refine va_copyi (D := (dC, dI)) (sp := 0) (dp := 0) (n := 1) hx hb (by rw [hml]; exact hl.1.symm) hown (hts (.methodLink RX2 19 arraycopyName) (by decide +kernel)) (hts (.native arraycopyName) (by decide +kernel)) (hts (.static arraycopyName) (by decide +kernel)) (hts (.initialized "java/lang/System") (by decide +kernel)) hK hP hD hS 1 3 0 1 rfl rfl rfl rfl rfl (by decide) (by decide) (by decide) (by decide) (by decide) (fun i hi => f0_t _) (Nat.le_of_ble_eq_true rfl) (Nat.le_of_ble_eq_true rfl) dX2_addPart_50 (fun H locs hP hD hS => ?_)
  have hP : va_P (dC, dI) vwCl [(h0, .inr (6, [.ref h1, .int 1])), (h1, .inl (k0, 64, .inl f0)), (h2, .inr (6, [.ref h3, .int 0])), (h3, .inl (k1, 64, .inl (va_cpy f0 (fun _ => 0) (0 : Int32).toNatClampNeg (0 : Int32).toNatClampNeg (1 : Int32).toNatClampNeg)))] H := hP
  have hD : va_D A [(h0, .inr (6, [.ref h1, .int 1])), (h1, .inl (k0, 64, .inl f0)), (h2, .inr (6, [.ref h3, .int 0])), (h3, .inl (k1, 64, .inl (va_cpy f0 (fun _ => 0) (0 : Int32).toNatClampNeg (0 : Int32).toNatClampNeg (1 : Int32).toNatClampNeg)))] := hD
  obtain ⟨f3, hf3⟩ : ∃ f : Nat → Int32, f = va_cpy f0 (fun _ => 0) (0 : Int32).toNatClampNeg (0 : Int32).toNatClampNeg (1 : Int32).toNatClampNeg := ⟨_, rfl⟩
  have f3_t : sb_Fit f3 := by rw [hf3]; exact sb_fitC f0_t sb_fit0
  rw [← hf3] at hP hD
  refine lv_aload_n hx hb dX2_addPart_53 rfl (lv_at hl 1 rfl) ?_
  refine lv_dup hx hb dX2_addPart_54 rfl ?_
  refine va_get (D := (dC, dI)) (ci := 6) (v := .int 0) (C := RX2) (T := TX2) (N := 2) hx hb hts (by decide +kernel) hown hK hP 2 rfl rfl 1 (by decide) (hts (.fieldLink RX2 15 "Rewriterope$Text" "length" "I") (by decide +kernel)) (fun _ h9 => h9) rfl dX2_addPart_55 ?_
  refine lv_iload hx hb dX2_addPart_58 (lv_at hl 0 rfl) ?_
  refine lv_iadd hx hb dX2_addPart_60 ?_
  refine lv_topi (fun y4 ey4 => ?_)
  obtain rfl : y4 = 1 := ey4.trans (by decide)
  refine va_put (D := (dC, dI)) (ci := 6) (v := .int 1) (ty := .int) (C := RX2) (T := TX2) (N := 2) hx hb hts (by decide +kernel) tyX2 tyX2_ok nmX2 hown hK hP hD hS 2 rfl rfl 1 (by decide) (hts (.fieldLink RX2 15 "Rewriterope$Text" "length" "I") (by decide +kernel)) (fun _ h9 => h9) rfl (by decide +kernel) rfl rfl (Nat.le_of_ble_eq_true rfl) dX2_addPart_61 (fun H locs hP hD hS => ?_)
  have hP : va_P (dC, dI) vwCl [(h0, .inr (6, [.ref h1, .int 1])), (h1, .inl (k0, 64, .inl f0)), (h2, .inr (6, [.ref h3, .int 1])), (h3, .inl (k1, 64, .inl f3))] H := hP
  have hD : va_D A [(h0, .inr (6, [.ref h1, .int 1])), (h1, .inl (k0, 64, .inl f0)), (h2, .inr (6, [.ref h3, .int 1])), (h3, .inl (k1, 64, .inl f3))] := hD
  exact W.vret hx hb hr (fun t ht hW => ⟨⟨(), rfl, trivial, f3, f3_t, by rw [ht]; exact hP, va_K.moved hW.alike hK, hD⟩, hS.F ht⟩) hS.2.2 dX2_addPart_64
set_option maxHeartbeats 8000000 in
set_option maxRecDepth 100000 in
theorem kx_X3_type_h51 {l : Launch} {dC : Nat → ClassId} {dI : Nat → Nat → Nat} {h0 h1 h2 h3 h4 h5 h6 h7 h8 h9 h10 h11 z0 z1 z2 z3 : Nat} {k0 k1 k2 k3 k4 k5 : ClassId} {rp  R : Int32} {p : Program} {e : Env} {s : State} {m : MethodId} {args : Array Value} {below : List Frame} {meth : Method} {c : Code} {A : Nat → Prop} {H : Heap} {locs : List Loc} {ls : Array Slot} {f0 : Nat → Int32} (f0_t : sb_Fit f0) (hR : kz_ct 1 [] = R) (rp_l : (0 : Int) ≤ rp.toInt) (rp_u : rp.toInt ≤ (3 : Int)) (hx : p.tables.exec = Jvm.exec) (hb : c.code = cX3_type) (hr : meth.sig.returnType = some .int) (hml : c.maxLocals = 8) (hown : s.vm.findClass RX3 = some m.cls) (hts : ∀ w ∈ wsX3_type, w.before args s = true) (hlocks : meth.locks = false) (hA : ∀ q : Nat, s.heap.size ≤ q → A q) (hS : va_S A s.heap H locs) (hK : va_K (dC, dI) vwCl [(k0, .object "Rewriterope$Text"), (k1, .byte), (k2, .byte), (k3, .byte), (k4, .byte), (k5, .byte)] s) (hP : va_P (dC, dI) vwCl [(h0, .inr (7, [.ref h1, .ref z0, .ref z1, .ref h2, .ref z2, .ref z3, .int 0, .int 0, .int 0])), (h1, .inl (k0, 4, .inr (.inr (.inr (.inr (va_up (va_up (va_up (va_up (fun _ => none) 0 (some h4)) 1 (some h6)) 2 (some h8)) 3 (some h10))))))), (h2, .inr (6, [.ref h3, .int 1])), (h3, .inl (k1, 64, .inl f0)), (h4, .inr (6, [.ref h5, .int 0])), (h5, .inl (k2, 64, .inl (fun _ => 0))), (h6, .inr (6, [.ref h7, .int 0])), (h7, .inl (k3, 64, .inl (fun _ => 0))), (h8, .inr (6, [.ref h9, .int 0])), (h9, .inl (k4, 64, .inl (fun _ => 0))), (h10, .inr (6, [.ref h11, .int 0])), (h11, .inl (k5, 64, .inl (fun _ => 0)))] H) (hD : va_D A [(h0, .inr (7, [.ref h1, .ref z0, .ref z1, .ref h2, .ref z2, .ref z3, .int 0, .int 0, .int 0])), (h1, .inl (k0, 4, .inr (.inr (.inr (.inr (va_up (va_up (va_up (va_up (fun _ => none) 0 (some h4)) 1 (some h6)) 2 (some h8)) 3 (some h10))))))), (h2, .inr (6, [.ref h3, .int 1])), (h3, .inl (k1, 64, .inl f0)), (h4, .inr (6, [.ref h5, .int 0])), (h5, .inl (k2, 64, .inl (fun _ => 0))), (h6, .inr (6, [.ref h7, .int 0])), (h7, .inl (k3, 64, .inl (fun _ => 0))), (h8, .inr (6, [.ref h9, .int 0])), (h9, .inl (k4, 64, .inl (fun _ => 0))), (h10, .inr (6, [.ref h11, .int 0])), (h11, .inl (k5, 64, .inl (fun _ => 0)))]) (hl : lv_has ls 8 [(0, .ref h0), (1, .int rp)]) : W p l e (headSpec wsX3_type ({ frames := 2, cells := 0, slots := 0, locals := 84 })).room s m args below meth c H locs 0 0 (MQ below (va_Qi (fun (r : Int32) (_ : Unit) => r = R) (fun (_ : Unit) (t : State) => va_P (dC, dI) vwCl [(h0, .inr (7, [.ref h1, .ref z0, .ref z1, .ref h2, .ref z2, .ref z3, .int 0, .int 0, .int 0]))] t.heap ∧ va_K (dC, dI) vwCl [(k0, .object "Rewriterope$Text"), (k1, .byte), (k2, .byte), (k3, .byte), (k4, .byte), (k5, .byte)] t ∧ va_D A [(h0, .inr (7, [.ref h1, .ref z0, .ref z1, .ref h2, .ref z2, .ref z3, .int 0, .int 0, .int 0]))]) A) args s 0 0 A) (F0 m 77 ls []) := by
  have hR9 : (1 : Int32) = R := (show (1 : Int32) = kz_ct 1 [] from (kz_ct_e.trans (by decide)).symm).trans hR
  subst hR9
  rcases kz_r4 rp_l rp_u with rfl | rfl | rfl | rfl
  · refine lv_aload_n hx hb dX3_type_77 rfl (lv_at hl 0 rfl) ?_
    refine va_get (D := (dC, dI)) (ci := 7) (v := .ref h1) (C := RX3) (T := TX3) (N := 9) hx hb hts (by decide +kernel) hown hK hP 0 rfl rfl 0 (by decide) (hts (.fieldLink RX3 11 "Rewriterope" "ropes" "[LRewriterope$Text;") (by decide +kernel)) (fun _ h9 => h9) rfl dX3_type_78 ?_
    refine lv_iload_n hx hb dX3_type_81 rfl (lv_at hl 1 rfl) ?_
    refine va_aldq (D := (dC, dI)) hx hb hK hP 1 0 rfl rfl (by unfold vp_in; decide) dX3_type_82 ?_
    refine W.eq (g2 := F0 m 83 ls [.ref h4]) rfl ?_
    refine lv_astore (lv' := [(7, .ref h4), (0, .ref h0), (1, .int 0)]) hx hb dX3_type_83 hl (by decide) rfl (fun ls hl => ?_)
    refine lv_aload hx hb dX3_type_85 (lv_at hl 0 rfl) ?_
    refine va_get (D := (dC, dI)) (ci := 6) (v := .int 0) (C := RX2) (T := TX2) (N := 2) hx hb hts (by decide +kernel) hown hK hP 4 rfl rfl 1 (by decide) (hts (.fieldLink RX3 65 "Rewriterope$Text" "length" "I") (by decide +kernel)) (fun _ h9 => h9) rfl dX3_type_87 ?_
    refine lv_aload_n hx hb dX3_type_90 rfl (lv_at hl 1 rfl) ?_
    refine va_get (D := (dC, dI)) (ci := 7) (v := .ref h2) (C := RX3) (T := TX3) (N := 9) hx hb hts (by decide +kernel) hown hK hP 0 rfl rfl 3 (by decide) (hts (.fieldLink RX3 32 "Rewriterope" "work" "LRewriterope$Text;") (by decide +kernel)) (fun _ h9 => h9) rfl dX3_type_91 ?_
    refine va_get (D := (dC, dI)) (ci := 6) (v := .int 1) (C := RX2) (T := TX2) (N := 2) hx hb hts (by decide +kernel) hown hK hP 2 rfl rfl 1 (by decide) (hts (.fieldLink RX3 65 "Rewriterope$Text" "length" "I") (by decide +kernel)) (fun _ h9 => h9) rfl dX3_type_94 ?_
    refine lv_iadd hx hb dX3_type_97 ?_
    refine lv_topi (fun y101 ey101 => ?_)
    obtain rfl : y101 = 1 := ey101.trans (by decide)
    refine lv_bipush (v := 32) hx hb dX3_type_98 (by decide) ?_
    refine lv_icmp_le (tgt := 113) hx hb dX3_type_100 (by decide) (fun _ => ?_) (fun c9 => absurd (by decide) c9)
    refine lv_aload hx hb dX3_type_113 (lv_at hl 0 rfl) ?_
    refine lv_aload_n hx hb dX3_type_115 rfl (lv_at hl 1 rfl) ?_
    refine va_get (D := (dC, dI)) (ci := 7) (v := .ref h2) (C := RX3) (T := TX3) (N := 9) hx hb hts (by decide +kernel) hown hK hP 0 rfl rfl 3 (by decide) (hts (.fieldLink RX3 32 "Rewriterope" "work" "LRewriterope$Text;") (by decide +kernel)) (fun _ h9 => h9) rfl dX3_type_116 ?_
    refine lv_iconst (v := 0) hx hb dX3_type_119 (by decide) ?_
    refine lv_aload_n hx hb dX3_type_120 rfl (lv_at hl 1 rfl) ?_
    refine va_get (D := (dC, dI)) (ci := 7) (v := .ref h2) (C := RX3) (T := TX3) (N := 9) hx hb hts (by decide +kernel) hown hK hP 0 rfl rfl 3 (by decide) (hts (.fieldLink RX3 32 "Rewriterope" "work" "LRewriterope$Text;") (by decide +kernel)) (fun _ h9 => h9) rfl dX3_type_121 ?_
    refine va_get (D := (dC, dI)) (ci := 6) (v := .int 1) (C := RX2) (T := TX2) (N := 2) hx hb hts (by decide +kernel) hown hK hP 2 rfl rfl 1 (by decide) (hts (.fieldLink RX3 65 "Rewriterope$Text" "length" "I") (by decide +kernel)) (fun _ h9 => h9) rfl dX3_type_124 ?_
    have hPc := hP.sub (ws' := [(h2, .inr (6, [.ref h3, .int 1])), (h3, .inl (k1, 64, .inl f0)), (h4, .inr (6, [.ref h5, .int 0])), (h5, .inl (k2, 64, .inl (fun _ => 0)))]) [2, 3, 4, 5] rfl
    have hDc := hD.sub (ws' := [(h2, .inr (6, [.ref h3, .int 1])), (h3, .inl (k1, 64, .inl f0)), (h4, .inr (6, [.ref h5, .int 0])), (h5, .inl (k2, 64, .inl (fun _ => 0)))]) [2, 3, 4, 5] (by decide) rfl
    have hKc := hK.sub (tys' := [(k1, .byte), (k2, .byte)]) [1, 2] rfl
    have hFc := va_free (wc := [(h2, .inr (6, [.ref h3, .int 1])), (h3, .inl (k1, 64, .inl f0)), (h4, .inr (6, [.ref h5, .int 0])), (h5, .inl (k2, 64, .inl (fun _ => 0)))]) hD hS hA [2, 3, 4, 5] rfl
    refine va_callv (va_runV (As := [.ref h2, .int 0, .int 1]) (rest := []) ⟨hx, hb, hml, hown, hts⟩ (kx_X2_addPart_2 l dC dI h2 h3 h4 h5 k1 k2 H.size f0 f0_t) (cwV 3 hts gX3_type_X2_addPart rfl rfl rfl (by decide +kernel) ⟨Nat.le_of_ble_eq_true rfl, Nat.le_of_ble_eq_true rfl⟩) ⟨fun a U g mk q => by obtain ⟨q0, q1, qP, qK, qD⟩ := q; exact ⟨q0, q1, qP, va_K.moved (u := U) (U := U.calling g mk a) (Vm.Alike.refl U.vm) qK, qD⟩, va_recv hKc hPc (ci := 6) (q0 := 2) rfl rfl, fun U hU hW => ⟨rfl, by rw [hU], by rw [hU]; exact hPc, va_K.moved hW.alike hKc, hDc.weaken (fun _ _ _ _ => trivial)⟩⟩ rfl rfl hl.1 rfl (lv_room (Nat.le_of_ble_eq_true rfl)) dX3_type_127 ⟨Nat.le_of_ble_eq_true rfl, Nat.le_of_ble_eq_true rfl⟩) hS (fun q _ h => hFc q h) hFc (fun u t H1 locs ht hvm hw hB hz1 hk1 hS => ?_)
    obtain ⟨f102, f102_t, hP1, hK1, hD1⟩ := hB
    rw [ht] at hP1
    have hK1 := va_K.moved hvm.symm hK1
    obtain ⟨hP, hD⟩ := va_join (wr := [(h0, .inr (7, [.ref h1, .ref z0, .ref z1, .ref h2, .ref z2, .ref z3, .int 0, .int 0, .int 0])), (h1, .inl (k0, 4, .inr (.inr (.inr (.inr (va_up (va_up (va_up (va_up (fun _ => none) 0 (some h4)) 1 (some h6)) 2 (some h8)) 3 (some h10))))))), (h6, .inr (6, [.ref h7, .int 0])), (h7, .inl (k3, 64, .inl (fun _ => 0))), (h8, .inr (6, [.ref h9, .int 0])), (h9, .inl (k4, 64, .inl (fun _ => 0))), (h10, .inr (6, [.ref h11, .int 0])), (h11, .inl (k5, 64, .inl (fun _ => 0)))]) (w1 := [(h2, .inr (6, [.ref h3, .int 1])), (h3, .inl (k1, 64, .inl f0)), (h4, .inr (6, [.ref h5, .int 1])), (h5, .inl (k2, 64, .inl f102))]) hP hD [2, 3, 4, 5] [0, 1, 6, 7, 8, 9, 10, 11] rfl rfl (by decide) (by decide) hk1 hFc hP1 hD1
    generalize H1 = H at hP hS ⊢
    have hP : va_P (dC, dI) vwCl [(h0, .inr (7, [.ref h1, .ref z0, .ref z1, .ref h2, .ref z2, .ref z3, .int 0, .int 0, .int 0])), (h1, .inl (k0, 4, .inr (.inr (.inr (.inr (va_up (va_up (va_up (va_up (fun _ => none) 0 (some h4)) 1 (some h6)) 2 (some h8)) 3 (some h10))))))), (h6, .inr (6, [.ref h7, .int 0])), (h7, .inl (k3, 64, .inl (fun _ => 0))), (h8, .inr (6, [.ref h9, .int 0])), (h9, .inl (k4, 64, .inl (fun _ => 0))), (h10, .inr (6, [.ref h11, .int 0])), (h11, .inl (k5, 64, .inl (fun _ => 0))), (h2, .inr (6, [.ref h3, .int 1])), (h3, .inl (k1, 64, .inl f0)), (h4, .inr (6, [.ref h5, .int 1])), (h5, .inl (k2, 64, .inl f102))] H := hP
    have hD : va_D A [(h0, .inr (7, [.ref h1, .ref z0, .ref z1, .ref h2, .ref z2, .ref z3, .int 0, .int 0, .int 0])), (h1, .inl (k0, 4, .inr (.inr (.inr (.inr (va_up (va_up (va_up (va_up (fun _ => none) 0 (some h4)) 1 (some h6)) 2 (some h8)) 3 (some h10))))))), (h6, .inr (6, [.ref h7, .int 0])), (h7, .inl (k3, 64, .inl (fun _ => 0))), (h8, .inr (6, [.ref h9, .int 0])), (h9, .inl (k4, 64, .inl (fun _ => 0))), (h10, .inr (6, [.ref h11, .int 0])), (h11, .inl (k5, 64, .inl (fun _ => 0))), (h2, .inr (6, [.ref h3, .int 1])), (h3, .inl (k1, 64, .inl f0)), (h4, .inr (6, [.ref h5, .int 1])), (h5, .inl (k2, 64, .inl f102))] := hD
    refine lv_aload hx hb dX3_type_130 (lv_at hl 0 rfl) ?_
    refine va_get (D := (dC, dI)) (ci := 6) (v := .int 1) (C := RX2) (T := TX2) (N := 2) hx hb hts (by decide +kernel) hown hK hP 10 rfl rfl 1 (by decide) (hts (.fieldLink RX3 65 "Rewriterope$Text" "length" "I") (by decide +kernel)) (fun _ h9 => h9) rfl dX3_type_132 ?_
    refine W.widen (k := 0) (n := 0) (Nat.le_of_ble_eq_true rfl) (Nat.le_of_ble_eq_true rfl) ?_
    have hK := hK.sub (tys' := [(k0, .object "Rewriterope$Text"), (k1, .byte), (k2, .byte), (k3, .byte), (k4, .byte), (k5, .byte)]) [0, 1, 2, 3, 4, 5] rfl
    have hP := hP.sub (ws' := [(h0, .inr (7, [.ref h1, .ref z0, .ref z1, .ref h2, .ref z2, .ref z3, .int 0, .int 0, .int 0]))]) [0] rfl
    have hD := hD.sub (ws' := [(h0, .inr (7, [.ref h1, .ref z0, .ref z1, .ref h2, .ref z2, .ref z3, .int 0, .int 0, .int 0]))]) [0] (by decide) rfl
    exact W.iret (v := 1) hx hb hr (fun t ht hW => ⟨⟨1, (), rfl, rfl, by rw [ht]; exact hP, va_K.moved hW.alike hK, hD⟩, hS.F ht⟩) hS.2.2 dX3_type_135
  · refine lv_aload_n hx hb dX3_type_77 rfl (lv_at hl 0 rfl) ?_
    refine va_get (D := (dC, dI)) (ci := 7) (v := .ref h1) (C := RX3) (T := TX3) (N := 9) hx hb hts (by decide +kernel) hown hK hP 0 rfl rfl 0 (by decide) (hts (.fieldLink RX3 11 "Rewriterope" "ropes" "[LRewriterope$Text;") (by decide +kernel)) (fun _ h9 => h9) rfl dX3_type_78 ?_
    refine lv_iload_n hx hb dX3_type_81 rfl (lv_at hl 1 rfl) ?_
    refine va_aldq (D := (dC, dI)) hx hb hK hP 1 0 rfl rfl (by unfold vp_in; decide) dX3_type_82 ?_
    refine W.eq (g2 := F0 m 83 ls [.ref h6]) rfl ?_
    refine lv_astore (lv' := [(7, .ref h6), (0, .ref h0), (1, .int 1)]) hx hb dX3_type_83 hl (by decide) rfl (fun ls hl => ?_)
    refine lv_aload hx hb dX3_type_85 (lv_at hl 0 rfl) ?_
    refine va_get (D := (dC, dI)) (ci := 6) (v := .int 0) (C := RX2) (T := TX2) (N := 2) hx hb hts (by decide +kernel) hown hK hP 6 rfl rfl 1 (by decide) (hts (.fieldLink RX3 65 "Rewriterope$Text" "length" "I") (by decide +kernel)) (fun _ h9 => h9) rfl dX3_type_87 ?_
    refine lv_aload_n hx hb dX3_type_90 rfl (lv_at hl 1 rfl) ?_
    refine va_get (D := (dC, dI)) (ci := 7) (v := .ref h2) (C := RX3) (T := TX3) (N := 9) hx hb hts (by decide +kernel) hown hK hP 0 rfl rfl 3 (by decide) (hts (.fieldLink RX3 32 "Rewriterope" "work" "LRewriterope$Text;") (by decide +kernel)) (fun _ h9 => h9) rfl dX3_type_91 ?_
    refine va_get (D := (dC, dI)) (ci := 6) (v := .int 1) (C := RX2) (T := TX2) (N := 2) hx hb hts (by decide +kernel) hown hK hP 2 rfl rfl 1 (by decide) (hts (.fieldLink RX3 65 "Rewriterope$Text" "length" "I") (by decide +kernel)) (fun _ h9 => h9) rfl dX3_type_94 ?_
    refine lv_iadd hx hb dX3_type_97 ?_
    refine lv_topi (fun y101 ey101 => ?_)
    obtain rfl : y101 = 1 := ey101.trans (by decide)
    refine lv_bipush (v := 32) hx hb dX3_type_98 (by decide) ?_
    refine lv_icmp_le (tgt := 113) hx hb dX3_type_100 (by decide) (fun _ => ?_) (fun c9 => absurd (by decide) c9)
    refine lv_aload hx hb dX3_type_113 (lv_at hl 0 rfl) ?_
    refine lv_aload_n hx hb dX3_type_115 rfl (lv_at hl 1 rfl) ?_
    refine va_get (D := (dC, dI)) (ci := 7) (v := .ref h2) (C := RX3) (T := TX3) (N := 9) hx hb hts (by decide +kernel) hown hK hP 0 rfl rfl 3 (by decide) (hts (.fieldLink RX3 32 "Rewriterope" "work" "LRewriterope$Text;") (by decide +kernel)) (fun _ h9 => h9) rfl dX3_type_116 ?_
    refine lv_iconst (v := 0) hx hb dX3_type_119 (by decide) ?_
    refine lv_aload_n hx hb dX3_type_120 rfl (lv_at hl 1 rfl) ?_
    refine va_get (D := (dC, dI)) (ci := 7) (v := .ref h2) (C := RX3) (T := TX3) (N := 9) hx hb hts (by decide +kernel) hown hK hP 0 rfl rfl 3 (by decide) (hts (.fieldLink RX3 32 "Rewriterope" "work" "LRewriterope$Text;") (by decide +kernel)) (fun _ h9 => h9) rfl dX3_type_121 ?_
    refine va_get (D := (dC, dI)) (ci := 6) (v := .int 1) (C := RX2) (T := TX2) (N := 2) hx hb hts (by decide +kernel) hown hK hP 2 rfl rfl 1 (by decide) (hts (.fieldLink RX3 65 "Rewriterope$Text" "length" "I") (by decide +kernel)) (fun _ h9 => h9) rfl dX3_type_124 ?_
    have hPc := hP.sub (ws' := [(h2, .inr (6, [.ref h3, .int 1])), (h3, .inl (k1, 64, .inl f0)), (h6, .inr (6, [.ref h7, .int 0])), (h7, .inl (k3, 64, .inl (fun _ => 0)))]) [2, 3, 6, 7] rfl
    have hDc := hD.sub (ws' := [(h2, .inr (6, [.ref h3, .int 1])), (h3, .inl (k1, 64, .inl f0)), (h6, .inr (6, [.ref h7, .int 0])), (h7, .inl (k3, 64, .inl (fun _ => 0)))]) [2, 3, 6, 7] (by decide) rfl
    have hKc := hK.sub (tys' := [(k1, .byte), (k3, .byte)]) [1, 3] rfl
    have hFc := va_free (wc := [(h2, .inr (6, [.ref h3, .int 1])), (h3, .inl (k1, 64, .inl f0)), (h6, .inr (6, [.ref h7, .int 0])), (h7, .inl (k3, 64, .inl (fun _ => 0)))]) hD hS hA [2, 3, 6, 7] rfl
    refine va_callv (va_runV (As := [.ref h2, .int 0, .int 1]) (rest := []) ⟨hx, hb, hml, hown, hts⟩ (kx_X2_addPart_2 l dC dI h2 h3 h6 h7 k1 k3 H.size f0 f0_t) (cwV 3 hts gX3_type_X2_addPart rfl rfl rfl (by decide +kernel) ⟨Nat.le_of_ble_eq_true rfl, Nat.le_of_ble_eq_true rfl⟩) ⟨fun a U g mk q => by obtain ⟨q0, q1, qP, qK, qD⟩ := q; exact ⟨q0, q1, qP, va_K.moved (u := U) (U := U.calling g mk a) (Vm.Alike.refl U.vm) qK, qD⟩, va_recv hKc hPc (ci := 6) (q0 := 2) rfl rfl, fun U hU hW => ⟨rfl, by rw [hU], by rw [hU]; exact hPc, va_K.moved hW.alike hKc, hDc.weaken (fun _ _ _ _ => trivial)⟩⟩ rfl rfl hl.1 rfl (lv_room (Nat.le_of_ble_eq_true rfl)) dX3_type_127 ⟨Nat.le_of_ble_eq_true rfl, Nat.le_of_ble_eq_true rfl⟩) hS (fun q _ h => hFc q h) hFc (fun u t H1 locs ht hvm hw hB hz1 hk1 hS => ?_)
    obtain ⟨f102, f102_t, hP1, hK1, hD1⟩ := hB
    rw [ht] at hP1
    have hK1 := va_K.moved hvm.symm hK1
    obtain ⟨hP, hD⟩ := va_join (wr := [(h0, .inr (7, [.ref h1, .ref z0, .ref z1, .ref h2, .ref z2, .ref z3, .int 0, .int 0, .int 0])), (h1, .inl (k0, 4, .inr (.inr (.inr (.inr (va_up (va_up (va_up (va_up (fun _ => none) 0 (some h4)) 1 (some h6)) 2 (some h8)) 3 (some h10))))))), (h4, .inr (6, [.ref h5, .int 0])), (h5, .inl (k2, 64, .inl (fun _ => 0))), (h8, .inr (6, [.ref h9, .int 0])), (h9, .inl (k4, 64, .inl (fun _ => 0))), (h10, .inr (6, [.ref h11, .int 0])), (h11, .inl (k5, 64, .inl (fun _ => 0)))]) (w1 := [(h2, .inr (6, [.ref h3, .int 1])), (h3, .inl (k1, 64, .inl f0)), (h6, .inr (6, [.ref h7, .int 1])), (h7, .inl (k3, 64, .inl f102))]) hP hD [2, 3, 6, 7] [0, 1, 4, 5, 8, 9, 10, 11] rfl rfl (by decide) (by decide) hk1 hFc hP1 hD1
    generalize H1 = H at hP hS ⊢
    have hP : va_P (dC, dI) vwCl [(h0, .inr (7, [.ref h1, .ref z0, .ref z1, .ref h2, .ref z2, .ref z3, .int 0, .int 0, .int 0])), (h1, .inl (k0, 4, .inr (.inr (.inr (.inr (va_up (va_up (va_up (va_up (fun _ => none) 0 (some h4)) 1 (some h6)) 2 (some h8)) 3 (some h10))))))), (h4, .inr (6, [.ref h5, .int 0])), (h5, .inl (k2, 64, .inl (fun _ => 0))), (h8, .inr (6, [.ref h9, .int 0])), (h9, .inl (k4, 64, .inl (fun _ => 0))), (h10, .inr (6, [.ref h11, .int 0])), (h11, .inl (k5, 64, .inl (fun _ => 0))), (h2, .inr (6, [.ref h3, .int 1])), (h3, .inl (k1, 64, .inl f0)), (h6, .inr (6, [.ref h7, .int 1])), (h7, .inl (k3, 64, .inl f102))] H := hP
    have hD : va_D A [(h0, .inr (7, [.ref h1, .ref z0, .ref z1, .ref h2, .ref z2, .ref z3, .int 0, .int 0, .int 0])), (h1, .inl (k0, 4, .inr (.inr (.inr (.inr (va_up (va_up (va_up (va_up (fun _ => none) 0 (some h4)) 1 (some h6)) 2 (some h8)) 3 (some h10))))))), (h4, .inr (6, [.ref h5, .int 0])), (h5, .inl (k2, 64, .inl (fun _ => 0))), (h8, .inr (6, [.ref h9, .int 0])), (h9, .inl (k4, 64, .inl (fun _ => 0))), (h10, .inr (6, [.ref h11, .int 0])), (h11, .inl (k5, 64, .inl (fun _ => 0))), (h2, .inr (6, [.ref h3, .int 1])), (h3, .inl (k1, 64, .inl f0)), (h6, .inr (6, [.ref h7, .int 1])), (h7, .inl (k3, 64, .inl f102))] := hD
    refine lv_aload hx hb dX3_type_130 (lv_at hl 0 rfl) ?_
    refine va_get (D := (dC, dI)) (ci := 6) (v := .int 1) (C := RX2) (T := TX2) (N := 2) hx hb hts (by decide +kernel) hown hK hP 10 rfl rfl 1 (by decide) (hts (.fieldLink RX3 65 "Rewriterope$Text" "length" "I") (by decide +kernel)) (fun _ h9 => h9) rfl dX3_type_132 ?_
    refine W.widen (k := 0) (n := 0) (Nat.le_of_ble_eq_true rfl) (Nat.le_of_ble_eq_true rfl) ?_
    have hK := hK.sub (tys' := [(k0, .object "Rewriterope$Text"), (k1, .byte), (k2, .byte), (k3, .byte), (k4, .byte), (k5, .byte)]) [0, 1, 2, 3, 4, 5] rfl
    have hP := hP.sub (ws' := [(h0, .inr (7, [.ref h1, .ref z0, .ref z1, .ref h2, .ref z2, .ref z3, .int 0, .int 0, .int 0]))]) [0] rfl
    have hD := hD.sub (ws' := [(h0, .inr (7, [.ref h1, .ref z0, .ref z1, .ref h2, .ref z2, .ref z3, .int 0, .int 0, .int 0]))]) [0] (by decide) rfl
    exact W.iret (v := 1) hx hb hr (fun t ht hW => ⟨⟨1, (), rfl, rfl, by rw [ht]; exact hP, va_K.moved hW.alike hK, hD⟩, hS.F ht⟩) hS.2.2 dX3_type_135
  · refine lv_aload_n hx hb dX3_type_77 rfl (lv_at hl 0 rfl) ?_
    refine va_get (D := (dC, dI)) (ci := 7) (v := .ref h1) (C := RX3) (T := TX3) (N := 9) hx hb hts (by decide +kernel) hown hK hP 0 rfl rfl 0 (by decide) (hts (.fieldLink RX3 11 "Rewriterope" "ropes" "[LRewriterope$Text;") (by decide +kernel)) (fun _ h9 => h9) rfl dX3_type_78 ?_
    refine lv_iload_n hx hb dX3_type_81 rfl (lv_at hl 1 rfl) ?_
    refine va_aldq (D := (dC, dI)) hx hb hK hP 1 0 rfl rfl (by unfold vp_in; decide) dX3_type_82 ?_
    refine W.eq (g2 := F0 m 83 ls [.ref h8]) rfl ?_
    refine lv_astore (lv' := [(7, .ref h8), (0, .ref h0), (1, .int 2)]) hx hb dX3_type_83 hl (by decide) rfl (fun ls hl => ?_)
    refine lv_aload hx hb dX3_type_85 (lv_at hl 0 rfl) ?_
    refine va_get (D := (dC, dI)) (ci := 6) (v := .int 0) (C := RX2) (T := TX2) (N := 2) hx hb hts (by decide +kernel) hown hK hP 8 rfl rfl 1 (by decide) (hts (.fieldLink RX3 65 "Rewriterope$Text" "length" "I") (by decide +kernel)) (fun _ h9 => h9) rfl dX3_type_87 ?_
    refine lv_aload_n hx hb dX3_type_90 rfl (lv_at hl 1 rfl) ?_
    refine va_get (D := (dC, dI)) (ci := 7) (v := .ref h2) (C := RX3) (T := TX3) (N := 9) hx hb hts (by decide +kernel) hown hK hP 0 rfl rfl 3 (by decide) (hts (.fieldLink RX3 32 "Rewriterope" "work" "LRewriterope$Text;") (by decide +kernel)) (fun _ h9 => h9) rfl dX3_type_91 ?_
    refine va_get (D := (dC, dI)) (ci := 6) (v := .int 1) (C := RX2) (T := TX2) (N := 2) hx hb hts (by decide +kernel) hown hK hP 2 rfl rfl 1 (by decide) (hts (.fieldLink RX3 65 "Rewriterope$Text" "length" "I") (by decide +kernel)) (fun _ h9 => h9) rfl dX3_type_94 ?_
    refine lv_iadd hx hb dX3_type_97 ?_
    refine lv_topi (fun y101 ey101 => ?_)
    obtain rfl : y101 = 1 := ey101.trans (by decide)
    refine lv_bipush (v := 32) hx hb dX3_type_98 (by decide) ?_
    refine lv_icmp_le (tgt := 113) hx hb dX3_type_100 (by decide) (fun _ => ?_) (fun c9 => absurd (by decide) c9)
    refine lv_aload hx hb dX3_type_113 (lv_at hl 0 rfl) ?_
    refine lv_aload_n hx hb dX3_type_115 rfl (lv_at hl 1 rfl) ?_
    refine va_get (D := (dC, dI)) (ci := 7) (v := .ref h2) (C := RX3) (T := TX3) (N := 9) hx hb hts (by decide +kernel) hown hK hP 0 rfl rfl 3 (by decide) (hts (.fieldLink RX3 32 "Rewriterope" "work" "LRewriterope$Text;") (by decide +kernel)) (fun _ h9 => h9) rfl dX3_type_116 ?_
    refine lv_iconst (v := 0) hx hb dX3_type_119 (by decide) ?_
    refine lv_aload_n hx hb dX3_type_120 rfl (lv_at hl 1 rfl) ?_
    refine va_get (D := (dC, dI)) (ci := 7) (v := .ref h2) (C := RX3) (T := TX3) (N := 9) hx hb hts (by decide +kernel) hown hK hP 0 rfl rfl 3 (by decide) (hts (.fieldLink RX3 32 "Rewriterope" "work" "LRewriterope$Text;") (by decide +kernel)) (fun _ h9 => h9) rfl dX3_type_121 ?_
    refine va_get (D := (dC, dI)) (ci := 6) (v := .int 1) (C := RX2) (T := TX2) (N := 2) hx hb hts (by decide +kernel) hown hK hP 2 rfl rfl 1 (by decide) (hts (.fieldLink RX3 65 "Rewriterope$Text" "length" "I") (by decide +kernel)) (fun _ h9 => h9) rfl dX3_type_124 ?_
    have hPc := hP.sub (ws' := [(h2, .inr (6, [.ref h3, .int 1])), (h3, .inl (k1, 64, .inl f0)), (h8, .inr (6, [.ref h9, .int 0])), (h9, .inl (k4, 64, .inl (fun _ => 0)))]) [2, 3, 8, 9] rfl
    have hDc := hD.sub (ws' := [(h2, .inr (6, [.ref h3, .int 1])), (h3, .inl (k1, 64, .inl f0)), (h8, .inr (6, [.ref h9, .int 0])), (h9, .inl (k4, 64, .inl (fun _ => 0)))]) [2, 3, 8, 9] (by decide) rfl
    have hKc := hK.sub (tys' := [(k1, .byte), (k4, .byte)]) [1, 4] rfl
    have hFc := va_free (wc := [(h2, .inr (6, [.ref h3, .int 1])), (h3, .inl (k1, 64, .inl f0)), (h8, .inr (6, [.ref h9, .int 0])), (h9, .inl (k4, 64, .inl (fun _ => 0)))]) hD hS hA [2, 3, 8, 9] rfl
    refine va_callv (va_runV (As := [.ref h2, .int 0, .int 1]) (rest := []) ⟨hx, hb, hml, hown, hts⟩ (kx_X2_addPart_2 l dC dI h2 h3 h8 h9 k1 k4 H.size f0 f0_t) (cwV 3 hts gX3_type_X2_addPart rfl rfl rfl (by decide +kernel) ⟨Nat.le_of_ble_eq_true rfl, Nat.le_of_ble_eq_true rfl⟩) ⟨fun a U g mk q => by obtain ⟨q0, q1, qP, qK, qD⟩ := q; exact ⟨q0, q1, qP, va_K.moved (u := U) (U := U.calling g mk a) (Vm.Alike.refl U.vm) qK, qD⟩, va_recv hKc hPc (ci := 6) (q0 := 2) rfl rfl, fun U hU hW => ⟨rfl, by rw [hU], by rw [hU]; exact hPc, va_K.moved hW.alike hKc, hDc.weaken (fun _ _ _ _ => trivial)⟩⟩ rfl rfl hl.1 rfl (lv_room (Nat.le_of_ble_eq_true rfl)) dX3_type_127 ⟨Nat.le_of_ble_eq_true rfl, Nat.le_of_ble_eq_true rfl⟩) hS (fun q _ h => hFc q h) hFc (fun u t H1 locs ht hvm hw hB hz1 hk1 hS => ?_)
    obtain ⟨f102, f102_t, hP1, hK1, hD1⟩ := hB
    rw [ht] at hP1
    have hK1 := va_K.moved hvm.symm hK1
    obtain ⟨hP, hD⟩ := va_join (wr := [(h0, .inr (7, [.ref h1, .ref z0, .ref z1, .ref h2, .ref z2, .ref z3, .int 0, .int 0, .int 0])), (h1, .inl (k0, 4, .inr (.inr (.inr (.inr (va_up (va_up (va_up (va_up (fun _ => none) 0 (some h4)) 1 (some h6)) 2 (some h8)) 3 (some h10))))))), (h4, .inr (6, [.ref h5, .int 0])), (h5, .inl (k2, 64, .inl (fun _ => 0))), (h6, .inr (6, [.ref h7, .int 0])), (h7, .inl (k3, 64, .inl (fun _ => 0))), (h10, .inr (6, [.ref h11, .int 0])), (h11, .inl (k5, 64, .inl (fun _ => 0)))]) (w1 := [(h2, .inr (6, [.ref h3, .int 1])), (h3, .inl (k1, 64, .inl f0)), (h8, .inr (6, [.ref h9, .int 1])), (h9, .inl (k4, 64, .inl f102))]) hP hD [2, 3, 8, 9] [0, 1, 4, 5, 6, 7, 10, 11] rfl rfl (by decide) (by decide) hk1 hFc hP1 hD1
    generalize H1 = H at hP hS ⊢
    have hP : va_P (dC, dI) vwCl [(h0, .inr (7, [.ref h1, .ref z0, .ref z1, .ref h2, .ref z2, .ref z3, .int 0, .int 0, .int 0])), (h1, .inl (k0, 4, .inr (.inr (.inr (.inr (va_up (va_up (va_up (va_up (fun _ => none) 0 (some h4)) 1 (some h6)) 2 (some h8)) 3 (some h10))))))), (h4, .inr (6, [.ref h5, .int 0])), (h5, .inl (k2, 64, .inl (fun _ => 0))), (h6, .inr (6, [.ref h7, .int 0])), (h7, .inl (k3, 64, .inl (fun _ => 0))), (h10, .inr (6, [.ref h11, .int 0])), (h11, .inl (k5, 64, .inl (fun _ => 0))), (h2, .inr (6, [.ref h3, .int 1])), (h3, .inl (k1, 64, .inl f0)), (h8, .inr (6, [.ref h9, .int 1])), (h9, .inl (k4, 64, .inl f102))] H := hP
    have hD : va_D A [(h0, .inr (7, [.ref h1, .ref z0, .ref z1, .ref h2, .ref z2, .ref z3, .int 0, .int 0, .int 0])), (h1, .inl (k0, 4, .inr (.inr (.inr (.inr (va_up (va_up (va_up (va_up (fun _ => none) 0 (some h4)) 1 (some h6)) 2 (some h8)) 3 (some h10))))))), (h4, .inr (6, [.ref h5, .int 0])), (h5, .inl (k2, 64, .inl (fun _ => 0))), (h6, .inr (6, [.ref h7, .int 0])), (h7, .inl (k3, 64, .inl (fun _ => 0))), (h10, .inr (6, [.ref h11, .int 0])), (h11, .inl (k5, 64, .inl (fun _ => 0))), (h2, .inr (6, [.ref h3, .int 1])), (h3, .inl (k1, 64, .inl f0)), (h8, .inr (6, [.ref h9, .int 1])), (h9, .inl (k4, 64, .inl f102))] := hD
    refine lv_aload hx hb dX3_type_130 (lv_at hl 0 rfl) ?_
    refine va_get (D := (dC, dI)) (ci := 6) (v := .int 1) (C := RX2) (T := TX2) (N := 2) hx hb hts (by decide +kernel) hown hK hP 10 rfl rfl 1 (by decide) (hts (.fieldLink RX3 65 "Rewriterope$Text" "length" "I") (by decide +kernel)) (fun _ h9 => h9) rfl dX3_type_132 ?_
    refine W.widen (k := 0) (n := 0) (Nat.le_of_ble_eq_true rfl) (Nat.le_of_ble_eq_true rfl) ?_
    have hK := hK.sub (tys' := [(k0, .object "Rewriterope$Text"), (k1, .byte), (k2, .byte), (k3, .byte), (k4, .byte), (k5, .byte)]) [0, 1, 2, 3, 4, 5] rfl
    have hP := hP.sub (ws' := [(h0, .inr (7, [.ref h1, .ref z0, .ref z1, .ref h2, .ref z2, .ref z3, .int 0, .int 0, .int 0]))]) [0] rfl
    have hD := hD.sub (ws' := [(h0, .inr (7, [.ref h1, .ref z0, .ref z1, .ref h2, .ref z2, .ref z3, .int 0, .int 0, .int 0]))]) [0] (by decide) rfl
    exact W.iret (v := 1) hx hb hr (fun t ht hW => ⟨⟨1, (), rfl, rfl, by rw [ht]; exact hP, va_K.moved hW.alike hK, hD⟩, hS.F ht⟩) hS.2.2 dX3_type_135
  · refine lv_aload_n hx hb dX3_type_77 rfl (lv_at hl 0 rfl) ?_
    refine va_get (D := (dC, dI)) (ci := 7) (v := .ref h1) (C := RX3) (T := TX3) (N := 9) hx hb hts (by decide +kernel) hown hK hP 0 rfl rfl 0 (by decide) (hts (.fieldLink RX3 11 "Rewriterope" "ropes" "[LRewriterope$Text;") (by decide +kernel)) (fun _ h9 => h9) rfl dX3_type_78 ?_
    refine lv_iload_n hx hb dX3_type_81 rfl (lv_at hl 1 rfl) ?_
    refine va_aldq (D := (dC, dI)) hx hb hK hP 1 0 rfl rfl (by unfold vp_in; decide) dX3_type_82 ?_
    refine W.eq (g2 := F0 m 83 ls [.ref h10]) rfl ?_
    refine lv_astore (lv' := [(7, .ref h10), (0, .ref h0), (1, .int 3)]) hx hb dX3_type_83 hl (by decide) rfl (fun ls hl => ?_)
    refine lv_aload hx hb dX3_type_85 (lv_at hl 0 rfl) ?_
    refine va_get (D := (dC, dI)) (ci := 6) (v := .int 0) (C := RX2) (T := TX2) (N := 2) hx hb hts (by decide +kernel) hown hK hP 10 rfl rfl 1 (by decide) (hts (.fieldLink RX3 65 "Rewriterope$Text" "length" "I") (by decide +kernel)) (fun _ h9 => h9) rfl dX3_type_87 ?_
    refine lv_aload_n hx hb dX3_type_90 rfl (lv_at hl 1 rfl) ?_
    refine va_get (D := (dC, dI)) (ci := 7) (v := .ref h2) (C := RX3) (T := TX3) (N := 9) hx hb hts (by decide +kernel) hown hK hP 0 rfl rfl 3 (by decide) (hts (.fieldLink RX3 32 "Rewriterope" "work" "LRewriterope$Text;") (by decide +kernel)) (fun _ h9 => h9) rfl dX3_type_91 ?_
    refine va_get (D := (dC, dI)) (ci := 6) (v := .int 1) (C := RX2) (T := TX2) (N := 2) hx hb hts (by decide +kernel) hown hK hP 2 rfl rfl 1 (by decide) (hts (.fieldLink RX3 65 "Rewriterope$Text" "length" "I") (by decide +kernel)) (fun _ h9 => h9) rfl dX3_type_94 ?_
    refine lv_iadd hx hb dX3_type_97 ?_
    refine lv_topi (fun y101 ey101 => ?_)
    obtain rfl : y101 = 1 := ey101.trans (by decide)
    refine lv_bipush (v := 32) hx hb dX3_type_98 (by decide) ?_
    refine lv_icmp_le (tgt := 113) hx hb dX3_type_100 (by decide) (fun _ => ?_) (fun c9 => absurd (by decide) c9)
    refine lv_aload hx hb dX3_type_113 (lv_at hl 0 rfl) ?_
    refine lv_aload_n hx hb dX3_type_115 rfl (lv_at hl 1 rfl) ?_
    refine va_get (D := (dC, dI)) (ci := 7) (v := .ref h2) (C := RX3) (T := TX3) (N := 9) hx hb hts (by decide +kernel) hown hK hP 0 rfl rfl 3 (by decide) (hts (.fieldLink RX3 32 "Rewriterope" "work" "LRewriterope$Text;") (by decide +kernel)) (fun _ h9 => h9) rfl dX3_type_116 ?_
    refine lv_iconst (v := 0) hx hb dX3_type_119 (by decide) ?_
    refine lv_aload_n hx hb dX3_type_120 rfl (lv_at hl 1 rfl) ?_
    refine va_get (D := (dC, dI)) (ci := 7) (v := .ref h2) (C := RX3) (T := TX3) (N := 9) hx hb hts (by decide +kernel) hown hK hP 0 rfl rfl 3 (by decide) (hts (.fieldLink RX3 32 "Rewriterope" "work" "LRewriterope$Text;") (by decide +kernel)) (fun _ h9 => h9) rfl dX3_type_121 ?_
    refine va_get (D := (dC, dI)) (ci := 6) (v := .int 1) (C := RX2) (T := TX2) (N := 2) hx hb hts (by decide +kernel) hown hK hP 2 rfl rfl 1 (by decide) (hts (.fieldLink RX3 65 "Rewriterope$Text" "length" "I") (by decide +kernel)) (fun _ h9 => h9) rfl dX3_type_124 ?_
    have hPc := hP.sub (ws' := [(h2, .inr (6, [.ref h3, .int 1])), (h3, .inl (k1, 64, .inl f0)), (h10, .inr (6, [.ref h11, .int 0])), (h11, .inl (k5, 64, .inl (fun _ => 0)))]) [2, 3, 10, 11] rfl
    have hDc := hD.sub (ws' := [(h2, .inr (6, [.ref h3, .int 1])), (h3, .inl (k1, 64, .inl f0)), (h10, .inr (6, [.ref h11, .int 0])), (h11, .inl (k5, 64, .inl (fun _ => 0)))]) [2, 3, 10, 11] (by decide) rfl
    have hKc := hK.sub (tys' := [(k1, .byte), (k5, .byte)]) [1, 5] rfl
    have hFc := va_free (wc := [(h2, .inr (6, [.ref h3, .int 1])), (h3, .inl (k1, 64, .inl f0)), (h10, .inr (6, [.ref h11, .int 0])), (h11, .inl (k5, 64, .inl (fun _ => 0)))]) hD hS hA [2, 3, 10, 11] rfl
    refine va_callv (va_runV (As := [.ref h2, .int 0, .int 1]) (rest := []) ⟨hx, hb, hml, hown, hts⟩ (kx_X2_addPart_2 l dC dI h2 h3 h10 h11 k1 k5 H.size f0 f0_t) (cwV 3 hts gX3_type_X2_addPart rfl rfl rfl (by decide +kernel) ⟨Nat.le_of_ble_eq_true rfl, Nat.le_of_ble_eq_true rfl⟩) ⟨fun a U g mk q => by obtain ⟨q0, q1, qP, qK, qD⟩ := q; exact ⟨q0, q1, qP, va_K.moved (u := U) (U := U.calling g mk a) (Vm.Alike.refl U.vm) qK, qD⟩, va_recv hKc hPc (ci := 6) (q0 := 2) rfl rfl, fun U hU hW => ⟨rfl, by rw [hU], by rw [hU]; exact hPc, va_K.moved hW.alike hKc, hDc.weaken (fun _ _ _ _ => trivial)⟩⟩ rfl rfl hl.1 rfl (lv_room (Nat.le_of_ble_eq_true rfl)) dX3_type_127 ⟨Nat.le_of_ble_eq_true rfl, Nat.le_of_ble_eq_true rfl⟩) hS (fun q _ h => hFc q h) hFc (fun u t H1 locs ht hvm hw hB hz1 hk1 hS => ?_)
    obtain ⟨f102, f102_t, hP1, hK1, hD1⟩ := hB
    rw [ht] at hP1
    have hK1 := va_K.moved hvm.symm hK1
    obtain ⟨hP, hD⟩ := va_join (wr := [(h0, .inr (7, [.ref h1, .ref z0, .ref z1, .ref h2, .ref z2, .ref z3, .int 0, .int 0, .int 0])), (h1, .inl (k0, 4, .inr (.inr (.inr (.inr (va_up (va_up (va_up (va_up (fun _ => none) 0 (some h4)) 1 (some h6)) 2 (some h8)) 3 (some h10))))))), (h4, .inr (6, [.ref h5, .int 0])), (h5, .inl (k2, 64, .inl (fun _ => 0))), (h6, .inr (6, [.ref h7, .int 0])), (h7, .inl (k3, 64, .inl (fun _ => 0))), (h8, .inr (6, [.ref h9, .int 0])), (h9, .inl (k4, 64, .inl (fun _ => 0)))]) (w1 := [(h2, .inr (6, [.ref h3, .int 1])), (h3, .inl (k1, 64, .inl f0)), (h10, .inr (6, [.ref h11, .int 1])), (h11, .inl (k5, 64, .inl f102))]) hP hD [2, 3, 10, 11] [0, 1, 4, 5, 6, 7, 8, 9] rfl rfl (by decide) (by decide) hk1 hFc hP1 hD1
    generalize H1 = H at hP hS ⊢
    have hP : va_P (dC, dI) vwCl [(h0, .inr (7, [.ref h1, .ref z0, .ref z1, .ref h2, .ref z2, .ref z3, .int 0, .int 0, .int 0])), (h1, .inl (k0, 4, .inr (.inr (.inr (.inr (va_up (va_up (va_up (va_up (fun _ => none) 0 (some h4)) 1 (some h6)) 2 (some h8)) 3 (some h10))))))), (h4, .inr (6, [.ref h5, .int 0])), (h5, .inl (k2, 64, .inl (fun _ => 0))), (h6, .inr (6, [.ref h7, .int 0])), (h7, .inl (k3, 64, .inl (fun _ => 0))), (h8, .inr (6, [.ref h9, .int 0])), (h9, .inl (k4, 64, .inl (fun _ => 0))), (h2, .inr (6, [.ref h3, .int 1])), (h3, .inl (k1, 64, .inl f0)), (h10, .inr (6, [.ref h11, .int 1])), (h11, .inl (k5, 64, .inl f102))] H := hP
    have hD : va_D A [(h0, .inr (7, [.ref h1, .ref z0, .ref z1, .ref h2, .ref z2, .ref z3, .int 0, .int 0, .int 0])), (h1, .inl (k0, 4, .inr (.inr (.inr (.inr (va_up (va_up (va_up (va_up (fun _ => none) 0 (some h4)) 1 (some h6)) 2 (some h8)) 3 (some h10))))))), (h4, .inr (6, [.ref h5, .int 0])), (h5, .inl (k2, 64, .inl (fun _ => 0))), (h6, .inr (6, [.ref h7, .int 0])), (h7, .inl (k3, 64, .inl (fun _ => 0))), (h8, .inr (6, [.ref h9, .int 0])), (h9, .inl (k4, 64, .inl (fun _ => 0))), (h2, .inr (6, [.ref h3, .int 1])), (h3, .inl (k1, 64, .inl f0)), (h10, .inr (6, [.ref h11, .int 1])), (h11, .inl (k5, 64, .inl f102))] := hD
    refine lv_aload hx hb dX3_type_130 (lv_at hl 0 rfl) ?_
    refine va_get (D := (dC, dI)) (ci := 6) (v := .int 1) (C := RX2) (T := TX2) (N := 2) hx hb hts (by decide +kernel) hown hK hP 10 rfl rfl 1 (by decide) (hts (.fieldLink RX3 65 "Rewriterope$Text" "length" "I") (by decide +kernel)) (fun _ h9 => h9) rfl dX3_type_132 ?_
    refine W.widen (k := 0) (n := 0) (Nat.le_of_ble_eq_true rfl) (Nat.le_of_ble_eq_true rfl) ?_
    have hK := hK.sub (tys' := [(k0, .object "Rewriterope$Text"), (k1, .byte), (k2, .byte), (k3, .byte), (k4, .byte), (k5, .byte)]) [0, 1, 2, 3, 4, 5] rfl
    have hP := hP.sub (ws' := [(h0, .inr (7, [.ref h1, .ref z0, .ref z1, .ref h2, .ref z2, .ref z3, .int 0, .int 0, .int 0]))]) [0] rfl
    have hD := hD.sub (ws' := [(h0, .inr (7, [.ref h1, .ref z0, .ref z1, .ref h2, .ref z2, .ref z3, .int 0, .int 0, .int 0]))]) [0] (by decide) rfl
    exact W.iret (v := 1) hx hb hr (fun t ht hW => ⟨⟨1, (), rfl, rfl, by rw [ht]; exact hP, va_K.moved hW.alike hK, hD⟩, hS.F ht⟩) hS.2.2 dX3_type_135
set_option maxHeartbeats 4000000 in
set_option maxRecDepth 100000 in
theorem kx_X2_addPart_3 (l : Launch) (dC : Nat → ClassId) (dI : Nat → Nat → Nat) (h0 : Nat) (h1 : Nat) (h2 : Nat) (h3 : Nat) (k0 : ClassId) (k1 : ClassId) (sz : Nat) (f0 : Nat → Int32) (f0_t : sb_Fit f0) : Met l yX2_addPart wsX2_addPart ({ frames := 1, cells := 0, slots := 0, locals := 60 }) (va_Pc [.ref h2, .ref h0, .int 0, .int 2] (fun U => U.heap.size = sz ∧ va_P (dC, dI) vwCl [(h0, .inr (6, [.ref h1, .int 2])), (h1, .inl (k0, 64, .inl f0)), (h2, .inr (6, [.ref h3, .int 0])), (h3, .inl (k1, 64, .inl (fun _ => 0)))] U.heap ∧ va_K (dC, dI) vwCl [(k0, .byte), (k1, .byte)] U ∧ va_D (fun _ => True) [(h0, .inr (6, [.ref h1, .int 2])), (h1, .inl (k0, 64, .inl f0)), (h2, .inr (6, [.ref h3, .int 0])), (h3, .inl (k1, 64, .inl (fun _ => 0)))])) (va_Qv (fun _ : Unit => True) (fun (_ : Unit) (t : State) => ∃ f3 : Nat → Int32, sb_Fit f3 ∧ va_P (dC, dI) vwCl [(h0, .inr (6, [.ref h1, .int 2])), (h1, .inl (k0, 64, .inl f0)), (h2, .inr (6, [.ref h3, .int 2])), (h3, .inl (k1, 64, .inl f3))] t.heap ∧ va_K (dC, dI) vwCl [(k0, .byte), (k1, .byte)] t ∧ va_D (va_A [(h0, .inr (6, [.ref h1, .int 2])), (h1, .inl (k0, 64, .inl f0)), (h2, .inr (6, [.ref h3, .int 0])), (h3, .inl (k1, 64, .inl (fun _ => 0)))] sz) [(h0, .inr (6, [.ref h1, .int 2])), (h1, .inl (k0, 64, .inl f0)), (h2, .inr (6, [.ref h3, .int 2])), (h3, .inl (k1, 64, .inl f3))]) (va_A [(h0, .inr (6, [.ref h1, .int 2])), (h1, .inl (k0, 64, .inl f0)), (h2, .inr (6, [.ref h3, .int 0])), (h3, .inl (k1, 64, .inl (fun _ => 0)))] sz)) 0 0 (va_A [(h0, .inr (6, [.ref h1, .int 2])), (h1, .inl (k0, 64, .inl f0)), (h2, .inr (6, [.ref h3, .int 0])), (h3, .inl (k1, 64, .inl (fun _ => 0)))] sz) := by
  refine Met.ofW (cc := cX2_addPart) (maxL := 5) (ret := none) (by decide) rfl ?_
  intro p e s m args below meth c s₁ B hml hv
  obtain ⟨rfl, hsz, hP, hK, hD0⟩ := hv
  have hx := B.exec
  have hb := B.bytes
  have hr := B.returns
  have hts := atoms_spec (ws := wsX2_addPart) B.pre
  have hown : s.vm.findClass RX2 = some m.cls := findClass_of_methodNamed B.named
  have hlocks := B.notSynchronized
  subst hsz
  have hD := hD0.self (sz := s.heap.size)
  generalize hAe : va_A [(h0, .inr (6, [.ref h1, .int 2])), (h1, .inl (k0, 64, .inl f0)), (h2, .inr (6, [.ref h3, .int 0])), (h3, .inl (k1, 64, .inl (fun _ => 0)))] s.heap.size = A at hD ⊢
  have hA : ∀ q : Nat, s.heap.size ≤ q → A q := fun q h => by rw [← hAe]; exact Or.inr h
  have hS : va_S A s.heap s.heap [] := va_S.rf
  have hP : va_P (dC, dI) vwCl [(h0, .inr (6, [.ref h1, .int 2])), (h1, .inl (k0, 64, .inl f0)), (h2, .inr (6, [.ref h3, .int 0])), (h3, .inl (k1, 64, .inl (fun _ => 0)))] s.heap := hP
  have hl := lv_entry ([.ref h2, .ref h0, .int 0, .int 2]) (n := 5) (Nat.le_of_ble_eq_true rfl)
  rw [lg_entry_eq]
  generalize (lg_sl ([.ref h2, .ref h0, .int 0, .int 2]) ++ List.replicate (5 - (lg_sl ([.ref h2, .ref h0, .int 0, .int 2])).length) Slot.unset).toArray = ls at hl ⊢
  have hl : lv_has ls 5 [(0, .ref h2), (1, .ref h0), (2, .int 0), (3, .int 2)] := hl
  refine lv_iload_n hx hb dX2_addPart_0 rfl (lv_at hl 3 rfl) ?_
  refine lv_iload_n hx hb dX2_addPart_1 rfl (lv_at hl 2 rfl) ?_
  refine lv_isub hx hb dX2_addPart_2 ?_
  refine lv_topi (fun y1 ey1 => ?_)
  obtain rfl : y1 = 2 := ey1.trans (by decide)
  refine lv_istore (lv' := [(4, .int 2), (0, .ref h2), (1, .ref h0), (2, .int 0), (3, .int 2)]) hx hb dX2_addPart_3 hl (by decide) rfl (fun ls hl => ?_)
  refine lv_iload_n hx hb dX2_addPart_5 rfl (lv_at hl 3 rfl) ?_
  refine lv_if_lt (tgt := 34) hx hb dX2_addPart_6 (by decide) (fun c9 => absurd c9 (by decide)) (fun _ => ?_)
  refine lv_iload hx hb dX2_addPart_9 (lv_at hl 0 rfl) ?_
  refine lv_if_lt (tgt := 34) hx hb dX2_addPart_11 (by decide) (fun c9 => absurd c9 (by decide)) (fun _ => ?_)
  refine lv_iload_n hx hb dX2_addPart_14 rfl (lv_at hl 4 rfl) ?_
  refine lv_aload_n hx hb dX2_addPart_15 rfl (lv_at hl 2 rfl) ?_
  refine va_get (D := (dC, dI)) (ci := 6) (v := .int 2) (C := RX2) (T := TX2) (N := 2) hx hb hts (by decide +kernel) hown hK hP 0 rfl rfl 1 (by decide) (hts (.fieldLink RX2 15 "Rewriterope$Text" "length" "I") (by decide +kernel)) (fun _ h9 => h9) rfl dX2_addPart_16 ?_
  refine lv_icmp_gt (tgt := 34) hx hb dX2_addPart_19 (by decide) (fun c9 => absurd c9 (by decide)) (fun _ => ?_)
  refine lv_aload_n hx hb dX2_addPart_22 rfl (lv_at hl 1 rfl) ?_
  refine va_get (D := (dC, dI)) (ci := 6) (v := .int 0) (C := RX2) (T := TX2) (N := 2) hx hb hts (by decide +kernel) hown hK hP 2 rfl rfl 1 (by decide) (hts (.fieldLink RX2 15 "Rewriterope$Text" "length" "I") (by decide +kernel)) (fun _ h9 => h9) rfl dX2_addPart_23 ?_
  refine lv_iload hx hb dX2_addPart_26 (lv_at hl 0 rfl) ?_
  refine lv_iadd hx hb dX2_addPart_28 ?_
  refine lv_topi (fun y2 ey2 => ?_)
  obtain rfl : y2 = 2 := ey2.trans (by decide)
  refine lv_bipush (v := 64) hx hb dX2_addPart_29 (by decide) ?_
  refine lv_icmp_le (tgt := 35) hx hb dX2_addPart_31 (by decide) (fun _ => ?_) (fun c9 => absurd (by decide) c9)
  refine lv_aload_n hx hb dX2_addPart_35 rfl (lv_at hl 2 rfl) ?_
  refine va_get (D := (dC, dI)) (ci := 6) (v := .ref h1) (C := RX2) (T := TX2) (N := 2) hx hb hts (by decide +kernel) hown hK hP 0 rfl rfl 0 (by decide) (hts (.fieldLink RX2 11 "Rewriterope$Text" "letters" "[B") (by decide +kernel)) (fun _ h9 => h9) rfl dX2_addPart_36 ?_
  refine lv_iload_n hx hb dX2_addPart_39 rfl (lv_at hl 3 rfl) ?_
  refine lv_aload_n hx hb dX2_addPart_40 rfl (lv_at hl 1 rfl) ?_
  refine va_get (D := (dC, dI)) (ci := 6) (v := .ref h3) (C := RX2) (T := TX2) (N := 2) hx hb hts (by decide +kernel) hown hK hP 2 rfl rfl 0 (by decide) (hts (.fieldLink RX2 11 "Rewriterope$Text" "letters" "[B") (by decide +kernel)) (fun _ h9 => h9) rfl dX2_addPart_41 ?_
  refine lv_aload_n hx hb dX2_addPart_44 rfl (lv_at hl 1 rfl) ?_
  refine va_get (D := (dC, dI)) (ci := 6) (v := .int 0) (C := RX2) (T := TX2) (N := 2) hx hb hts (by decide +kernel) hown hK hP 2 rfl rfl 1 (by decide) (hts (.fieldLink RX2 15 "Rewriterope$Text" "length" "I") (by decide +kernel)) (fun _ h9 => h9) rfl dX2_addPart_45 ?_
  refine lv_iload hx hb dX2_addPart_48 (lv_at hl 0 rfl) ?_
  refine va_copyi (D := (dC, dI)) (sp := 0) (dp := 0) (n := 2) hx hb (by rw [hml]; exact hl.1.symm) hown (hts (.methodLink RX2 19 arraycopyName) (by decide +kernel)) (hts (.native arraycopyName) (by decide +kernel)) (hts (.static arraycopyName) (by decide +kernel)) (hts (.initialized "java/lang/System") (by decide +kernel)) hK hP hD hS 1 3 0 1 rfl rfl rfl rfl rfl (by decide) (by decide) (by decide) (by decide) (by decide) (fun i hi => f0_t _) (Nat.le_of_ble_eq_true rfl) (Nat.le_of_ble_eq_true rfl) dX2_addPart_50 (fun H locs hP hD hS => ?_)
  have hP : va_P (dC, dI) vwCl [(h0, .inr (6, [.ref h1, .int 2])), (h1, .inl (k0, 64, .inl f0)), (h2, .inr (6, [.ref h3, .int 0])), (h3, .inl (k1, 64, .inl (va_cpy f0 (fun _ => 0) (0 : Int32).toNatClampNeg (0 : Int32).toNatClampNeg (2 : Int32).toNatClampNeg)))] H := hP
  have hD : va_D A [(h0, .inr (6, [.ref h1, .int 2])), (h1, .inl (k0, 64, .inl f0)), (h2, .inr (6, [.ref h3, .int 0])), (h3, .inl (k1, 64, .inl (va_cpy f0 (fun _ => 0) (0 : Int32).toNatClampNeg (0 : Int32).toNatClampNeg (2 : Int32).toNatClampNeg)))] := hD
  obtain ⟨f3, hf3⟩ : ∃ f : Nat → Int32, f = va_cpy f0 (fun _ => 0) (0 : Int32).toNatClampNeg (0 : Int32).toNatClampNeg (2 : Int32).toNatClampNeg := ⟨_, rfl⟩
  have f3_t : sb_Fit f3 := by rw [hf3]; exact sb_fitC f0_t sb_fit0
  rw [← hf3] at hP hD
  refine lv_aload_n hx hb dX2_addPart_53 rfl (lv_at hl 1 rfl) ?_
  refine lv_dup hx hb dX2_addPart_54 rfl ?_
  refine va_get (D := (dC, dI)) (ci := 6) (v := .int 0) (C := RX2) (T := TX2) (N := 2) hx hb hts (by decide +kernel) hown hK hP 2 rfl rfl 1 (by decide) (hts (.fieldLink RX2 15 "Rewriterope$Text" "length" "I") (by decide +kernel)) (fun _ h9 => h9) rfl dX2_addPart_55 ?_
  refine lv_iload hx hb dX2_addPart_58 (lv_at hl 0 rfl) ?_
  refine lv_iadd hx hb dX2_addPart_60 ?_
  refine lv_topi (fun y4 ey4 => ?_)
  obtain rfl : y4 = 2 := ey4.trans (by decide)
  refine va_put (D := (dC, dI)) (ci := 6) (v := .int 2) (ty := .int) (C := RX2) (T := TX2) (N := 2) hx hb hts (by decide +kernel) tyX2 tyX2_ok nmX2 hown hK hP hD hS 2 rfl rfl 1 (by decide) (hts (.fieldLink RX2 15 "Rewriterope$Text" "length" "I") (by decide +kernel)) (fun _ h9 => h9) rfl (by decide +kernel) rfl rfl (Nat.le_of_ble_eq_true rfl) dX2_addPart_61 (fun H locs hP hD hS => ?_)
  have hP : va_P (dC, dI) vwCl [(h0, .inr (6, [.ref h1, .int 2])), (h1, .inl (k0, 64, .inl f0)), (h2, .inr (6, [.ref h3, .int 2])), (h3, .inl (k1, 64, .inl f3))] H := hP
  have hD : va_D A [(h0, .inr (6, [.ref h1, .int 2])), (h1, .inl (k0, 64, .inl f0)), (h2, .inr (6, [.ref h3, .int 2])), (h3, .inl (k1, 64, .inl f3))] := hD
  exact W.vret hx hb hr (fun t ht hW => ⟨⟨(), rfl, trivial, f3, f3_t, by rw [ht]; exact hP, va_K.moved hW.alike hK, hD⟩, hS.F ht⟩) hS.2.2 dX2_addPart_64
set_option maxHeartbeats 8000000 in
set_option maxRecDepth 100000 in
theorem kx_X3_type_h52 {l : Launch} {dC : Nat → ClassId} {dI : Nat → Nat → Nat} {h0 h1 h2 h3 h4 h5 h6 h7 h8 h9 h10 h11 z0 z1 z2 z3 : Nat} {k0 k1 k2 k3 k4 k5 : ClassId} {rp  R : Int32} {p : Program} {e : Env} {s : State} {m : MethodId} {args : Array Value} {below : List Frame} {meth : Method} {c : Code} {A : Nat → Prop} {H : Heap} {locs : List Loc} {ls : Array Slot} {f0 : Nat → Int32} (f0_t : sb_Fit f0) (hR : kz_ct 2 [] = R) (rp_l : (0 : Int) ≤ rp.toInt) (rp_u : rp.toInt ≤ (3 : Int)) (hx : p.tables.exec = Jvm.exec) (hb : c.code = cX3_type) (hr : meth.sig.returnType = some .int) (hml : c.maxLocals = 8) (hown : s.vm.findClass RX3 = some m.cls) (hts : ∀ w ∈ wsX3_type, w.before args s = true) (hlocks : meth.locks = false) (hA : ∀ q : Nat, s.heap.size ≤ q → A q) (hS : va_S A s.heap H locs) (hK : va_K (dC, dI) vwCl [(k0, .object "Rewriterope$Text"), (k1, .byte), (k2, .byte), (k3, .byte), (k4, .byte), (k5, .byte)] s) (hP : va_P (dC, dI) vwCl [(h0, .inr (7, [.ref h1, .ref z0, .ref z1, .ref h2, .ref z2, .ref z3, .int 0, .int 0, .int 0])), (h1, .inl (k0, 4, .inr (.inr (.inr (.inr (va_up (va_up (va_up (va_up (fun _ => none) 0 (some h4)) 1 (some h6)) 2 (some h8)) 3 (some h10))))))), (h2, .inr (6, [.ref h3, .int 2])), (h3, .inl (k1, 64, .inl f0)), (h4, .inr (6, [.ref h5, .int 0])), (h5, .inl (k2, 64, .inl (fun _ => 0))), (h6, .inr (6, [.ref h7, .int 0])), (h7, .inl (k3, 64, .inl (fun _ => 0))), (h8, .inr (6, [.ref h9, .int 0])), (h9, .inl (k4, 64, .inl (fun _ => 0))), (h10, .inr (6, [.ref h11, .int 0])), (h11, .inl (k5, 64, .inl (fun _ => 0)))] H) (hD : va_D A [(h0, .inr (7, [.ref h1, .ref z0, .ref z1, .ref h2, .ref z2, .ref z3, .int 0, .int 0, .int 0])), (h1, .inl (k0, 4, .inr (.inr (.inr (.inr (va_up (va_up (va_up (va_up (fun _ => none) 0 (some h4)) 1 (some h6)) 2 (some h8)) 3 (some h10))))))), (h2, .inr (6, [.ref h3, .int 2])), (h3, .inl (k1, 64, .inl f0)), (h4, .inr (6, [.ref h5, .int 0])), (h5, .inl (k2, 64, .inl (fun _ => 0))), (h6, .inr (6, [.ref h7, .int 0])), (h7, .inl (k3, 64, .inl (fun _ => 0))), (h8, .inr (6, [.ref h9, .int 0])), (h9, .inl (k4, 64, .inl (fun _ => 0))), (h10, .inr (6, [.ref h11, .int 0])), (h11, .inl (k5, 64, .inl (fun _ => 0)))]) (hl : lv_has ls 8 [(0, .ref h0), (1, .int rp)]) : W p l e (headSpec wsX3_type ({ frames := 2, cells := 0, slots := 0, locals := 84 })).room s m args below meth c H locs 0 0 (MQ below (va_Qi (fun (r : Int32) (_ : Unit) => r = R) (fun (_ : Unit) (t : State) => va_P (dC, dI) vwCl [(h0, .inr (7, [.ref h1, .ref z0, .ref z1, .ref h2, .ref z2, .ref z3, .int 0, .int 0, .int 0]))] t.heap ∧ va_K (dC, dI) vwCl [(k0, .object "Rewriterope$Text"), (k1, .byte), (k2, .byte), (k3, .byte), (k4, .byte), (k5, .byte)] t ∧ va_D A [(h0, .inr (7, [.ref h1, .ref z0, .ref z1, .ref h2, .ref z2, .ref z3, .int 0, .int 0, .int 0]))]) A) args s 0 0 A) (F0 m 77 ls []) := by
  have hR9 : (2 : Int32) = R := (show (2 : Int32) = kz_ct 2 [] from (kz_ct_e.trans (by decide)).symm).trans hR
  subst hR9
  rcases kz_r4 rp_l rp_u with rfl | rfl | rfl | rfl
  · refine lv_aload_n hx hb dX3_type_77 rfl (lv_at hl 0 rfl) ?_
    refine va_get (D := (dC, dI)) (ci := 7) (v := .ref h1) (C := RX3) (T := TX3) (N := 9) hx hb hts (by decide +kernel) hown hK hP 0 rfl rfl 0 (by decide) (hts (.fieldLink RX3 11 "Rewriterope" "ropes" "[LRewriterope$Text;") (by decide +kernel)) (fun _ h9 => h9) rfl dX3_type_78 ?_
    refine lv_iload_n hx hb dX3_type_81 rfl (lv_at hl 1 rfl) ?_
    refine va_aldq (D := (dC, dI)) hx hb hK hP 1 0 rfl rfl (by unfold vp_in; decide) dX3_type_82 ?_
    refine W.eq (g2 := F0 m 83 ls [.ref h4]) rfl ?_
    refine lv_astore (lv' := [(7, .ref h4), (0, .ref h0), (1, .int 0)]) hx hb dX3_type_83 hl (by decide) rfl (fun ls hl => ?_)
    refine lv_aload hx hb dX3_type_85 (lv_at hl 0 rfl) ?_
    refine va_get (D := (dC, dI)) (ci := 6) (v := .int 0) (C := RX2) (T := TX2) (N := 2) hx hb hts (by decide +kernel) hown hK hP 4 rfl rfl 1 (by decide) (hts (.fieldLink RX3 65 "Rewriterope$Text" "length" "I") (by decide +kernel)) (fun _ h9 => h9) rfl dX3_type_87 ?_
    refine lv_aload_n hx hb dX3_type_90 rfl (lv_at hl 1 rfl) ?_
    refine va_get (D := (dC, dI)) (ci := 7) (v := .ref h2) (C := RX3) (T := TX3) (N := 9) hx hb hts (by decide +kernel) hown hK hP 0 rfl rfl 3 (by decide) (hts (.fieldLink RX3 32 "Rewriterope" "work" "LRewriterope$Text;") (by decide +kernel)) (fun _ h9 => h9) rfl dX3_type_91 ?_
    refine va_get (D := (dC, dI)) (ci := 6) (v := .int 2) (C := RX2) (T := TX2) (N := 2) hx hb hts (by decide +kernel) hown hK hP 2 rfl rfl 1 (by decide) (hts (.fieldLink RX3 65 "Rewriterope$Text" "length" "I") (by decide +kernel)) (fun _ h9 => h9) rfl dX3_type_94 ?_
    refine lv_iadd hx hb dX3_type_97 ?_
    refine lv_topi (fun y101 ey101 => ?_)
    obtain rfl : y101 = 2 := ey101.trans (by decide)
    refine lv_bipush (v := 32) hx hb dX3_type_98 (by decide) ?_
    refine lv_icmp_le (tgt := 113) hx hb dX3_type_100 (by decide) (fun _ => ?_) (fun c9 => absurd (by decide) c9)
    refine lv_aload hx hb dX3_type_113 (lv_at hl 0 rfl) ?_
    refine lv_aload_n hx hb dX3_type_115 rfl (lv_at hl 1 rfl) ?_
    refine va_get (D := (dC, dI)) (ci := 7) (v := .ref h2) (C := RX3) (T := TX3) (N := 9) hx hb hts (by decide +kernel) hown hK hP 0 rfl rfl 3 (by decide) (hts (.fieldLink RX3 32 "Rewriterope" "work" "LRewriterope$Text;") (by decide +kernel)) (fun _ h9 => h9) rfl dX3_type_116 ?_
    refine lv_iconst (v := 0) hx hb dX3_type_119 (by decide) ?_
    refine lv_aload_n hx hb dX3_type_120 rfl (lv_at hl 1 rfl) ?_
    refine va_get (D := (dC, dI)) (ci := 7) (v := .ref h2) (C := RX3) (T := TX3) (N := 9) hx hb hts (by decide +kernel) hown hK hP 0 rfl rfl 3 (by decide) (hts (.fieldLink RX3 32 "Rewriterope" "work" "LRewriterope$Text;") (by decide +kernel)) (fun _ h9 => h9) rfl dX3_type_121 ?_
    refine va_get (D := (dC, dI)) (ci := 6) (v := .int 2) (C := RX2) (T := TX2) (N := 2) hx hb hts (by decide +kernel) hown hK hP 2 rfl rfl 1 (by decide) (hts (.fieldLink RX3 65 "Rewriterope$Text" "length" "I") (by decide +kernel)) (fun _ h9 => h9) rfl dX3_type_124 ?_
    have hPc := hP.sub (ws' := [(h2, .inr (6, [.ref h3, .int 2])), (h3, .inl (k1, 64, .inl f0)), (h4, .inr (6, [.ref h5, .int 0])), (h5, .inl (k2, 64, .inl (fun _ => 0)))]) [2, 3, 4, 5] rfl
    have hDc := hD.sub (ws' := [(h2, .inr (6, [.ref h3, .int 2])), (h3, .inl (k1, 64, .inl f0)), (h4, .inr (6, [.ref h5, .int 0])), (h5, .inl (k2, 64, .inl (fun _ => 0)))]) [2, 3, 4, 5] (by decide) rfl
    have hKc := hK.sub (tys' := [(k1, .byte), (k2, .byte)]) [1, 2] rfl
    have hFc := va_free (wc := [(h2, .inr (6, [.ref h3, .int 2])), (h3, .inl (k1, 64, .inl f0)), (h4, .inr (6, [.ref h5, .int 0])), (h5, .inl (k2, 64, .inl (fun _ => 0)))]) hD hS hA [2, 3, 4, 5] rfl
    refine va_callv (va_runV (As := [.ref h2, .int 0, .int 2]) (rest := []) ⟨hx, hb, hml, hown, hts⟩ (kx_X2_addPart_3 l dC dI h2 h3 h4 h5 k1 k2 H.size f0 f0_t) (cwV 3 hts gX3_type_X2_addPart rfl rfl rfl (by decide +kernel) ⟨Nat.le_of_ble_eq_true rfl, Nat.le_of_ble_eq_true rfl⟩) ⟨fun a U g mk q => by obtain ⟨q0, q1, qP, qK, qD⟩ := q; exact ⟨q0, q1, qP, va_K.moved (u := U) (U := U.calling g mk a) (Vm.Alike.refl U.vm) qK, qD⟩, va_recv hKc hPc (ci := 6) (q0 := 2) rfl rfl, fun U hU hW => ⟨rfl, by rw [hU], by rw [hU]; exact hPc, va_K.moved hW.alike hKc, hDc.weaken (fun _ _ _ _ => trivial)⟩⟩ rfl rfl hl.1 rfl (lv_room (Nat.le_of_ble_eq_true rfl)) dX3_type_127 ⟨Nat.le_of_ble_eq_true rfl, Nat.le_of_ble_eq_true rfl⟩) hS (fun q _ h => hFc q h) hFc (fun u t H1 locs ht hvm hw hB hz1 hk1 hS => ?_)
    obtain ⟨f102, f102_t, hP1, hK1, hD1⟩ := hB
    rw [ht] at hP1
    have hK1 := va_K.moved hvm.symm hK1
    obtain ⟨hP, hD⟩ := va_join (wr := [(h0, .inr (7, [.ref h1, .ref z0, .ref z1, .ref h2, .ref z2, .ref z3, .int 0, .int 0, .int 0])), (h1, .inl (k0, 4, .inr (.inr (.inr (.inr (va_up (va_up (va_up (va_up (fun _ => none) 0 (some h4)) 1 (some h6)) 2 (some h8)) 3 (some h10))))))), (h6, .inr (6, [.ref h7, .int 0])), (h7, .inl (k3, 64, .inl (fun _ => 0))), (h8, .inr (6, [.ref h9, .int 0])), (h9, .inl (k4, 64, .inl (fun _ => 0))), (h10, .inr (6, [.ref h11, .int 0])), (h11, .inl (k5, 64, .inl (fun _ => 0)))]) (w1 := [(h2, .inr (6, [.ref h3, .int 2])), (h3, .inl (k1, 64, .inl f0)), (h4, .inr (6, [.ref h5, .int 2])), (h5, .inl (k2, 64, .inl f102))]) hP hD [2, 3, 4, 5] [0, 1, 6, 7, 8, 9, 10, 11] rfl rfl (by decide) (by decide) hk1 hFc hP1 hD1
    generalize H1 = H at hP hS ⊢
    have hP : va_P (dC, dI) vwCl [(h0, .inr (7, [.ref h1, .ref z0, .ref z1, .ref h2, .ref z2, .ref z3, .int 0, .int 0, .int 0])), (h1, .inl (k0, 4, .inr (.inr (.inr (.inr (va_up (va_up (va_up (va_up (fun _ => none) 0 (some h4)) 1 (some h6)) 2 (some h8)) 3 (some h10))))))), (h6, .inr (6, [.ref h7, .int 0])), (h7, .inl (k3, 64, .inl (fun _ => 0))), (h8, .inr (6, [.ref h9, .int 0])), (h9, .inl (k4, 64, .inl (fun _ => 0))), (h10, .inr (6, [.ref h11, .int 0])), (h11, .inl (k5, 64, .inl (fun _ => 0))), (h2, .inr (6, [.ref h3, .int 2])), (h3, .inl (k1, 64, .inl f0)), (h4, .inr (6, [.ref h5, .int 2])), (h5, .inl (k2, 64, .inl f102))] H := hP
    have hD : va_D A [(h0, .inr (7, [.ref h1, .ref z0, .ref z1, .ref h2, .ref z2, .ref z3, .int 0, .int 0, .int 0])), (h1, .inl (k0, 4, .inr (.inr (.inr (.inr (va_up (va_up (va_up (va_up (fun _ => none) 0 (some h4)) 1 (some h6)) 2 (some h8)) 3 (some h10))))))), (h6, .inr (6, [.ref h7, .int 0])), (h7, .inl (k3, 64, .inl (fun _ => 0))), (h8, .inr (6, [.ref h9, .int 0])), (h9, .inl (k4, 64, .inl (fun _ => 0))), (h10, .inr (6, [.ref h11, .int 0])), (h11, .inl (k5, 64, .inl (fun _ => 0))), (h2, .inr (6, [.ref h3, .int 2])), (h3, .inl (k1, 64, .inl f0)), (h4, .inr (6, [.ref h5, .int 2])), (h5, .inl (k2, 64, .inl f102))] := hD
    refine lv_aload hx hb dX3_type_130 (lv_at hl 0 rfl) ?_
    refine va_get (D := (dC, dI)) (ci := 6) (v := .int 2) (C := RX2) (T := TX2) (N := 2) hx hb hts (by decide +kernel) hown hK hP 10 rfl rfl 1 (by decide) (hts (.fieldLink RX3 65 "Rewriterope$Text" "length" "I") (by decide +kernel)) (fun _ h9 => h9) rfl dX3_type_132 ?_
    refine W.widen (k := 0) (n := 0) (Nat.le_of_ble_eq_true rfl) (Nat.le_of_ble_eq_true rfl) ?_
    have hK := hK.sub (tys' := [(k0, .object "Rewriterope$Text"), (k1, .byte), (k2, .byte), (k3, .byte), (k4, .byte), (k5, .byte)]) [0, 1, 2, 3, 4, 5] rfl
    have hP := hP.sub (ws' := [(h0, .inr (7, [.ref h1, .ref z0, .ref z1, .ref h2, .ref z2, .ref z3, .int 0, .int 0, .int 0]))]) [0] rfl
    have hD := hD.sub (ws' := [(h0, .inr (7, [.ref h1, .ref z0, .ref z1, .ref h2, .ref z2, .ref z3, .int 0, .int 0, .int 0]))]) [0] (by decide) rfl
    exact W.iret (v := 2) hx hb hr (fun t ht hW => ⟨⟨2, (), rfl, rfl, by rw [ht]; exact hP, va_K.moved hW.alike hK, hD⟩, hS.F ht⟩) hS.2.2 dX3_type_135
  · refine lv_aload_n hx hb dX3_type_77 rfl (lv_at hl 0 rfl) ?_
    refine va_get (D := (dC, dI)) (ci := 7) (v := .ref h1) (C := RX3) (T := TX3) (N := 9) hx hb hts (by decide +kernel) hown hK hP 0 rfl rfl 0 (by decide) (hts (.fieldLink RX3 11 "Rewriterope" "ropes" "[LRewriterope$Text;") (by decide +kernel)) (fun _ h9 => h9) rfl dX3_type_78 ?_
    refine lv_iload_n hx hb dX3_type_81 rfl (lv_at hl 1 rfl) ?_
    refine va_aldq (D := (dC, dI)) hx hb hK hP 1 0 rfl rfl (by unfold vp_in; decide) dX3_type_82 ?_
    refine W.eq (g2 := F0 m 83 ls [.ref h6]) rfl ?_
    refine lv_astore (lv' := [(7, .ref h6), (0, .ref h0), (1, .int 1)]) hx hb dX3_type_83 hl (by decide) rfl (fun ls hl => ?_)
    refine lv_aload hx hb dX3_type_85 (lv_at hl 0 rfl) ?_
    refine va_get (D := (dC, dI)) (ci := 6) (v := .int 0) (C := RX2) (T := TX2) (N := 2) hx hb hts (by decide +kernel) hown hK hP 6 rfl rfl 1 (by decide) (hts (.fieldLink RX3 65 "Rewriterope$Text" "length" "I") (by decide +kernel)) (fun _ h9 => h9) rfl dX3_type_87 ?_
    refine lv_aload_n hx hb dX3_type_90 rfl (lv_at hl 1 rfl) ?_
    refine va_get (D := (dC, dI)) (ci := 7) (v := .ref h2) (C := RX3) (T := TX3) (N := 9) hx hb hts (by decide +kernel) hown hK hP 0 rfl rfl 3 (by decide) (hts (.fieldLink RX3 32 "Rewriterope" "work" "LRewriterope$Text;") (by decide +kernel)) (fun _ h9 => h9) rfl dX3_type_91 ?_
    refine va_get (D := (dC, dI)) (ci := 6) (v := .int 2) (C := RX2) (T := TX2) (N := 2) hx hb hts (by decide +kernel) hown hK hP 2 rfl rfl 1 (by decide) (hts (.fieldLink RX3 65 "Rewriterope$Text" "length" "I") (by decide +kernel)) (fun _ h9 => h9) rfl dX3_type_94 ?_
    refine lv_iadd hx hb dX3_type_97 ?_
    refine lv_topi (fun y101 ey101 => ?_)
    obtain rfl : y101 = 2 := ey101.trans (by decide)
    refine lv_bipush (v := 32) hx hb dX3_type_98 (by decide) ?_
    refine lv_icmp_le (tgt := 113) hx hb dX3_type_100 (by decide) (fun _ => ?_) (fun c9 => absurd (by decide) c9)
    refine lv_aload hx hb dX3_type_113 (lv_at hl 0 rfl) ?_
    refine lv_aload_n hx hb dX3_type_115 rfl (lv_at hl 1 rfl) ?_
    refine va_get (D := (dC, dI)) (ci := 7) (v := .ref h2) (C := RX3) (T := TX3) (N := 9) hx hb hts (by decide +kernel) hown hK hP 0 rfl rfl 3 (by decide) (hts (.fieldLink RX3 32 "Rewriterope" "work" "LRewriterope$Text;") (by decide +kernel)) (fun _ h9 => h9) rfl dX3_type_116 ?_
    refine lv_iconst (v := 0) hx hb dX3_type_119 (by decide) ?_
    refine lv_aload_n hx hb dX3_type_120 rfl (lv_at hl 1 rfl) ?_
    refine va_get (D := (dC, dI)) (ci := 7) (v := .ref h2) (C := RX3) (T := TX3) (N := 9) hx hb hts (by decide +kernel) hown hK hP 0 rfl rfl 3 (by decide) (hts (.fieldLink RX3 32 "Rewriterope" "work" "LRewriterope$Text;") (by decide +kernel)) (fun _ h9 => h9) rfl dX3_type_121 ?_
    refine va_get (D := (dC, dI)) (ci := 6) (v := .int 2) (C := RX2) (T := TX2) (N := 2) hx hb hts (by decide +kernel) hown hK hP 2 rfl rfl 1 (by decide) (hts (.fieldLink RX3 65 "Rewriterope$Text" "length" "I") (by decide +kernel)) (fun _ h9 => h9) rfl dX3_type_124 ?_
    have hPc := hP.sub (ws' := [(h2, .inr (6, [.ref h3, .int 2])), (h3, .inl (k1, 64, .inl f0)), (h6, .inr (6, [.ref h7, .int 0])), (h7, .inl (k3, 64, .inl (fun _ => 0)))]) [2, 3, 6, 7] rfl
    have hDc := hD.sub (ws' := [(h2, .inr (6, [.ref h3, .int 2])), (h3, .inl (k1, 64, .inl f0)), (h6, .inr (6, [.ref h7, .int 0])), (h7, .inl (k3, 64, .inl (fun _ => 0)))]) [2, 3, 6, 7] (by decide) rfl
    have hKc := hK.sub (tys' := [(k1, .byte), (k3, .byte)]) [1, 3] rfl
    have hFc := va_free (wc := [(h2, .inr (6, [.ref h3, .int 2])), (h3, .inl (k1, 64, .inl f0)), (h6, .inr (6, [.ref h7, .int 0])), (h7, .inl (k3, 64, .inl (fun _ => 0)))]) hD hS hA [2, 3, 6, 7] rfl
    refine va_callv (va_runV (As := [.ref h2, .int 0, .int 2]) (rest := []) ⟨hx, hb, hml, hown, hts⟩ (kx_X2_addPart_3 l dC dI h2 h3 h6 h7 k1 k3 H.size f0 f0_t) (cwV 3 hts gX3_type_X2_addPart rfl rfl rfl (by decide +kernel) ⟨Nat.le_of_ble_eq_true rfl, Nat.le_of_ble_eq_true rfl⟩) ⟨fun a U g mk q => by obtain ⟨q0, q1, qP, qK, qD⟩ := q; exact ⟨q0, q1, qP, va_K.moved (u := U) (U := U.calling g mk a) (Vm.Alike.refl U.vm) qK, qD⟩, va_recv hKc hPc (ci := 6) (q0 := 2) rfl rfl, fun U hU hW => ⟨rfl, by rw [hU], by rw [hU]; exact hPc, va_K.moved hW.alike hKc, hDc.weaken (fun _ _ _ _ => trivial)⟩⟩ rfl rfl hl.1 rfl (lv_room (Nat.le_of_ble_eq_true rfl)) dX3_type_127 ⟨Nat.le_of_ble_eq_true rfl, Nat.le_of_ble_eq_true rfl⟩) hS (fun q _ h => hFc q h) hFc (fun u t H1 locs ht hvm hw hB hz1 hk1 hS => ?_)
    obtain ⟨f102, f102_t, hP1, hK1, hD1⟩ := hB
    rw [ht] at hP1
    have hK1 := va_K.moved hvm.symm hK1
    obtain ⟨hP, hD⟩ := va_join (wr := [(h0, .inr (7, [.ref h1, .ref z0, .ref z1, .ref h2, .ref z2, .ref z3, .int 0, .int 0, .int 0])), (h1, .inl (k0, 4, .inr (.inr (.inr (.inr (va_up (va_up (va_up (va_up (fun _ => none) 0 (some h4)) 1 (some h6)) 2 (some h8)) 3 (some h10))))))), (h4, .inr (6, [.ref h5, .int 0])), (h5, .inl (k2, 64, .inl (fun _ => 0))), (h8, .inr (6, [.ref h9, .int 0])), (h9, .inl (k4, 64, .inl (fun _ => 0))), (h10, .inr (6, [.ref h11, .int 0])), (h11, .inl (k5, 64, .inl (fun _ => 0)))]) (w1 := [(h2, .inr (6, [.ref h3, .int 2])), (h3, .inl (k1, 64, .inl f0)), (h6, .inr (6, [.ref h7, .int 2])), (h7, .inl (k3, 64, .inl f102))]) hP hD [2, 3, 6, 7] [0, 1, 4, 5, 8, 9, 10, 11] rfl rfl (by decide) (by decide) hk1 hFc hP1 hD1
    generalize H1 = H at hP hS ⊢
    have hP : va_P (dC, dI) vwCl [(h0, .inr (7, [.ref h1, .ref z0, .ref z1, .ref h2, .ref z2, .ref z3, .int 0, .int 0, .int 0])), (h1, .inl (k0, 4, .inr (.inr (.inr (.inr (va_up (va_up (va_up (va_up (fun _ => none) 0 (some h4)) 1 (some h6)) 2 (some h8)) 3 (some h10))))))), (h4, .inr (6, [.ref h5, .int 0])), (h5, .inl (k2, 64, .inl (fun _ => 0))), (h8, .inr (6, [.ref h9, .int 0])), (h9, .inl (k4, 64, .inl (fun _ => 0))), (h10, .inr (6, [.ref h11, .int 0])), (h11, .inl (k5, 64, .inl (fun _ => 0))), (h2, .inr (6, [.ref h3, .int 2])), (h3, .inl (k1, 64, .inl f0)), (h6, .inr (6, [.ref h7, .int 2])), (h7, .inl (k3, 64, .inl f102))] H := hP
    have hD : va_D A [(h0, .inr (7, [.ref h1, .ref z0, .ref z1, .ref h2, .ref z2, .ref z3, .int 0, .int 0, .int 0])), (h1, .inl (k0, 4, .inr (.inr (.inr (.inr (va_up (va_up (va_up (va_up (fun _ => none) 0 (some h4)) 1 (some h6)) 2 (some h8)) 3 (some h10))))))), (h4, .inr (6, [.ref h5, .int 0])), (h5, .inl (k2, 64, .inl (fun _ => 0))), (h8, .inr (6, [.ref h9, .int 0])), (h9, .inl (k4, 64, .inl (fun _ => 0))), (h10, .inr (6, [.ref h11, .int 0])), (h11, .inl (k5, 64, .inl (fun _ => 0))), (h2, .inr (6, [.ref h3, .int 2])), (h3, .inl (k1, 64, .inl f0)), (h6, .inr (6, [.ref h7, .int 2])), (h7, .inl (k3, 64, .inl f102))] := hD
    refine lv_aload hx hb dX3_type_130 (lv_at hl 0 rfl) ?_
    refine va_get (D := (dC, dI)) (ci := 6) (v := .int 2) (C := RX2) (T := TX2) (N := 2) hx hb hts (by decide +kernel) hown hK hP 10 rfl rfl 1 (by decide) (hts (.fieldLink RX3 65 "Rewriterope$Text" "length" "I") (by decide +kernel)) (fun _ h9 => h9) rfl dX3_type_132 ?_
    refine W.widen (k := 0) (n := 0) (Nat.le_of_ble_eq_true rfl) (Nat.le_of_ble_eq_true rfl) ?_
    have hK := hK.sub (tys' := [(k0, .object "Rewriterope$Text"), (k1, .byte), (k2, .byte), (k3, .byte), (k4, .byte), (k5, .byte)]) [0, 1, 2, 3, 4, 5] rfl
    have hP := hP.sub (ws' := [(h0, .inr (7, [.ref h1, .ref z0, .ref z1, .ref h2, .ref z2, .ref z3, .int 0, .int 0, .int 0]))]) [0] rfl
    have hD := hD.sub (ws' := [(h0, .inr (7, [.ref h1, .ref z0, .ref z1, .ref h2, .ref z2, .ref z3, .int 0, .int 0, .int 0]))]) [0] (by decide) rfl
    exact W.iret (v := 2) hx hb hr (fun t ht hW => ⟨⟨2, (), rfl, rfl, by rw [ht]; exact hP, va_K.moved hW.alike hK, hD⟩, hS.F ht⟩) hS.2.2 dX3_type_135
  · refine lv_aload_n hx hb dX3_type_77 rfl (lv_at hl 0 rfl) ?_
    refine va_get (D := (dC, dI)) (ci := 7) (v := .ref h1) (C := RX3) (T := TX3) (N := 9) hx hb hts (by decide +kernel) hown hK hP 0 rfl rfl 0 (by decide) (hts (.fieldLink RX3 11 "Rewriterope" "ropes" "[LRewriterope$Text;") (by decide +kernel)) (fun _ h9 => h9) rfl dX3_type_78 ?_
    refine lv_iload_n hx hb dX3_type_81 rfl (lv_at hl 1 rfl) ?_
    refine va_aldq (D := (dC, dI)) hx hb hK hP 1 0 rfl rfl (by unfold vp_in; decide) dX3_type_82 ?_
    refine W.eq (g2 := F0 m 83 ls [.ref h8]) rfl ?_
    refine lv_astore (lv' := [(7, .ref h8), (0, .ref h0), (1, .int 2)]) hx hb dX3_type_83 hl (by decide) rfl (fun ls hl => ?_)
    refine lv_aload hx hb dX3_type_85 (lv_at hl 0 rfl) ?_
    refine va_get (D := (dC, dI)) (ci := 6) (v := .int 0) (C := RX2) (T := TX2) (N := 2) hx hb hts (by decide +kernel) hown hK hP 8 rfl rfl 1 (by decide) (hts (.fieldLink RX3 65 "Rewriterope$Text" "length" "I") (by decide +kernel)) (fun _ h9 => h9) rfl dX3_type_87 ?_
    refine lv_aload_n hx hb dX3_type_90 rfl (lv_at hl 1 rfl) ?_
    refine va_get (D := (dC, dI)) (ci := 7) (v := .ref h2) (C := RX3) (T := TX3) (N := 9) hx hb hts (by decide +kernel) hown hK hP 0 rfl rfl 3 (by decide) (hts (.fieldLink RX3 32 "Rewriterope" "work" "LRewriterope$Text;") (by decide +kernel)) (fun _ h9 => h9) rfl dX3_type_91 ?_
    refine va_get (D := (dC, dI)) (ci := 6) (v := .int 2) (C := RX2) (T := TX2) (N := 2) hx hb hts (by decide +kernel) hown hK hP 2 rfl rfl 1 (by decide) (hts (.fieldLink RX3 65 "Rewriterope$Text" "length" "I") (by decide +kernel)) (fun _ h9 => h9) rfl dX3_type_94 ?_
    refine lv_iadd hx hb dX3_type_97 ?_
    refine lv_topi (fun y101 ey101 => ?_)
    obtain rfl : y101 = 2 := ey101.trans (by decide)
    refine lv_bipush (v := 32) hx hb dX3_type_98 (by decide) ?_
    refine lv_icmp_le (tgt := 113) hx hb dX3_type_100 (by decide) (fun _ => ?_) (fun c9 => absurd (by decide) c9)
    refine lv_aload hx hb dX3_type_113 (lv_at hl 0 rfl) ?_
    refine lv_aload_n hx hb dX3_type_115 rfl (lv_at hl 1 rfl) ?_
    refine va_get (D := (dC, dI)) (ci := 7) (v := .ref h2) (C := RX3) (T := TX3) (N := 9) hx hb hts (by decide +kernel) hown hK hP 0 rfl rfl 3 (by decide) (hts (.fieldLink RX3 32 "Rewriterope" "work" "LRewriterope$Text;") (by decide +kernel)) (fun _ h9 => h9) rfl dX3_type_116 ?_
    refine lv_iconst (v := 0) hx hb dX3_type_119 (by decide) ?_
    refine lv_aload_n hx hb dX3_type_120 rfl (lv_at hl 1 rfl) ?_
    refine va_get (D := (dC, dI)) (ci := 7) (v := .ref h2) (C := RX3) (T := TX3) (N := 9) hx hb hts (by decide +kernel) hown hK hP 0 rfl rfl 3 (by decide) (hts (.fieldLink RX3 32 "Rewriterope" "work" "LRewriterope$Text;") (by decide +kernel)) (fun _ h9 => h9) rfl dX3_type_121 ?_
    refine va_get (D := (dC, dI)) (ci := 6) (v := .int 2) (C := RX2) (T := TX2) (N := 2) hx hb hts (by decide +kernel) hown hK hP 2 rfl rfl 1 (by decide) (hts (.fieldLink RX3 65 "Rewriterope$Text" "length" "I") (by decide +kernel)) (fun _ h9 => h9) rfl dX3_type_124 ?_
    have hPc := hP.sub (ws' := [(h2, .inr (6, [.ref h3, .int 2])), (h3, .inl (k1, 64, .inl f0)), (h8, .inr (6, [.ref h9, .int 0])), (h9, .inl (k4, 64, .inl (fun _ => 0)))]) [2, 3, 8, 9] rfl
    have hDc := hD.sub (ws' := [(h2, .inr (6, [.ref h3, .int 2])), (h3, .inl (k1, 64, .inl f0)), (h8, .inr (6, [.ref h9, .int 0])), (h9, .inl (k4, 64, .inl (fun _ => 0)))]) [2, 3, 8, 9] (by decide) rfl
    have hKc := hK.sub (tys' := [(k1, .byte), (k4, .byte)]) [1, 4] rfl
    have hFc := va_free (wc := [(h2, .inr (6, [.ref h3, .int 2])), (h3, .inl (k1, 64, .inl f0)), (h8, .inr (6, [.ref h9, .int 0])), (h9, .inl (k4, 64, .inl (fun _ => 0)))]) hD hS hA [2, 3, 8, 9] rfl
    refine va_callv (va_runV (As := [.ref h2, .int 0, .int 2]) (rest := []) ⟨hx, hb, hml, hown, hts⟩ (kx_X2_addPart_3 l dC dI h2 h3 h8 h9 k1 k4 H.size f0 f0_t) (cwV 3 hts gX3_type_X2_addPart rfl rfl rfl (by decide +kernel) ⟨Nat.le_of_ble_eq_true rfl, Nat.le_of_ble_eq_true rfl⟩) ⟨fun a U g mk q => by obtain ⟨q0, q1, qP, qK, qD⟩ := q; exact ⟨q0, q1, qP, va_K.moved (u := U) (U := U.calling g mk a) (Vm.Alike.refl U.vm) qK, qD⟩, va_recv hKc hPc (ci := 6) (q0 := 2) rfl rfl, fun U hU hW => ⟨rfl, by rw [hU], by rw [hU]; exact hPc, va_K.moved hW.alike hKc, hDc.weaken (fun _ _ _ _ => trivial)⟩⟩ rfl rfl hl.1 rfl (lv_room (Nat.le_of_ble_eq_true rfl)) dX3_type_127 ⟨Nat.le_of_ble_eq_true rfl, Nat.le_of_ble_eq_true rfl⟩) hS (fun q _ h => hFc q h) hFc (fun u t H1 locs ht hvm hw hB hz1 hk1 hS => ?_)
    obtain ⟨f102, f102_t, hP1, hK1, hD1⟩ := hB
    rw [ht] at hP1
    have hK1 := va_K.moved hvm.symm hK1
    obtain ⟨hP, hD⟩ := va_join (wr := [(h0, .inr (7, [.ref h1, .ref z0, .ref z1, .ref h2, .ref z2, .ref z3, .int 0, .int 0, .int 0])), (h1, .inl (k0, 4, .inr (.inr (.inr (.inr (va_up (va_up (va_up (va_up (fun _ => none) 0 (some h4)) 1 (some h6)) 2 (some h8)) 3 (some h10))))))), (h4, .inr (6, [.ref h5, .int 0])), (h5, .inl (k2, 64, .inl (fun _ => 0))), (h6, .inr (6, [.ref h7, .int 0])), (h7, .inl (k3, 64, .inl (fun _ => 0))), (h10, .inr (6, [.ref h11, .int 0])), (h11, .inl (k5, 64, .inl (fun _ => 0)))]) (w1 := [(h2, .inr (6, [.ref h3, .int 2])), (h3, .inl (k1, 64, .inl f0)), (h8, .inr (6, [.ref h9, .int 2])), (h9, .inl (k4, 64, .inl f102))]) hP hD [2, 3, 8, 9] [0, 1, 4, 5, 6, 7, 10, 11] rfl rfl (by decide) (by decide) hk1 hFc hP1 hD1
    generalize H1 = H at hP hS ⊢
    have hP : va_P (dC, dI) vwCl [(h0, .inr (7, [.ref h1, .ref z0, .ref z1, .ref h2, .ref z2, .ref z3, .int 0, .int 0, .int 0])), (h1, .inl (k0, 4, .inr (.inr (.inr (.inr (va_up (va_up (va_up (va_up (fun _ => none) 0 (some h4)) 1 (some h6)) 2 (some h8)) 3 (some h10))))))), (h4, .inr (6, [.ref h5, .int 0])), (h5, .inl (k2, 64, .inl (fun _ => 0))), (h6, .inr (6, [.ref h7, .int 0])), (h7, .inl (k3, 64, .inl (fun _ => 0))), (h10, .inr (6, [.ref h11, .int 0])), (h11, .inl (k5, 64, .inl (fun _ => 0))), (h2, .inr (6, [.ref h3, .int 2])), (h3, .inl (k1, 64, .inl f0)), (h8, .inr (6, [.ref h9, .int 2])), (h9, .inl (k4, 64, .inl f102))] H := hP
    have hD : va_D A [(h0, .inr (7, [.ref h1, .ref z0, .ref z1, .ref h2, .ref z2, .ref z3, .int 0, .int 0, .int 0])), (h1, .inl (k0, 4, .inr (.inr (.inr (.inr (va_up (va_up (va_up (va_up (fun _ => none) 0 (some h4)) 1 (some h6)) 2 (some h8)) 3 (some h10))))))), (h4, .inr (6, [.ref h5, .int 0])), (h5, .inl (k2, 64, .inl (fun _ => 0))), (h6, .inr (6, [.ref h7, .int 0])), (h7, .inl (k3, 64, .inl (fun _ => 0))), (h10, .inr (6, [.ref h11, .int 0])), (h11, .inl (k5, 64, .inl (fun _ => 0))), (h2, .inr (6, [.ref h3, .int 2])), (h3, .inl (k1, 64, .inl f0)), (h8, .inr (6, [.ref h9, .int 2])), (h9, .inl (k4, 64, .inl f102))] := hD
    refine lv_aload hx hb dX3_type_130 (lv_at hl 0 rfl) ?_
    refine va_get (D := (dC, dI)) (ci := 6) (v := .int 2) (C := RX2) (T := TX2) (N := 2) hx hb hts (by decide +kernel) hown hK hP 10 rfl rfl 1 (by decide) (hts (.fieldLink RX3 65 "Rewriterope$Text" "length" "I") (by decide +kernel)) (fun _ h9 => h9) rfl dX3_type_132 ?_
    refine W.widen (k := 0) (n := 0) (Nat.le_of_ble_eq_true rfl) (Nat.le_of_ble_eq_true rfl) ?_
    have hK := hK.sub (tys' := [(k0, .object "Rewriterope$Text"), (k1, .byte), (k2, .byte), (k3, .byte), (k4, .byte), (k5, .byte)]) [0, 1, 2, 3, 4, 5] rfl
    have hP := hP.sub (ws' := [(h0, .inr (7, [.ref h1, .ref z0, .ref z1, .ref h2, .ref z2, .ref z3, .int 0, .int 0, .int 0]))]) [0] rfl
    have hD := hD.sub (ws' := [(h0, .inr (7, [.ref h1, .ref z0, .ref z1, .ref h2, .ref z2, .ref z3, .int 0, .int 0, .int 0]))]) [0] (by decide) rfl
    exact W.iret (v := 2) hx hb hr (fun t ht hW => ⟨⟨2, (), rfl, rfl, by rw [ht]; exact hP, va_K.moved hW.alike hK, hD⟩, hS.F ht⟩) hS.2.2 dX3_type_135
  · refine lv_aload_n hx hb dX3_type_77 rfl (lv_at hl 0 rfl) ?_
    refine va_get (D := (dC, dI)) (ci := 7) (v := .ref h1) (C := RX3) (T := TX3) (N := 9) hx hb hts (by decide +kernel) hown hK hP 0 rfl rfl 0 (by decide) (hts (.fieldLink RX3 11 "Rewriterope" "ropes" "[LRewriterope$Text;") (by decide +kernel)) (fun _ h9 => h9) rfl dX3_type_78 ?_
    refine lv_iload_n hx hb dX3_type_81 rfl (lv_at hl 1 rfl) ?_
    refine va_aldq (D := (dC, dI)) hx hb hK hP 1 0 rfl rfl (by unfold vp_in; decide) dX3_type_82 ?_
    refine W.eq (g2 := F0 m 83 ls [.ref h10]) rfl ?_
    refine lv_astore (lv' := [(7, .ref h10), (0, .ref h0), (1, .int 3)]) hx hb dX3_type_83 hl (by decide) rfl (fun ls hl => ?_)
    refine lv_aload hx hb dX3_type_85 (lv_at hl 0 rfl) ?_
    refine va_get (D := (dC, dI)) (ci := 6) (v := .int 0) (C := RX2) (T := TX2) (N := 2) hx hb hts (by decide +kernel) hown hK hP 10 rfl rfl 1 (by decide) (hts (.fieldLink RX3 65 "Rewriterope$Text" "length" "I") (by decide +kernel)) (fun _ h9 => h9) rfl dX3_type_87 ?_
    refine lv_aload_n hx hb dX3_type_90 rfl (lv_at hl 1 rfl) ?_
    refine va_get (D := (dC, dI)) (ci := 7) (v := .ref h2) (C := RX3) (T := TX3) (N := 9) hx hb hts (by decide +kernel) hown hK hP 0 rfl rfl 3 (by decide) (hts (.fieldLink RX3 32 "Rewriterope" "work" "LRewriterope$Text;") (by decide +kernel)) (fun _ h9 => h9) rfl dX3_type_91 ?_
    refine va_get (D := (dC, dI)) (ci := 6) (v := .int 2) (C := RX2) (T := TX2) (N := 2) hx hb hts (by decide +kernel) hown hK hP 2 rfl rfl 1 (by decide) (hts (.fieldLink RX3 65 "Rewriterope$Text" "length" "I") (by decide +kernel)) (fun _ h9 => h9) rfl dX3_type_94 ?_
    refine lv_iadd hx hb dX3_type_97 ?_
    refine lv_topi (fun y101 ey101 => ?_)
    obtain rfl : y101 = 2 := ey101.trans (by decide)
    refine lv_bipush (v := 32) hx hb dX3_type_98 (by decide) ?_
    refine lv_icmp_le (tgt := 113) hx hb dX3_type_100 (by decide) (fun _ => ?_) (fun c9 => absurd (by decide) c9)
    refine lv_aload hx hb dX3_type_113 (lv_at hl 0 rfl) ?_
    refine lv_aload_n hx hb dX3_type_115 rfl (lv_at hl 1 rfl) ?_
    refine va_get (D := (dC, dI)) (ci := 7) (v := .ref h2) (C := RX3) (T := TX3) (N := 9) hx hb hts (by decide +kernel) hown hK hP 0 rfl rfl 3 (by decide) (hts (.fieldLink RX3 32 "Rewriterope" "work" "LRewriterope$Text;") (by decide +kernel)) (fun _ h9 => h9) rfl dX3_type_116 ?_
    refine lv_iconst (v := 0) hx hb dX3_type_119 (by decide) ?_
    refine lv_aload_n hx hb dX3_type_120 rfl (lv_at hl 1 rfl) ?_
    refine va_get (D := (dC, dI)) (ci := 7) (v := .ref h2) (C := RX3) (T := TX3) (N := 9) hx hb hts (by decide +kernel) hown hK hP 0 rfl rfl 3 (by decide) (hts (.fieldLink RX3 32 "Rewriterope" "work" "LRewriterope$Text;") (by decide +kernel)) (fun _ h9 => h9) rfl dX3_type_121 ?_
    refine va_get (D := (dC, dI)) (ci := 6) (v := .int 2) (C := RX2) (T := TX2) (N := 2) hx hb hts (by decide +kernel) hown hK hP 2 rfl rfl 1 (by decide) (hts (.fieldLink RX3 65 "Rewriterope$Text" "length" "I") (by decide +kernel)) (fun _ h9 => h9) rfl dX3_type_124 ?_
    have hPc := hP.sub (ws' := [(h2, .inr (6, [.ref h3, .int 2])), (h3, .inl (k1, 64, .inl f0)), (h10, .inr (6, [.ref h11, .int 0])), (h11, .inl (k5, 64, .inl (fun _ => 0)))]) [2, 3, 10, 11] rfl
    have hDc := hD.sub (ws' := [(h2, .inr (6, [.ref h3, .int 2])), (h3, .inl (k1, 64, .inl f0)), (h10, .inr (6, [.ref h11, .int 0])), (h11, .inl (k5, 64, .inl (fun _ => 0)))]) [2, 3, 10, 11] (by decide) rfl
    have hKc := hK.sub (tys' := [(k1, .byte), (k5, .byte)]) [1, 5] rfl
    have hFc := va_free (wc := [(h2, .inr (6, [.ref h3, .int 2])), (h3, .inl (k1, 64, .inl f0)), (h10, .inr (6, [.ref h11, .int 0])), (h11, .inl (k5, 64, .inl (fun _ => 0)))]) hD hS hA [2, 3, 10, 11] rfl
    refine va_callv (va_runV (As := [.ref h2, .int 0, .int 2]) (rest := []) ⟨hx, hb, hml, hown, hts⟩ (kx_X2_addPart_3 l dC dI h2 h3 h10 h11 k1 k5 H.size f0 f0_t) (cwV 3 hts gX3_type_X2_addPart rfl rfl rfl (by decide +kernel) ⟨Nat.le_of_ble_eq_true rfl, Nat.le_of_ble_eq_true rfl⟩) ⟨fun a U g mk q => by obtain ⟨q0, q1, qP, qK, qD⟩ := q; exact ⟨q0, q1, qP, va_K.moved (u := U) (U := U.calling g mk a) (Vm.Alike.refl U.vm) qK, qD⟩, va_recv hKc hPc (ci := 6) (q0 := 2) rfl rfl, fun U hU hW => ⟨rfl, by rw [hU], by rw [hU]; exact hPc, va_K.moved hW.alike hKc, hDc.weaken (fun _ _ _ _ => trivial)⟩⟩ rfl rfl hl.1 rfl (lv_room (Nat.le_of_ble_eq_true rfl)) dX3_type_127 ⟨Nat.le_of_ble_eq_true rfl, Nat.le_of_ble_eq_true rfl⟩) hS (fun q _ h => hFc q h) hFc (fun u t H1 locs ht hvm hw hB hz1 hk1 hS => ?_)
    obtain ⟨f102, f102_t, hP1, hK1, hD1⟩ := hB
    rw [ht] at hP1
    have hK1 := va_K.moved hvm.symm hK1
    obtain ⟨hP, hD⟩ := va_join (wr := [(h0, .inr (7, [.ref h1, .ref z0, .ref z1, .ref h2, .ref z2, .ref z3, .int 0, .int 0, .int 0])), (h1, .inl (k0, 4, .inr (.inr (.inr (.inr (va_up (va_up (va_up (va_up (fun _ => none) 0 (some h4)) 1 (some h6)) 2 (some h8)) 3 (some h10))))))), (h4, .inr (6, [.ref h5, .int 0])), (h5, .inl (k2, 64, .inl (fun _ => 0))), (h6, .inr (6, [.ref h7, .int 0])), (h7, .inl (k3, 64, .inl (fun _ => 0))), (h8, .inr (6, [.ref h9, .int 0])), (h9, .inl (k4, 64, .inl (fun _ => 0)))]) (w1 := [(h2, .inr (6, [.ref h3, .int 2])), (h3, .inl (k1, 64, .inl f0)), (h10, .inr (6, [.ref h11, .int 2])), (h11, .inl (k5, 64, .inl f102))]) hP hD [2, 3, 10, 11] [0, 1, 4, 5, 6, 7, 8, 9] rfl rfl (by decide) (by decide) hk1 hFc hP1 hD1
    generalize H1 = H at hP hS ⊢
    have hP : va_P (dC, dI) vwCl [(h0, .inr (7, [.ref h1, .ref z0, .ref z1, .ref h2, .ref z2, .ref z3, .int 0, .int 0, .int 0])), (h1, .inl (k0, 4, .inr (.inr (.inr (.inr (va_up (va_up (va_up (va_up (fun _ => none) 0 (some h4)) 1 (some h6)) 2 (some h8)) 3 (some h10))))))), (h4, .inr (6, [.ref h5, .int 0])), (h5, .inl (k2, 64, .inl (fun _ => 0))), (h6, .inr (6, [.ref h7, .int 0])), (h7, .inl (k3, 64, .inl (fun _ => 0))), (h8, .inr (6, [.ref h9, .int 0])), (h9, .inl (k4, 64, .inl (fun _ => 0))), (h2, .inr (6, [.ref h3, .int 2])), (h3, .inl (k1, 64, .inl f0)), (h10, .inr (6, [.ref h11, .int 2])), (h11, .inl (k5, 64, .inl f102))] H := hP
    have hD : va_D A [(h0, .inr (7, [.ref h1, .ref z0, .ref z1, .ref h2, .ref z2, .ref z3, .int 0, .int 0, .int 0])), (h1, .inl (k0, 4, .inr (.inr (.inr (.inr (va_up (va_up (va_up (va_up (fun _ => none) 0 (some h4)) 1 (some h6)) 2 (some h8)) 3 (some h10))))))), (h4, .inr (6, [.ref h5, .int 0])), (h5, .inl (k2, 64, .inl (fun _ => 0))), (h6, .inr (6, [.ref h7, .int 0])), (h7, .inl (k3, 64, .inl (fun _ => 0))), (h8, .inr (6, [.ref h9, .int 0])), (h9, .inl (k4, 64, .inl (fun _ => 0))), (h2, .inr (6, [.ref h3, .int 2])), (h3, .inl (k1, 64, .inl f0)), (h10, .inr (6, [.ref h11, .int 2])), (h11, .inl (k5, 64, .inl f102))] := hD
    refine lv_aload hx hb dX3_type_130 (lv_at hl 0 rfl) ?_
    refine va_get (D := (dC, dI)) (ci := 6) (v := .int 2) (C := RX2) (T := TX2) (N := 2) hx hb hts (by decide +kernel) hown hK hP 10 rfl rfl 1 (by decide) (hts (.fieldLink RX3 65 "Rewriterope$Text" "length" "I") (by decide +kernel)) (fun _ h9 => h9) rfl dX3_type_132 ?_
    refine W.widen (k := 0) (n := 0) (Nat.le_of_ble_eq_true rfl) (Nat.le_of_ble_eq_true rfl) ?_
    have hK := hK.sub (tys' := [(k0, .object "Rewriterope$Text"), (k1, .byte), (k2, .byte), (k3, .byte), (k4, .byte), (k5, .byte)]) [0, 1, 2, 3, 4, 5] rfl
    have hP := hP.sub (ws' := [(h0, .inr (7, [.ref h1, .ref z0, .ref z1, .ref h2, .ref z2, .ref z3, .int 0, .int 0, .int 0]))]) [0] rfl
    have hD := hD.sub (ws' := [(h0, .inr (7, [.ref h1, .ref z0, .ref z1, .ref h2, .ref z2, .ref z3, .int 0, .int 0, .int 0]))]) [0] (by decide) rfl
    exact W.iret (v := 2) hx hb hr (fun t ht hW => ⟨⟨2, (), rfl, rfl, by rw [ht]; exact hP, va_K.moved hW.alike hK, hD⟩, hS.F ht⟩) hS.2.2 dX3_type_135
