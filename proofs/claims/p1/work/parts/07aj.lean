set_option maxHeartbeats 8000000 in
set_option maxRecDepth 100000 in
theorem kx_X5_type_h220 {l : Launch} {dC : Nat → ClassId} {dI : Nat → Nat → Nat} {ge5 gea gv5 gva gde gic gi0 : Nat} {h0 h1 h2 h3 h4 z0 z1 : Nat} {k0 k1 k2 : ClassId} {rp l1 l2 l3 l4 l5 R v : Int32} {p : Program} {e : Env} {s : State} {m : MethodId} {args : Array Value} {below : List Frame} {meth : Method} {c : Code} {A : Nat → Prop} {H : Heap} {locs : List Loc} {ls : Array Slot} {f0 : Nat → Int32} (f0_t : sb_Fit f0) (hR : kz_ty rp 2 0 [l3, l4, l5] = (R, v)) (hx : p.tables.exec = Jvm.exec) (hb : c.code = cX5_type) (hr : meth.sig.returnType = some .int) (hml : c.maxLocals = 14) (hown : s.vm.findClass RX5 = some m.cls) (hts : ∀ w ∈ wsX5_type, w.before args s = true) (hlocks : meth.locks = false) (hA : ∀ q : Nat, s.heap.size ≤ q → A q) (hG : gv ge5 gea gv5 gva gde gic gi0 A s s.heap) (hS : va_S A s.heap H locs) (hK : va_K (dC, dI) vwCl [(k0, .object "java/lang/String"), (k1, .int), (k2, .byte)] s) (hP : va_P (dC, dI) vwCl [(h0, .inr (9, [.int 0, .ref h1, .ref z0, .ref z1, .int 0, .int 0, .int 0])), (h1, .inl (k0, 4, .inr (.inr (.inr (.inr (va_up (va_up (va_up (va_up (fun _ => none) 0 (some ge5)) 1 (some ge5)) 2 (some ge5)) 3 (some ge5))))))), (h2, .inl (k1, 5, .inl (upd (upd (upd (upd (upd (fun _ => 0) 0 l1) 1 l2) 2 l3) 3 l4) 4 l5))), (h3, .inr (0, [.ref h4, .int 0, .int 0, .int 0])), (h4, .inl (k2, 2, .inl f0))] H) (hD : va_D A [(h0, .inr (9, [.int 0, .ref h1, .ref z0, .ref z1, .int 0, .int 0, .int 0])), (h1, .inl (k0, 4, .inr (.inr (.inr (.inr (va_up (va_up (va_up (va_up (fun _ => none) 0 (some ge5)) 1 (some ge5)) 2 (some ge5)) 3 (some ge5))))))), (h2, .inl (k1, 5, .inl (upd (upd (upd (upd (upd (fun _ => 0) 0 l1) 1 l2) 2 l3) 3 l4) 4 l5))), (h3, .inr (0, [.ref h4, .int 0, .int 0, .int 0])), (h4, .inl (k2, 2, .inl f0))]) (hl : lv_has ls 14 [(0, .ref h0), (1, .int rp), (7, .ref h2), (8, .int 0), (9, .ref h3), (10, .ref h2), (11, .int 5), (12, .int 2)]) : W p l e (headSpec wsX5_type ({ frames := 6, cells := 25, slots := 169, locals := 171 })).room s m args below meth c H locs 9 56 (MQ below (va_Qi (fun (r : Int32) (_ : Unit) => r = R) (fun (_ : Unit) (t : State) => va_P (dC, dI) vwCl [(h0, .inr (9, [.int v, .ref h1, .ref z0, .ref z1, .int 0, .int 0, .int 0]))] t.heap ∧ va_K (dC, dI) vwCl [(k0, .object "java/lang/String")] t ∧ va_D A [(h0, .inr (9, [.int v, .ref h1, .ref z0, .ref z1, .int 0, .int 0, .int 0]))]) A) args s 25 169 A) (F0 m 47 ls []) := by
  obtain ⟨⟨g_AO_Text, g_AO_String, g_AO_Object, g_nm_RX1_20, g_nm_RX0_17, g_nm_RX3_31, g_nm_RX2_44, g_nm_RL_121, g_nf_RL_13, g_nf_RL_47, g_ca_IO, g_ca_IA, g_ca_IS, g_ca_IntObj, g_ca_StrObj, g_de_RT, g_de_EX, g_de_TH, g_nc_IA_IO, g_nc_IS_IO, g_nc_IS_IA⟩, ⟨g_s3, g_s5, g_sa, g_x278, g_x280, g_x282, g_x284, g_x286, g_x180, g_x238, g_x250⟩, ⟨g_o5, g_c5, g_v5, g_t5, g_oa, g_ca, g_va, g_ta, g_zc, g_zd, g_td, g_zf, g_zU, g_zN, g_zh, g_zk, g_tk, g_oi, g_vi⟩⟩ := id hG
  have a9 := Int32.le_toInt l3
  have b9 := Int32.toInt_lt l3
  rcases kz_cls l3 with r9 | rfl | rfl | rfl | rfl | rfl | r9
  · have l3_l : ((-2147483648) : Int) ≤ l3.toInt := by omega
    have l3_u : l3.toInt ≤ ((-2) : Int) := by omega
    have hR : kz_ty rp 2 1 [l4, l5] = (R, v) := (kz_ty_b (by omega)).symm.trans hR
    refine lv_iload hx hb dX5_type_47 (lv_at hl 7 rfl) ?_
    refine lv_iload hx hb dX5_type_49 (lv_at hl 6 rfl) ?_
    refine lv_icmp_ge (tgt := 124) hx hb dX5_type_51 (by decide) (fun c9 => absurd c9 (by decide)) (fun _ => ?_)
    refine lv_aload hx hb dX5_type_54 (lv_at hl 5 rfl) ?_
    refine lv_iload hx hb dX5_type_56 (lv_at hl 7 rfl) ?_
    refine va_iald (D := (dC, dI)) hx hb hK hP 2 1 rfl rfl (by unfold vp_in; decide) dX5_type_58 ?_
    refine W.eq (g2 := F0 m 59 ls [.int l3]) rfl ?_
    refine lv_istore (lv' := [(13, .int l3), (0, .ref h0), (1, .int rp), (7, .ref h2), (8, .int 0), (9, .ref h3), (10, .ref h2), (11, .int 5), (12, .int 2)]) hx hb dX5_type_59 hl (by decide) rfl (fun ls hl => ?_)
    refine lv_iload hx hb dX5_type_61 (lv_at hl 4 rfl) ?_
    refine lv_iload hx hb dX5_type_63 (lv_at hl 0 rfl) ?_
    refine lv_iconst (v := (-1)) hx hb dX5_type_65 (by decide) ?_
    refine lv_iconst (v := 3) hx hb dX5_type_66 (by decide) ?_
    have hPc := hP.sub (ws' := []) [] rfl
    have hDc := hD.sub (ws' := []) [] (by decide) rfl
    have hKc := hK.sub (tys' := []) [] rfl
    have hFc := va_free (wc := []) hD hS hA [] rfl
    refine va_calli (va_runS (As := [.int l3, .int (-1), .int 3]) (rest := [.int 0]) ⟨hx, hb, hml, hown, hts⟩ (kx_X5_isIn_3 l dC dI H.size l3 l3_l l3_u) (cwS 3 hts gX5_type_X5_isIn rfl rfl rfl (by decide +kernel) ⟨Nat.le_of_ble_eq_true rfl, Nat.le_of_ble_eq_true rfl⟩) ⟨fun a U g mk q => by obtain ⟨q0, q1, qP, qK, qD⟩ := q; exact ⟨q0, q1, qP, va_K.moved (u := U) (U := U.calling g mk a) (Vm.Alike.refl U.vm) qK, qD⟩, fun U hU hW => ⟨rfl, by rw [hU], by rw [hU]; exact hPc, va_K.moved hW.alike hKc, hDc.weaken (fun _ _ _ _ => trivial)⟩⟩ rfl rfl hl.1 rfl (lv_room (Nat.le_of_ble_eq_true rfl)) dX5_type_67 ⟨Nat.le_of_ble_eq_true rfl, Nat.le_of_ble_eq_true rfl⟩) hS (fun q _ h => hFc q h) hFc (fun r9 u t H1 locs ht hvm hw hB hz1 hk1 hS => ?_)
    obtain rfl := hw
    obtain ⟨hP1, hK1, hD1⟩ := hB
    rw [ht] at hP1
    have hK1 := va_K.moved hvm.symm hK1
    obtain ⟨hP, hD⟩ := va_join (wr := [(h0, .inr (9, [.int 0, .ref h1, .ref z0, .ref z1, .int 0, .int 0, .int 0])), (h1, .inl (k0, 4, .inr (.inr (.inr (.inr (va_up (va_up (va_up (va_up (fun _ => none) 0 (some ge5)) 1 (some ge5)) 2 (some ge5)) 3 (some ge5))))))), (h2, .inl (k1, 5, .inl (upd (upd (upd (upd (upd (fun _ => 0) 0 l1) 1 l2) 2 l3) 3 l4) 4 l5))), (h3, .inr (0, [.ref h4, .int 0, .int 0, .int 0])), (h4, .inl (k2, 2, .inl f0))]) (w1 := []) hP hD [] [0, 1, 2, 3, 4] rfl rfl (by decide) (by decide) hk1 hFc hP1 hD1
    generalize H1 = H at hP hS ⊢
    have hP : va_P (dC, dI) vwCl [(h0, .inr (9, [.int 0, .ref h1, .ref z0, .ref z1, .int 0, .int 0, .int 0])), (h1, .inl (k0, 4, .inr (.inr (.inr (.inr (va_up (va_up (va_up (va_up (fun _ => none) 0 (some ge5)) 1 (some ge5)) 2 (some ge5)) 3 (some ge5))))))), (h2, .inl (k1, 5, .inl (upd (upd (upd (upd (upd (fun _ => 0) 0 l1) 1 l2) 2 l3) 3 l4) 4 l5))), (h3, .inr (0, [.ref h4, .int 0, .int 0, .int 0])), (h4, .inl (k2, 2, .inl f0))] H := hP
    have hD : va_D A [(h0, .inr (9, [.int 0, .ref h1, .ref z0, .ref z1, .int 0, .int 0, .int 0])), (h1, .inl (k0, 4, .inr (.inr (.inr (.inr (va_up (va_up (va_up (va_up (fun _ => none) 0 (some ge5)) 1 (some ge5)) 2 (some ge5)) 3 (some ge5))))))), (h2, .inl (k1, 5, .inl (upd (upd (upd (upd (upd (fun _ => 0) 0 l1) 1 l2) 2 l3) 3 l4) 4 l5))), (h3, .inr (0, [.ref h4, .int 0, .int 0, .int 0])), (h4, .inl (k2, 2, .inl f0))] := hD
    refine lv_if_ne (tgt := 77) hx hb dX5_type_70 (by decide) (fun c9 => absurd (by decide) c9) (fun _ => ?_)
    refine lv_iconst (v := 1) hx hb dX5_type_73 (by decide) ?_
    refine lv_goto (tgt := 78) hx hb dX5_type_74 (by decide) ?_
    refine lv_ior hx hb dX5_type_78 ?_
    refine lv_topi (fun y101 ey101 => ?_)
    obtain rfl : y101 = 1 := ey101.trans (by decide)
    refine lv_istore (lv' := [(8, .int 1), (13, .int l3), (0, .ref h0), (1, .int rp), (7, .ref h2), (9, .ref h3), (10, .ref h2), (11, .int 5), (12, .int 2)]) hx hb dX5_type_79 hl (by decide) rfl (fun ls hl => ?_)
    refine lv_iload hx hb dX5_type_81 (lv_at hl 1 rfl) ?_
    refine lv_iconst (v := 0) hx hb dX5_type_83 (by decide) ?_
    refine lv_iconst (v := 3) hx hb dX5_type_84 (by decide) ?_
    have hPc := hP.sub (ws' := []) [] rfl
    have hDc := hD.sub (ws' := []) [] (by decide) rfl
    have hKc := hK.sub (tys' := []) [] rfl
    have hFc := va_free (wc := []) hD hS hA [] rfl
    refine va_calli (va_runS (As := [.int l3, .int 0, .int 3]) (rest := []) ⟨hx, hb, hml, hown, hts⟩ (kx_X5_isIn_4 l dC dI H.size l3 l3_l l3_u) (cwS 3 hts gX5_type_X5_isIn rfl rfl rfl (by decide +kernel) ⟨Nat.le_of_ble_eq_true rfl, Nat.le_of_ble_eq_true rfl⟩) ⟨fun a U g mk q => by obtain ⟨q0, q1, qP, qK, qD⟩ := q; exact ⟨q0, q1, qP, va_K.moved (u := U) (U := U.calling g mk a) (Vm.Alike.refl U.vm) qK, qD⟩, fun U hU hW => ⟨rfl, by rw [hU], by rw [hU]; exact hPc, va_K.moved hW.alike hKc, hDc.weaken (fun _ _ _ _ => trivial)⟩⟩ rfl rfl hl.1 rfl (lv_room (Nat.le_of_ble_eq_true rfl)) dX5_type_85 ⟨Nat.le_of_ble_eq_true rfl, Nat.le_of_ble_eq_true rfl⟩) hS (fun q _ h => hFc q h) hFc (fun r9 u t H1 locs ht hvm hw hB hz1 hk1 hS => ?_)
    obtain rfl := hw
    obtain ⟨hP1, hK1, hD1⟩ := hB
    rw [ht] at hP1
    have hK1 := va_K.moved hvm.symm hK1
    obtain ⟨hP, hD⟩ := va_join (wr := [(h0, .inr (9, [.int 0, .ref h1, .ref z0, .ref z1, .int 0, .int 0, .int 0])), (h1, .inl (k0, 4, .inr (.inr (.inr (.inr (va_up (va_up (va_up (va_up (fun _ => none) 0 (some ge5)) 1 (some ge5)) 2 (some ge5)) 3 (some ge5))))))), (h2, .inl (k1, 5, .inl (upd (upd (upd (upd (upd (fun _ => 0) 0 l1) 1 l2) 2 l3) 3 l4) 4 l5))), (h3, .inr (0, [.ref h4, .int 0, .int 0, .int 0])), (h4, .inl (k2, 2, .inl f0))]) (w1 := []) hP hD [] [0, 1, 2, 3, 4] rfl rfl (by decide) (by decide) hk1 hFc hP1 hD1
    generalize H1 = H at hP hS ⊢
    have hP : va_P (dC, dI) vwCl [(h0, .inr (9, [.int 0, .ref h1, .ref z0, .ref z1, .int 0, .int 0, .int 0])), (h1, .inl (k0, 4, .inr (.inr (.inr (.inr (va_up (va_up (va_up (va_up (fun _ => none) 0 (some ge5)) 1 (some ge5)) 2 (some ge5)) 3 (some ge5))))))), (h2, .inl (k1, 5, .inl (upd (upd (upd (upd (upd (fun _ => 0) 0 l1) 1 l2) 2 l3) 3 l4) 4 l5))), (h3, .inr (0, [.ref h4, .int 0, .int 0, .int 0])), (h4, .inl (k2, 2, .inl f0))] H := hP
    have hD : va_D A [(h0, .inr (9, [.int 0, .ref h1, .ref z0, .ref z1, .int 0, .int 0, .int 0])), (h1, .inl (k0, 4, .inr (.inr (.inr (.inr (va_up (va_up (va_up (va_up (fun _ => none) 0 (some ge5)) 1 (some ge5)) 2 (some ge5)) 3 (some ge5))))))), (h2, .inl (k1, 5, .inl (upd (upd (upd (upd (upd (fun _ => 0) 0 l1) 1 l2) 2 l3) 3 l4) 4 l5))), (h3, .inr (0, [.ref h4, .int 0, .int 0, .int 0])), (h4, .inl (k2, 2, .inl f0))] := hD
    refine lv_if_eq (tgt := 118) hx hb dX5_type_88 (by decide) (fun _ => ?_) (fun c9 => absurd (by decide) c9)
    refine lv_iinc (v := 3) (lv' := [(12, .int 3), (8, .int 1), (13, .int l3), (0, .ref h0), (1, .int rp), (7, .ref h2), (9, .ref h3), (10, .ref h2), (11, .int 5)]) hx hb dX5_type_118 hl (k := 8) rfl (by decide) (by decide) rfl (fun ls hl => ?_)
    refine lv_goto (tgt := 47) hx hb dX5_type_121 (by decide) ?_
    have hP := hP.sub (ws' := [(h0, .inr (9, [.int 0, .ref h1, .ref z0, .ref z1, .int 0, .int 0, .int 0])), (h1, .inl (k0, 4, .inr (.inr (.inr (.inr (va_up (va_up (va_up (va_up (fun _ => none) 0 (some ge5)) 1 (some ge5)) 2 (some ge5)) 3 (some ge5))))))), (h2, .inl (k1, 5, .inl (upd (upd (upd (upd (upd (fun _ => 0) 0 l1) 1 l2) 2 l3) 3 l4) 4 l5))), (h3, .inr (0, [.ref h4, .int 0, .int 0, .int 0])), (h4, .inl (k2, 2, .inl f0))]) [0, 1, 2, 3, 4] rfl
    have hD := hD.sub (ws' := [(h0, .inr (9, [.int 0, .ref h1, .ref z0, .ref z1, .int 0, .int 0, .int 0])), (h1, .inl (k0, 4, .inr (.inr (.inr (.inr (va_up (va_up (va_up (va_up (fun _ => none) 0 (some ge5)) 1 (some ge5)) 2 (some ge5)) 3 (some ge5))))))), (h2, .inl (k1, 5, .inl (upd (upd (upd (upd (upd (fun _ => 0) 0 l1) 1 l2) 2 l3) 3 l4) 4 l5))), (h3, .inr (0, [.ref h4, .int 0, .int 0, .int 0])), (h4, .inl (k2, 2, .inl f0))]) [0, 1, 2, 3, 4] (by decide) rfl
    have hK := hK.sub (tys' := [(k0, .object "java/lang/String"), (k1, .int), (k2, .byte)]) [0, 1, 2] rfl
    have hl := lv_sub hl [3, 4, 5, 1, 6, 7, 8, 0] (show lv_pick [(12, .int 3), (8, .int 1), (13, .int l3), (0, .ref h0), (1, .int rp), (7, .ref h2), (9, .ref h3), (10, .ref h2), (11, .int 5)] [3, 4, 5, 1, 6, 7, 8, 0] = [(0, .ref h0), (1, .int rp), (7, .ref h2), (8, .int 1), (9, .ref h3), (10, .ref h2), (11, .int 5), (12, .int 3)] from rfl)
    exact kx_X5_type_h321 f0_t hR hx hb hr hml hown hts hlocks hA hG hS hK hP hD hl
  · have hR : kz_ty rp 2 0 [l4, l5] = (R, v) := kz_ty_n.symm.trans hR
    refine lv_iload hx hb dX5_type_47 (lv_at hl 7 rfl) ?_
    refine lv_iload hx hb dX5_type_49 (lv_at hl 6 rfl) ?_
    refine lv_icmp_ge (tgt := 124) hx hb dX5_type_51 (by decide) (fun c9 => absurd c9 (by decide)) (fun _ => ?_)
    refine lv_aload hx hb dX5_type_54 (lv_at hl 5 rfl) ?_
    refine lv_iload hx hb dX5_type_56 (lv_at hl 7 rfl) ?_
    refine va_iald (D := (dC, dI)) hx hb hK hP 2 1 rfl rfl (by unfold vp_in; decide) dX5_type_58 ?_
    refine W.eq (g2 := F0 m 59 ls [.int (-1)]) rfl ?_
    refine lv_istore (lv' := [(13, .int (-1)), (0, .ref h0), (1, .int rp), (7, .ref h2), (8, .int 0), (9, .ref h3), (10, .ref h2), (11, .int 5), (12, .int 2)]) hx hb dX5_type_59 hl (by decide) rfl (fun ls hl => ?_)
    refine lv_iload hx hb dX5_type_61 (lv_at hl 4 rfl) ?_
    refine lv_iload hx hb dX5_type_63 (lv_at hl 0 rfl) ?_
    refine lv_iconst (v := (-1)) hx hb dX5_type_65 (by decide) ?_
    refine lv_iconst (v := 3) hx hb dX5_type_66 (by decide) ?_
    have hPc := hP.sub (ws' := []) [] rfl
    have hDc := hD.sub (ws' := []) [] (by decide) rfl
    have hKc := hK.sub (tys' := []) [] rfl
    have hFc := va_free (wc := []) hD hS hA [] rfl
    refine va_calli (va_runS (As := [.int (-1), .int (-1), .int 3]) (rest := [.int 0]) ⟨hx, hb, hml, hown, hts⟩ (kx_X5_isIn_5 l dC dI H.size) (cwS 3 hts gX5_type_X5_isIn rfl rfl rfl (by decide +kernel) ⟨Nat.le_of_ble_eq_true rfl, Nat.le_of_ble_eq_true rfl⟩) ⟨fun a U g mk q => by obtain ⟨q0, q1, qP, qK, qD⟩ := q; exact ⟨q0, q1, qP, va_K.moved (u := U) (U := U.calling g mk a) (Vm.Alike.refl U.vm) qK, qD⟩, fun U hU hW => ⟨rfl, by rw [hU], by rw [hU]; exact hPc, va_K.moved hW.alike hKc, hDc.weaken (fun _ _ _ _ => trivial)⟩⟩ rfl rfl hl.1 rfl (lv_room (Nat.le_of_ble_eq_true rfl)) dX5_type_67 ⟨Nat.le_of_ble_eq_true rfl, Nat.le_of_ble_eq_true rfl⟩) hS (fun q _ h => hFc q h) hFc (fun r9 u t H1 locs ht hvm hw hB hz1 hk1 hS => ?_)
    obtain rfl := hw
    obtain ⟨hP1, hK1, hD1⟩ := hB
    rw [ht] at hP1
    have hK1 := va_K.moved hvm.symm hK1
    obtain ⟨hP, hD⟩ := va_join (wr := [(h0, .inr (9, [.int 0, .ref h1, .ref z0, .ref z1, .int 0, .int 0, .int 0])), (h1, .inl (k0, 4, .inr (.inr (.inr (.inr (va_up (va_up (va_up (va_up (fun _ => none) 0 (some ge5)) 1 (some ge5)) 2 (some ge5)) 3 (some ge5))))))), (h2, .inl (k1, 5, .inl (upd (upd (upd (upd (upd (fun _ => 0) 0 l1) 1 l2) 2 (-1)) 3 l4) 4 l5))), (h3, .inr (0, [.ref h4, .int 0, .int 0, .int 0])), (h4, .inl (k2, 2, .inl f0))]) (w1 := []) hP hD [] [0, 1, 2, 3, 4] rfl rfl (by decide) (by decide) hk1 hFc hP1 hD1
    generalize H1 = H at hP hS ⊢
    have hP : va_P (dC, dI) vwCl [(h0, .inr (9, [.int 0, .ref h1, .ref z0, .ref z1, .int 0, .int 0, .int 0])), (h1, .inl (k0, 4, .inr (.inr (.inr (.inr (va_up (va_up (va_up (va_up (fun _ => none) 0 (some ge5)) 1 (some ge5)) 2 (some ge5)) 3 (some ge5))))))), (h2, .inl (k1, 5, .inl (upd (upd (upd (upd (upd (fun _ => 0) 0 l1) 1 l2) 2 (-1)) 3 l4) 4 l5))), (h3, .inr (0, [.ref h4, .int 0, .int 0, .int 0])), (h4, .inl (k2, 2, .inl f0))] H := hP
    have hD : va_D A [(h0, .inr (9, [.int 0, .ref h1, .ref z0, .ref z1, .int 0, .int 0, .int 0])), (h1, .inl (k0, 4, .inr (.inr (.inr (.inr (va_up (va_up (va_up (va_up (fun _ => none) 0 (some ge5)) 1 (some ge5)) 2 (some ge5)) 3 (some ge5))))))), (h2, .inl (k1, 5, .inl (upd (upd (upd (upd (upd (fun _ => 0) 0 l1) 1 l2) 2 (-1)) 3 l4) 4 l5))), (h3, .inr (0, [.ref h4, .int 0, .int 0, .int 0])), (h4, .inl (k2, 2, .inl f0))] := hD
    refine lv_if_ne (tgt := 77) hx hb dX5_type_70 (by decide) (fun _ => ?_) (fun c9 => absurd c9 (by decide))
    refine lv_iconst (v := 0) hx hb dX5_type_77 (by decide) ?_
    refine lv_ior hx hb dX5_type_78 ?_
    refine lv_topi (fun y101 ey101 => ?_)
    obtain rfl : y101 = 0 := ey101.trans (by decide)
    refine lv_istore (lv' := [(8, .int 0), (13, .int (-1)), (0, .ref h0), (1, .int rp), (7, .ref h2), (9, .ref h3), (10, .ref h2), (11, .int 5), (12, .int 2)]) hx hb dX5_type_79 hl (by decide) rfl (fun ls hl => ?_)
    refine lv_iload hx hb dX5_type_81 (lv_at hl 1 rfl) ?_
    refine lv_iconst (v := 0) hx hb dX5_type_83 (by decide) ?_
    refine lv_iconst (v := 3) hx hb dX5_type_84 (by decide) ?_
    have hPc := hP.sub (ws' := []) [] rfl
    have hDc := hD.sub (ws' := []) [] (by decide) rfl
    have hKc := hK.sub (tys' := []) [] rfl
    have hFc := va_free (wc := []) hD hS hA [] rfl
    refine va_calli (va_runS (As := [.int (-1), .int 0, .int 3]) (rest := []) ⟨hx, hb, hml, hown, hts⟩ (kx_X5_isIn_6 l dC dI H.size) (cwS 3 hts gX5_type_X5_isIn rfl rfl rfl (by decide +kernel) ⟨Nat.le_of_ble_eq_true rfl, Nat.le_of_ble_eq_true rfl⟩) ⟨fun a U g mk q => by obtain ⟨q0, q1, qP, qK, qD⟩ := q; exact ⟨q0, q1, qP, va_K.moved (u := U) (U := U.calling g mk a) (Vm.Alike.refl U.vm) qK, qD⟩, fun U hU hW => ⟨rfl, by rw [hU], by rw [hU]; exact hPc, va_K.moved hW.alike hKc, hDc.weaken (fun _ _ _ _ => trivial)⟩⟩ rfl rfl hl.1 rfl (lv_room (Nat.le_of_ble_eq_true rfl)) dX5_type_85 ⟨Nat.le_of_ble_eq_true rfl, Nat.le_of_ble_eq_true rfl⟩) hS (fun q _ h => hFc q h) hFc (fun r9 u t H1 locs ht hvm hw hB hz1 hk1 hS => ?_)
    obtain rfl := hw
    obtain ⟨hP1, hK1, hD1⟩ := hB
    rw [ht] at hP1
    have hK1 := va_K.moved hvm.symm hK1
    obtain ⟨hP, hD⟩ := va_join (wr := [(h0, .inr (9, [.int 0, .ref h1, .ref z0, .ref z1, .int 0, .int 0, .int 0])), (h1, .inl (k0, 4, .inr (.inr (.inr (.inr (va_up (va_up (va_up (va_up (fun _ => none) 0 (some ge5)) 1 (some ge5)) 2 (some ge5)) 3 (some ge5))))))), (h2, .inl (k1, 5, .inl (upd (upd (upd (upd (upd (fun _ => 0) 0 l1) 1 l2) 2 (-1)) 3 l4) 4 l5))), (h3, .inr (0, [.ref h4, .int 0, .int 0, .int 0])), (h4, .inl (k2, 2, .inl f0))]) (w1 := []) hP hD [] [0, 1, 2, 3, 4] rfl rfl (by decide) (by decide) hk1 hFc hP1 hD1
    generalize H1 = H at hP hS ⊢
    have hP : va_P (dC, dI) vwCl [(h0, .inr (9, [.int 0, .ref h1, .ref z0, .ref z1, .int 0, .int 0, .int 0])), (h1, .inl (k0, 4, .inr (.inr (.inr (.inr (va_up (va_up (va_up (va_up (fun _ => none) 0 (some ge5)) 1 (some ge5)) 2 (some ge5)) 3 (some ge5))))))), (h2, .inl (k1, 5, .inl (upd (upd (upd (upd (upd (fun _ => 0) 0 l1) 1 l2) 2 (-1)) 3 l4) 4 l5))), (h3, .inr (0, [.ref h4, .int 0, .int 0, .int 0])), (h4, .inl (k2, 2, .inl f0))] H := hP
    have hD : va_D A [(h0, .inr (9, [.int 0, .ref h1, .ref z0, .ref z1, .int 0, .int 0, .int 0])), (h1, .inl (k0, 4, .inr (.inr (.inr (.inr (va_up (va_up (va_up (va_up (fun _ => none) 0 (some ge5)) 1 (some ge5)) 2 (some ge5)) 3 (some ge5))))))), (h2, .inl (k1, 5, .inl (upd (upd (upd (upd (upd (fun _ => 0) 0 l1) 1 l2) 2 (-1)) 3 l4) 4 l5))), (h3, .inr (0, [.ref h4, .int 0, .int 0, .int 0])), (h4, .inl (k2, 2, .inl f0))] := hD
    refine lv_if_eq (tgt := 118) hx hb dX5_type_88 (by decide) (fun _ => ?_) (fun c9 => absurd (by decide) c9)
    refine lv_iinc (v := 3) (lv' := [(12, .int 3), (8, .int 0), (13, .int (-1)), (0, .ref h0), (1, .int rp), (7, .ref h2), (9, .ref h3), (10, .ref h2), (11, .int 5)]) hx hb dX5_type_118 hl (k := 8) rfl (by decide) (by decide) rfl (fun ls hl => ?_)
    refine lv_goto (tgt := 47) hx hb dX5_type_121 (by decide) ?_
    have hP := hP.sub (ws' := [(h0, .inr (9, [.int 0, .ref h1, .ref z0, .ref z1, .int 0, .int 0, .int 0])), (h1, .inl (k0, 4, .inr (.inr (.inr (.inr (va_up (va_up (va_up (va_up (fun _ => none) 0 (some ge5)) 1 (some ge5)) 2 (some ge5)) 3 (some ge5))))))), (h2, .inl (k1, 5, .inl (upd (upd (upd (upd (upd (fun _ => 0) 0 l1) 1 l2) 2 (-1)) 3 l4) 4 l5))), (h3, .inr (0, [.ref h4, .int 0, .int 0, .int 0])), (h4, .inl (k2, 2, .inl f0))]) [0, 1, 2, 3, 4] rfl
    have hD := hD.sub (ws' := [(h0, .inr (9, [.int 0, .ref h1, .ref z0, .ref z1, .int 0, .int 0, .int 0])), (h1, .inl (k0, 4, .inr (.inr (.inr (.inr (va_up (va_up (va_up (va_up (fun _ => none) 0 (some ge5)) 1 (some ge5)) 2 (some ge5)) 3 (some ge5))))))), (h2, .inl (k1, 5, .inl (upd (upd (upd (upd (upd (fun _ => 0) 0 l1) 1 l2) 2 (-1)) 3 l4) 4 l5))), (h3, .inr (0, [.ref h4, .int 0, .int 0, .int 0])), (h4, .inl (k2, 2, .inl f0))]) [0, 1, 2, 3, 4] (by decide) rfl
    have hK := hK.sub (tys' := [(k0, .object "java/lang/String"), (k1, .int), (k2, .byte)]) [0, 1, 2] rfl
    have hl := lv_sub hl [3, 4, 5, 1, 6, 7, 8, 0] (show lv_pick [(12, .int 3), (8, .int 0), (13, .int (-1)), (0, .ref h0), (1, .int rp), (7, .ref h2), (9, .ref h3), (10, .ref h2), (11, .int 5)] [3, 4, 5, 1, 6, 7, 8, 0] = [(0, .ref h0), (1, .int rp), (7, .ref h2), (8, .int 0), (9, .ref h3), (10, .ref h2), (11, .int 5), (12, .int 3)] from rfl)
    exact kx_X5_type_h320 f0_t hR hx hb hr hml hown hts hlocks hA hG hS hK hP hD hl
  · have hR : kz_ty rp 3 0 [l4, l5] = (R, v) := (kz_ty_g (by decide) (by decide)).symm.trans hR
    refine lv_iload hx hb dX5_type_47 (lv_at hl 7 rfl) ?_
    refine lv_iload hx hb dX5_type_49 (lv_at hl 6 rfl) ?_
    refine lv_icmp_ge (tgt := 124) hx hb dX5_type_51 (by decide) (fun c9 => absurd c9 (by decide)) (fun _ => ?_)
    refine lv_aload hx hb dX5_type_54 (lv_at hl 5 rfl) ?_
    refine lv_iload hx hb dX5_type_56 (lv_at hl 7 rfl) ?_
    refine va_iald (D := (dC, dI)) hx hb hK hP 2 1 rfl rfl (by unfold vp_in; decide) dX5_type_58 ?_
    refine W.eq (g2 := F0 m 59 ls [.int 0]) rfl ?_
    refine lv_istore (lv' := [(13, .int 0), (0, .ref h0), (1, .int rp), (7, .ref h2), (8, .int 0), (9, .ref h3), (10, .ref h2), (11, .int 5), (12, .int 2)]) hx hb dX5_type_59 hl (by decide) rfl (fun ls hl => ?_)
    refine lv_iload hx hb dX5_type_61 (lv_at hl 4 rfl) ?_
    refine lv_iload hx hb dX5_type_63 (lv_at hl 0 rfl) ?_
    refine lv_iconst (v := (-1)) hx hb dX5_type_65 (by decide) ?_
    refine lv_iconst (v := 3) hx hb dX5_type_66 (by decide) ?_
    have hPc := hP.sub (ws' := []) [] rfl
    have hDc := hD.sub (ws' := []) [] (by decide) rfl
    have hKc := hK.sub (tys' := []) [] rfl
    have hFc := va_free (wc := []) hD hS hA [] rfl
    refine va_calli (va_runS (As := [.int 0, .int (-1), .int 3]) (rest := [.int 0]) ⟨hx, hb, hml, hown, hts⟩ (kx_X5_isIn_7 l dC dI H.size) (cwS 3 hts gX5_type_X5_isIn rfl rfl rfl (by decide +kernel) ⟨Nat.le_of_ble_eq_true rfl, Nat.le_of_ble_eq_true rfl⟩) ⟨fun a U g mk q => by obtain ⟨q0, q1, qP, qK, qD⟩ := q; exact ⟨q0, q1, qP, va_K.moved (u := U) (U := U.calling g mk a) (Vm.Alike.refl U.vm) qK, qD⟩, fun U hU hW => ⟨rfl, by rw [hU], by rw [hU]; exact hPc, va_K.moved hW.alike hKc, hDc.weaken (fun _ _ _ _ => trivial)⟩⟩ rfl rfl hl.1 rfl (lv_room (Nat.le_of_ble_eq_true rfl)) dX5_type_67 ⟨Nat.le_of_ble_eq_true rfl, Nat.le_of_ble_eq_true rfl⟩) hS (fun q _ h => hFc q h) hFc (fun r9 u t H1 locs ht hvm hw hB hz1 hk1 hS => ?_)
    obtain rfl := hw
    obtain ⟨hP1, hK1, hD1⟩ := hB
    rw [ht] at hP1
    have hK1 := va_K.moved hvm.symm hK1
    obtain ⟨hP, hD⟩ := va_join (wr := [(h0, .inr (9, [.int 0, .ref h1, .ref z0, .ref z1, .int 0, .int 0, .int 0])), (h1, .inl (k0, 4, .inr (.inr (.inr (.inr (va_up (va_up (va_up (va_up (fun _ => none) 0 (some ge5)) 1 (some ge5)) 2 (some ge5)) 3 (some ge5))))))), (h2, .inl (k1, 5, .inl (upd (upd (upd (upd (upd (fun _ => 0) 0 l1) 1 l2) 2 0) 3 l4) 4 l5))), (h3, .inr (0, [.ref h4, .int 0, .int 0, .int 0])), (h4, .inl (k2, 2, .inl f0))]) (w1 := []) hP hD [] [0, 1, 2, 3, 4] rfl rfl (by decide) (by decide) hk1 hFc hP1 hD1
    generalize H1 = H at hP hS ⊢
    have hP : va_P (dC, dI) vwCl [(h0, .inr (9, [.int 0, .ref h1, .ref z0, .ref z1, .int 0, .int 0, .int 0])), (h1, .inl (k0, 4, .inr (.inr (.inr (.inr (va_up (va_up (va_up (va_up (fun _ => none) 0 (some ge5)) 1 (some ge5)) 2 (some ge5)) 3 (some ge5))))))), (h2, .inl (k1, 5, .inl (upd (upd (upd (upd (upd (fun _ => 0) 0 l1) 1 l2) 2 0) 3 l4) 4 l5))), (h3, .inr (0, [.ref h4, .int 0, .int 0, .int 0])), (h4, .inl (k2, 2, .inl f0))] H := hP
    have hD : va_D A [(h0, .inr (9, [.int 0, .ref h1, .ref z0, .ref z1, .int 0, .int 0, .int 0])), (h1, .inl (k0, 4, .inr (.inr (.inr (.inr (va_up (va_up (va_up (va_up (fun _ => none) 0 (some ge5)) 1 (some ge5)) 2 (some ge5)) 3 (some ge5))))))), (h2, .inl (k1, 5, .inl (upd (upd (upd (upd (upd (fun _ => 0) 0 l1) 1 l2) 2 0) 3 l4) 4 l5))), (h3, .inr (0, [.ref h4, .int 0, .int 0, .int 0])), (h4, .inl (k2, 2, .inl f0))] := hD
    refine lv_if_ne (tgt := 77) hx hb dX5_type_70 (by decide) (fun _ => ?_) (fun c9 => absurd c9 (by decide))
    refine lv_iconst (v := 0) hx hb dX5_type_77 (by decide) ?_
    refine lv_ior hx hb dX5_type_78 ?_
    refine lv_topi (fun y101 ey101 => ?_)
    obtain rfl : y101 = 0 := ey101.trans (by decide)
    refine lv_istore (lv' := [(8, .int 0), (13, .int 0), (0, .ref h0), (1, .int rp), (7, .ref h2), (9, .ref h3), (10, .ref h2), (11, .int 5), (12, .int 2)]) hx hb dX5_type_79 hl (by decide) rfl (fun ls hl => ?_)
    refine lv_iload hx hb dX5_type_81 (lv_at hl 1 rfl) ?_
    refine lv_iconst (v := 0) hx hb dX5_type_83 (by decide) ?_
    refine lv_iconst (v := 3) hx hb dX5_type_84 (by decide) ?_
    have hPc := hP.sub (ws' := []) [] rfl
    have hDc := hD.sub (ws' := []) [] (by decide) rfl
    have hKc := hK.sub (tys' := []) [] rfl
    have hFc := va_free (wc := []) hD hS hA [] rfl
    refine va_calli (va_runS (As := [.int 0, .int 0, .int 3]) (rest := []) ⟨hx, hb, hml, hown, hts⟩ (kx_X5_isIn_8 l dC dI H.size) (cwS 3 hts gX5_type_X5_isIn rfl rfl rfl (by decide +kernel) ⟨Nat.le_of_ble_eq_true rfl, Nat.le_of_ble_eq_true rfl⟩) ⟨fun a U g mk q => by obtain ⟨q0, q1, qP, qK, qD⟩ := q; exact ⟨q0, q1, qP, va_K.moved (u := U) (U := U.calling g mk a) (Vm.Alike.refl U.vm) qK, qD⟩, fun U hU hW => ⟨rfl, by rw [hU], by rw [hU]; exact hPc, va_K.moved hW.alike hKc, hDc.weaken (fun _ _ _ _ => trivial)⟩⟩ rfl rfl hl.1 rfl (lv_room (Nat.le_of_ble_eq_true rfl)) dX5_type_85 ⟨Nat.le_of_ble_eq_true rfl, Nat.le_of_ble_eq_true rfl⟩) hS (fun q _ h => hFc q h) hFc (fun r9 u t H1 locs ht hvm hw hB hz1 hk1 hS => ?_)
    obtain rfl := hw
    obtain ⟨hP1, hK1, hD1⟩ := hB
    rw [ht] at hP1
    have hK1 := va_K.moved hvm.symm hK1
    obtain ⟨hP, hD⟩ := va_join (wr := [(h0, .inr (9, [.int 0, .ref h1, .ref z0, .ref z1, .int 0, .int 0, .int 0])), (h1, .inl (k0, 4, .inr (.inr (.inr (.inr (va_up (va_up (va_up (va_up (fun _ => none) 0 (some ge5)) 1 (some ge5)) 2 (some ge5)) 3 (some ge5))))))), (h2, .inl (k1, 5, .inl (upd (upd (upd (upd (upd (fun _ => 0) 0 l1) 1 l2) 2 0) 3 l4) 4 l5))), (h3, .inr (0, [.ref h4, .int 0, .int 0, .int 0])), (h4, .inl (k2, 2, .inl f0))]) (w1 := []) hP hD [] [0, 1, 2, 3, 4] rfl rfl (by decide) (by decide) hk1 hFc hP1 hD1
    generalize H1 = H at hP hS ⊢
    have hP : va_P (dC, dI) vwCl [(h0, .inr (9, [.int 0, .ref h1, .ref z0, .ref z1, .int 0, .int 0, .int 0])), (h1, .inl (k0, 4, .inr (.inr (.inr (.inr (va_up (va_up (va_up (va_up (fun _ => none) 0 (some ge5)) 1 (some ge5)) 2 (some ge5)) 3 (some ge5))))))), (h2, .inl (k1, 5, .inl (upd (upd (upd (upd (upd (fun _ => 0) 0 l1) 1 l2) 2 0) 3 l4) 4 l5))), (h3, .inr (0, [.ref h4, .int 0, .int 0, .int 0])), (h4, .inl (k2, 2, .inl f0))] H := hP
    have hD : va_D A [(h0, .inr (9, [.int 0, .ref h1, .ref z0, .ref z1, .int 0, .int 0, .int 0])), (h1, .inl (k0, 4, .inr (.inr (.inr (.inr (va_up (va_up (va_up (va_up (fun _ => none) 0 (some ge5)) 1 (some ge5)) 2 (some ge5)) 3 (some ge5))))))), (h2, .inl (k1, 5, .inl (upd (upd (upd (upd (upd (fun _ => 0) 0 l1) 1 l2) 2 0) 3 l4) 4 l5))), (h3, .inr (0, [.ref h4, .int 0, .int 0, .int 0])), (h4, .inl (k2, 2, .inl f0))] := hD
    refine lv_if_eq (tgt := 118) hx hb dX5_type_88 (by decide) (fun c9 => absurd c9 (by decide)) (fun _ => ?_)
    refine va_new (ci := 1) (fs := [.null, .int 0, .int 0, .int 0]) (C := RJ4) (T := TJ4) (N := 4) hx hb hts (by decide +kernel) tyJ4 tyJ4_ok hown (hts (.classLink RX5 49 RJ4) (by decide +kernel)) (hts (.instantiable RJ4 4) (by decide +kernel)) (hts (.initialized RJ4) (by decide +kernel)) hK hP hD hS hA rfl (fun j hj => by rcases (show j = 0 ∨ j = 1 ∨ j = 2 ∨ j = 3 by omega) with rfl | rfl | rfl | rfl <;> rfl) (Nat.le_of_ble_eq_true rfl) (Nat.le_of_ble_eq_true rfl) dX5_type_91 (fun q102 H hP hD hS => ?_)
    have hP : va_P (dC, dI) vwCl [(h0, .inr (9, [.int 0, .ref h1, .ref z0, .ref z1, .int 0, .int 0, .int 0])), (h1, .inl (k0, 4, .inr (.inr (.inr (.inr (va_up (va_up (va_up (va_up (fun _ => none) 0 (some ge5)) 1 (some ge5)) 2 (some ge5)) 3 (some ge5))))))), (h2, .inl (k1, 5, .inl (upd (upd (upd (upd (upd (fun _ => 0) 0 l1) 1 l2) 2 0) 3 l4) 4 l5))), (h3, .inr (0, [.ref h4, .int 0, .int 0, .int 0])), (h4, .inl (k2, 2, .inl f0)), (q102, .inr (1, [.null, .int 0, .int 0, .int 0]))] H := hP
    have hD : va_D A [(h0, .inr (9, [.int 0, .ref h1, .ref z0, .ref z1, .int 0, .int 0, .int 0])), (h1, .inl (k0, 4, .inr (.inr (.inr (.inr (va_up (va_up (va_up (va_up (fun _ => none) 0 (some ge5)) 1 (some ge5)) 2 (some ge5)) 3 (some ge5))))))), (h2, .inl (k1, 5, .inl (upd (upd (upd (upd (upd (fun _ => 0) 0 l1) 1 l2) 2 0) 3 l4) 4 l5))), (h3, .inr (0, [.ref h4, .int 0, .int 0, .int 0])), (h4, .inl (k2, 2, .inl f0)), (q102, .inr (1, [.null, .int 0, .int 0, .int 0]))] := hD
    refine W.widen (k := 10) (n := 60) (by omega) (by omega) ?_
    refine lv_dup hx hb dX5_type_94 rfl ?_
    have hPc := hP.sub (ws' := [(q102, .inr (1, [.null, .int 0, .int 0, .int 0]))]) [5] rfl
    have hDc := hD.sub (ws' := [(q102, .inr (1, [.null, .int 0, .int 0, .int 0]))]) [5] (by decide) rfl
    have hKc := hK.sub (tys' := []) [] rfl
    have hFc := va_free (wc := [(q102, .inr (1, [.null, .int 0, .int 0, .int 0]))]) hD hS hA [5] rfl
    refine va_callv (va_runI (As := []) (rest := [.ref q102]) ⟨hx, hb, hml, hown, hts⟩ (kx_J4_init_da8c8_0 l dC dI ge5 gea gv5 gva gde gic gi0 q102 H.size) (cwI 0 hts gX5_type_J4_init_da8c8 rfl rfl rfl (hts (.initialized RJ4) (by decide +kernel)) (hts (.methodLink RX5 51 yJ4_init_da8c8) (by decide +kernel)) (hts (.instanceMethod yJ4_init_da8c8) (by decide +kernel)) rfl (by decide +kernel) ⟨Nat.le_of_ble_eq_true rfl, Nat.le_of_ble_eq_true rfl⟩) ⟨fun a U g mk q => by obtain ⟨q0, q1, qP, qK, qD, qG⟩ := q; exact ⟨q0, q1, qP, va_K.moved (u := U) (U := U.calling g mk a) (Vm.Alike.refl U.vm) qK, qD, gv.fb qG⟩, fun U hU hW => ⟨rfl, by rw [hU], by rw [hU]; exact hPc, va_K.moved hW.alike hKc, hDc.weaken (fun _ _ _ _ => trivial), gv.pass hW hU hS hFc hG⟩⟩ rfl rfl hl.1 rfl (lv_room (Nat.le_of_ble_eq_true rfl)) dX5_type_95 ⟨Nat.le_of_ble_eq_true rfl, Nat.le_of_ble_eq_true rfl⟩) hS (fun q _ h => hFc q h) hFc (fun u t H1 locs ht hvm hw hB hz1 hk1 hS => ?_)
    obtain ⟨q103, cq104, hP1, hK1, hD1⟩ := hB
    rw [ht] at hP1
    have hK1 := va_K.moved hvm.symm hK1
    obtain ⟨hP, hD⟩ := va_join (wr := [(h0, .inr (9, [.int 0, .ref h1, .ref z0, .ref z1, .int 0, .int 0, .int 0])), (h1, .inl (k0, 4, .inr (.inr (.inr (.inr (va_up (va_up (va_up (va_up (fun _ => none) 0 (some ge5)) 1 (some ge5)) 2 (some ge5)) 3 (some ge5))))))), (h2, .inl (k1, 5, .inl (upd (upd (upd (upd (upd (fun _ => 0) 0 l1) 1 l2) 2 0) 3 l4) 4 l5))), (h3, .inr (0, [.ref h4, .int 0, .int 0, .int 0])), (h4, .inl (k2, 2, .inl f0))]) (w1 := [(q102, .inr (1, [.ref q103, .int 0, .int 0, .int 0])), (q103, .inl (cq104, 16, .inl (fun _ => 0)))]) hP hD [5] [0, 1, 2, 3, 4] rfl rfl (by decide) (by decide) hk1 hFc hP1 hD1
    have hK := hK.app (hK1.sub (tys' := [(cq104, .byte)]) [0] rfl)
    generalize H1 = H at hP hS ⊢
    have hK : va_K (dC, dI) vwCl [(k0, .object "java/lang/String"), (k1, .int), (k2, .byte), (cq104, .byte)] s := hK
    have hP : va_P (dC, dI) vwCl [(h0, .inr (9, [.int 0, .ref h1, .ref z0, .ref z1, .int 0, .int 0, .int 0])), (h1, .inl (k0, 4, .inr (.inr (.inr (.inr (va_up (va_up (va_up (va_up (fun _ => none) 0 (some ge5)) 1 (some ge5)) 2 (some ge5)) 3 (some ge5))))))), (h2, .inl (k1, 5, .inl (upd (upd (upd (upd (upd (fun _ => 0) 0 l1) 1 l2) 2 0) 3 l4) 4 l5))), (h3, .inr (0, [.ref h4, .int 0, .int 0, .int 0])), (h4, .inl (k2, 2, .inl f0)), (q102, .inr (1, [.ref q103, .int 0, .int 0, .int 0])), (q103, .inl (cq104, 16, .inl (fun _ => 0)))] H := hP
    have hD : va_D A [(h0, .inr (9, [.int 0, .ref h1, .ref z0, .ref z1, .int 0, .int 0, .int 0])), (h1, .inl (k0, 4, .inr (.inr (.inr (.inr (va_up (va_up (va_up (va_up (fun _ => none) 0 (some ge5)) 1 (some ge5)) 2 (some ge5)) 3 (some ge5))))))), (h2, .inl (k1, 5, .inl (upd (upd (upd (upd (upd (fun _ => 0) 0 l1) 1 l2) 2 0) 3 l4) 4 l5))), (h3, .inr (0, [.ref h4, .int 0, .int 0, .int 0])), (h4, .inl (k2, 2, .inl f0)), (q102, .inr (1, [.ref q103, .int 0, .int 0, .int 0])), (q103, .inl (cq104, 16, .inl (fun _ => 0)))] := hD
    refine W.widen (k := 11) (n := 76) (by omega) (by omega) ?_
    refine lv_aload hx hb dX5_type_98 (lv_at hl 5 rfl) ?_
    have hPc := hP.sub (ws' := [(h3, .inr (0, [.ref h4, .int 0, .int 0, .int 0])), (h4, .inl (k2, 2, .inl f0)), (q102, .inr (1, [.ref q103, .int 0, .int 0, .int 0])), (q103, .inl (cq104, 16, .inl (fun _ => 0)))]) [3, 4, 5, 6] rfl
    have hDc := hD.sub (ws' := [(h3, .inr (0, [.ref h4, .int 0, .int 0, .int 0])), (h4, .inl (k2, 2, .inl f0)), (q102, .inr (1, [.ref q103, .int 0, .int 0, .int 0])), (q103, .inl (cq104, 16, .inl (fun _ => 0)))]) [3, 4, 5, 6] (by decide) rfl
    have hKc := hK.sub (tys' := [(k2, .byte), (cq104, .byte)]) [2, 3] rfl
    have hFc := va_free (wc := [(h3, .inr (0, [.ref h4, .int 0, .int 0, .int 0])), (h4, .inl (k2, 2, .inl f0)), (q102, .inr (1, [.ref q103, .int 0, .int 0, .int 0])), (q103, .inl (cq104, 16, .inl (fun _ => 0)))]) hD hS hA [3, 4, 5, 6] rfl
    refine va_callr (va_runV (As := [.ref h3]) (rest := []) ⟨hx, hb, hml, hown, hts⟩ (kx_J4_append_15ec4_2 l dC dI ge5 gea gv5 gva gde gic gi0 h3 h4 q102 q103 k2 cq104 H.size f0 f0_t) (cwV 1 hts gX5_type_J4_append_15ec4 rfl rfl rfl (by decide +kernel) ⟨Nat.le_of_ble_eq_true rfl, Nat.le_of_ble_eq_true rfl⟩) ⟨fun a U g mk q => by obtain ⟨q0, q1, qP, qK, qD, qG⟩ := q; exact ⟨q0, q1, qP, va_K.moved (u := U) (U := U.calling g mk a) (Vm.Alike.refl U.vm) qK, qD, gv.fb qG⟩, va_recv hKc hPc (ci := 1) (q0 := 2) rfl rfl, fun U hU hW => ⟨rfl, by rw [hU], by rw [hU]; exact hPc, va_K.moved hW.alike hKc, hDc.weaken (fun _ _ _ _ => trivial), gv.pass hW hU hS hFc hG⟩⟩ rfl rfl hl.1 rfl (lv_room (Nat.le_of_ble_eq_true rfl)) dX5_type_100 ⟨Nat.le_of_ble_eq_true rfl, Nat.le_of_ble_eq_true rfl⟩) hS (fun q _ h => hFc q h) hFc (fun u ra t H1 locs ht hvm hw hB hz1 hk1 hS => ?_)
    obtain ⟨f105, f105_t, hra, hP1, hK1, hD1⟩ := hB
    rw [hra]
    rw [ht] at hP1
    have hK1 := va_K.moved hvm.symm hK1
    obtain ⟨hP, hD⟩ := va_join (wr := [(h0, .inr (9, [.int 0, .ref h1, .ref z0, .ref z1, .int 0, .int 0, .int 0])), (h1, .inl (k0, 4, .inr (.inr (.inr (.inr (va_up (va_up (va_up (va_up (fun _ => none) 0 (some ge5)) 1 (some ge5)) 2 (some ge5)) 3 (some ge5))))))), (h2, .inl (k1, 5, .inl (upd (upd (upd (upd (upd (fun _ => 0) 0 l1) 1 l2) 2 0) 3 l4) 4 l5)))]) (w1 := [(h3, .inr (0, [.ref h4, .int 0, .int 0, .int 0])), (h4, .inl (k2, 2, .inl f0)), (q102, .inr (1, [.ref q103, .int 0, .int 0, .int 2])), (q103, .inl (cq104, 16, .inl f105))]) hP hD [3, 4, 5, 6] [0, 1, 2] rfl rfl (by decide) (by decide) hk1 hFc hP1 hD1
    generalize H1 = H at hP hS ⊢
    have hP : va_P (dC, dI) vwCl [(h0, .inr (9, [.int 0, .ref h1, .ref z0, .ref z1, .int 0, .int 0, .int 0])), (h1, .inl (k0, 4, .inr (.inr (.inr (.inr (va_up (va_up (va_up (va_up (fun _ => none) 0 (some ge5)) 1 (some ge5)) 2 (some ge5)) 3 (some ge5))))))), (h2, .inl (k1, 5, .inl (upd (upd (upd (upd (upd (fun _ => 0) 0 l1) 1 l2) 2 0) 3 l4) 4 l5))), (h3, .inr (0, [.ref h4, .int 0, .int 0, .int 0])), (h4, .inl (k2, 2, .inl f0)), (q102, .inr (1, [.ref q103, .int 0, .int 0, .int 2])), (q103, .inl (cq104, 16, .inl f105))] H := hP
    have hD : va_D A [(h0, .inr (9, [.int 0, .ref h1, .ref z0, .ref z1, .int 0, .int 0, .int 0])), (h1, .inl (k0, 4, .inr (.inr (.inr (.inr (va_up (va_up (va_up (va_up (fun _ => none) 0 (some ge5)) 1 (some ge5)) 2 (some ge5)) 3 (some ge5))))))), (h2, .inl (k1, 5, .inl (upd (upd (upd (upd (upd (fun _ => 0) 0 l1) 1 l2) 2 0) 3 l4) 4 l5))), (h3, .inr (0, [.ref h4, .int 0, .int 0, .int 0])), (h4, .inl (k2, 2, .inl f0)), (q102, .inr (1, [.ref q103, .int 0, .int 0, .int 2])), (q103, .inl (cq104, 16, .inl f105))] := hD
    refine va_ldcS hx hb hown g_sa dX5_type_103 ?_
    refine lv_iload hx hb dX5_type_105 (lv_at hl 1 rfl) ?_
    have hPc := hP.sub (ws' := []) [] rfl
    have hDc := hD.sub (ws' := []) [] (by decide) rfl
    have hKc := hK.sub (tys' := []) [] rfl
    have hFc := va_free (wc := []) hD hS hA [] rfl
    refine va_calli (va_runV (As := [.int 0]) (rest := [.ref q102]) ⟨hx, hb, hml, hown, hts⟩ (kx_J0_charAt_5068e_0 l dC dI ge5 gea gv5 gva gde gic gi0 H.size) (cwV 1 hts gX5_type_J0_charAt_5068e rfl rfl rfl (by decide +kernel) ⟨Nat.le_of_ble_eq_true rfl, Nat.le_of_ble_eq_true rfl⟩) ⟨fun a U g mk q => by obtain ⟨q0, q1, qP, qK, qD, qG⟩ := q; exact ⟨q0, q1, qP, va_K.moved (u := U) (U := U.calling g mk a) (Vm.Alike.refl U.vm) qK, qD, gv.fb qG⟩, (by obtain ⟨cell, k1, k2, k3, -⟩ := g_oa.kept hS.2.1; exact ⟨cell, k1, k2, k3⟩), fun U hU hW => ⟨rfl, by rw [hU], by rw [hU]; exact hPc, va_K.moved hW.alike hKc, hDc.weaken (fun _ _ _ _ => trivial), gv.pass hW hU hS hFc hG⟩⟩ rfl rfl hl.1 rfl (lv_room (Nat.le_of_ble_eq_true rfl)) dX5_type_107 ⟨Nat.le_of_ble_eq_true rfl, Nat.le_of_ble_eq_true rfl⟩) hS (fun q _ h => hFc q h) hFc (fun r9 u t H1 locs ht hvm hw hB hz1 hk1 hS => ?_)
    obtain rfl := hw
    obtain ⟨hP1, hK1, hD1⟩ := hB
    rw [ht] at hP1
    have hK1 := va_K.moved hvm.symm hK1
    obtain ⟨hP, hD⟩ := va_join (wr := [(h0, .inr (9, [.int 0, .ref h1, .ref z0, .ref z1, .int 0, .int 0, .int 0])), (h1, .inl (k0, 4, .inr (.inr (.inr (.inr (va_up (va_up (va_up (va_up (fun _ => none) 0 (some ge5)) 1 (some ge5)) 2 (some ge5)) 3 (some ge5))))))), (h2, .inl (k1, 5, .inl (upd (upd (upd (upd (upd (fun _ => 0) 0 l1) 1 l2) 2 0) 3 l4) 4 l5))), (h3, .inr (0, [.ref h4, .int 0, .int 0, .int 0])), (h4, .inl (k2, 2, .inl f0)), (q102, .inr (1, [.ref q103, .int 0, .int 0, .int 2])), (q103, .inl (cq104, 16, .inl f105))]) (w1 := []) hP hD [] [0, 1, 2, 3, 4, 5, 6] rfl rfl (by decide) (by decide) hk1 hFc hP1 hD1
    generalize H1 = H at hP hS ⊢
    have hP : va_P (dC, dI) vwCl [(h0, .inr (9, [.int 0, .ref h1, .ref z0, .ref z1, .int 0, .int 0, .int 0])), (h1, .inl (k0, 4, .inr (.inr (.inr (.inr (va_up (va_up (va_up (va_up (fun _ => none) 0 (some ge5)) 1 (some ge5)) 2 (some ge5)) 3 (some ge5))))))), (h2, .inl (k1, 5, .inl (upd (upd (upd (upd (upd (fun _ => 0) 0 l1) 1 l2) 2 0) 3 l4) 4 l5))), (h3, .inr (0, [.ref h4, .int 0, .int 0, .int 0])), (h4, .inl (k2, 2, .inl f0)), (q102, .inr (1, [.ref q103, .int 0, .int 0, .int 2])), (q103, .inl (cq104, 16, .inl f105))] H := hP
    have hD : va_D A [(h0, .inr (9, [.int 0, .ref h1, .ref z0, .ref z1, .int 0, .int 0, .int 0])), (h1, .inl (k0, 4, .inr (.inr (.inr (.inr (va_up (va_up (va_up (va_up (fun _ => none) 0 (some ge5)) 1 (some ge5)) 2 (some ge5)) 3 (some ge5))))))), (h2, .inl (k1, 5, .inl (upd (upd (upd (upd (upd (fun _ => 0) 0 l1) 1 l2) 2 0) 3 l4) 4 l5))), (h3, .inr (0, [.ref h4, .int 0, .int 0, .int 0])), (h4, .inl (k2, 2, .inl f0)), (q102, .inr (1, [.ref q103, .int 0, .int 0, .int 2])), (q103, .inl (cq104, 16, .inl f105))] := hD
    have hPc := hP.sub (ws' := [(q102, .inr (1, [.ref q103, .int 0, .int 0, .int 2])), (q103, .inl (cq104, 16, .inl f105))]) [5, 6] rfl
    have hDc := hD.sub (ws' := [(q102, .inr (1, [.ref q103, .int 0, .int 0, .int 2])), (q103, .inl (cq104, 16, .inl f105))]) [5, 6] (by decide) rfl
    have hKc := hK.sub (tys' := [(cq104, .byte)]) [3] rfl
    have hFc := va_free (wc := [(q102, .inr (1, [.ref q103, .int 0, .int 0, .int 2])), (q103, .inl (cq104, 16, .inl f105))]) hD hS hA [5, 6] rfl
    refine va_callr (va_runV (As := [.int 97]) (rest := []) ⟨hx, hb, hml, hown, hts⟩ (kx_J4_append_cf468_8 l dC dI ge5 gea gv5 gva gde gic gi0 q102 q103 cq104 H.size f105 f105_t) (cwV 1 hts gX5_type_J4_append_cf468 rfl rfl rfl (by decide +kernel) ⟨Nat.le_of_ble_eq_true rfl, Nat.le_of_ble_eq_true rfl⟩) ⟨fun a U g mk q => by obtain ⟨q0, q1, qP, qK, qD, qG⟩ := q; exact ⟨q0, q1, qP, va_K.moved (u := U) (U := U.calling g mk a) (Vm.Alike.refl U.vm) qK, qD, gv.fb qG⟩, va_recv hKc hPc (ci := 1) (q0 := 0) rfl rfl, fun U hU hW => ⟨rfl, by rw [hU], by rw [hU]; exact hPc, va_K.moved hW.alike hKc, hDc.weaken (fun _ _ _ _ => trivial), gv.pass hW hU hS hFc hG⟩⟩ rfl rfl hl.1 rfl (lv_room (Nat.le_of_ble_eq_true rfl)) dX5_type_110 ⟨Nat.le_of_ble_eq_true rfl, Nat.le_of_ble_eq_true rfl⟩) hS (fun q _ h => hFc q h) hFc (fun u ra t H1 locs ht hvm hw hB hz1 hk1 hS => ?_)
    obtain ⟨f106, f106_t, hra, hP1, hK1, hD1⟩ := hB
    rw [hra]
    rw [ht] at hP1
    have hK1 := va_K.moved hvm.symm hK1
    obtain ⟨hP, hD⟩ := va_join (wr := [(h0, .inr (9, [.int 0, .ref h1, .ref z0, .ref z1, .int 0, .int 0, .int 0])), (h1, .inl (k0, 4, .inr (.inr (.inr (.inr (va_up (va_up (va_up (va_up (fun _ => none) 0 (some ge5)) 1 (some ge5)) 2 (some ge5)) 3 (some ge5))))))), (h2, .inl (k1, 5, .inl (upd (upd (upd (upd (upd (fun _ => 0) 0 l1) 1 l2) 2 0) 3 l4) 4 l5))), (h3, .inr (0, [.ref h4, .int 0, .int 0, .int 0])), (h4, .inl (k2, 2, .inl f0))]) (w1 := [(q102, .inr (1, [.ref q103, .int 0, .int 0, .int 3])), (q103, .inl (cq104, 16, .inl f106))]) hP hD [5, 6] [0, 1, 2, 3, 4] rfl rfl (by decide) (by decide) hk1 hFc hP1 hD1
    generalize H1 = H at hP hS ⊢
    have hP : va_P (dC, dI) vwCl [(h0, .inr (9, [.int 0, .ref h1, .ref z0, .ref z1, .int 0, .int 0, .int 0])), (h1, .inl (k0, 4, .inr (.inr (.inr (.inr (va_up (va_up (va_up (va_up (fun _ => none) 0 (some ge5)) 1 (some ge5)) 2 (some ge5)) 3 (some ge5))))))), (h2, .inl (k1, 5, .inl (upd (upd (upd (upd (upd (fun _ => 0) 0 l1) 1 l2) 2 0) 3 l4) 4 l5))), (h3, .inr (0, [.ref h4, .int 0, .int 0, .int 0])), (h4, .inl (k2, 2, .inl f0)), (q102, .inr (1, [.ref q103, .int 0, .int 0, .int 3])), (q103, .inl (cq104, 16, .inl f106))] H := hP
    have hD : va_D A [(h0, .inr (9, [.int 0, .ref h1, .ref z0, .ref z1, .int 0, .int 0, .int 0])), (h1, .inl (k0, 4, .inr (.inr (.inr (.inr (va_up (va_up (va_up (va_up (fun _ => none) 0 (some ge5)) 1 (some ge5)) 2 (some ge5)) 3 (some ge5))))))), (h2, .inl (k1, 5, .inl (upd (upd (upd (upd (upd (fun _ => 0) 0 l1) 1 l2) 2 0) 3 l4) 4 l5))), (h3, .inr (0, [.ref h4, .int 0, .int 0, .int 0])), (h4, .inl (k2, 2, .inl f0)), (q102, .inr (1, [.ref q103, .int 0, .int 0, .int 3])), (q103, .inl (cq104, 16, .inl f106))] := hD
    have hPc := hP.sub (ws' := [(q102, .inr (1, [.ref q103, .int 0, .int 0, .int 3])), (q103, .inl (cq104, 16, .inl f106))]) [5, 6] rfl
    have hDc := hD.sub (ws' := [(q102, .inr (1, [.ref q103, .int 0, .int 0, .int 3])), (q103, .inl (cq104, 16, .inl f106))]) [5, 6] (by decide) rfl
    have hKc := hK.sub (tys' := [(cq104, .byte)]) [3] rfl
    have hFc := va_free (wc := [(q102, .inr (1, [.ref q103, .int 0, .int 0, .int 3])), (q103, .inl (cq104, 16, .inl f106))]) hD hS hA [5, 6] rfl
    refine va_callr (va_runV (As := []) (rest := []) ⟨hx, hb, hml, hown, hts⟩ (kx_J4_toString_0e30d_3 l dC dI ge5 gea gv5 gva gde gic gi0 q102 q103 cq104 H.size f106 f106_t) (cwV 0 hts gX5_type_J4_toString_0e30d rfl rfl rfl (by decide +kernel) ⟨Nat.le_of_ble_eq_true rfl, Nat.le_of_ble_eq_true rfl⟩) ⟨fun a U g mk q => by obtain ⟨q0, q1, qP, qK, qD, qG⟩ := q; exact ⟨q0, q1, qP, va_K.moved (u := U) (U := U.calling g mk a) (Vm.Alike.refl U.vm) qK, qD, gv.fb qG⟩, va_recv hKc hPc (ci := 1) (q0 := 0) rfl rfl, fun U hU hW => ⟨rfl, by rw [hU], by rw [hU]; exact hPc, va_K.moved hW.alike hKc, hDc.weaken (fun _ _ _ _ => trivial), gv.pass hW hU hS hFc hG⟩⟩ rfl rfl hl.1 rfl (lv_room (Nat.le_of_ble_eq_true rfl)) dX5_type_113 ⟨Nat.le_of_ble_eq_true rfl, Nat.le_of_ble_eq_true rfl⟩) hS (fun q _ h => hFc q h) hFc (fun u ra t H1 locs ht hvm hw hB hz1 hk1 hS => ?_)
    obtain ⟨q107, q108, cq109, f110, f110_t, hra, hP1, hK1, hD1⟩ := hB
    rw [hra]
    rw [ht] at hP1
    have hK1 := va_K.moved hvm.symm hK1
    obtain ⟨hP, hD⟩ := va_join (wr := [(h0, .inr (9, [.int 0, .ref h1, .ref z0, .ref z1, .int 0, .int 0, .int 0])), (h1, .inl (k0, 4, .inr (.inr (.inr (.inr (va_up (va_up (va_up (va_up (fun _ => none) 0 (some ge5)) 1 (some ge5)) 2 (some ge5)) 3 (some ge5))))))), (h2, .inl (k1, 5, .inl (upd (upd (upd (upd (upd (fun _ => 0) 0 l1) 1 l2) 2 0) 3 l4) 4 l5))), (h3, .inr (0, [.ref h4, .int 0, .int 0, .int 0])), (h4, .inl (k2, 2, .inl f0))]) (w1 := [(q102, .inr (1, [.ref q103, .int 0, .int 0, .int 3])), (q103, .inl (cq104, 16, .inl f106)), (q107, .inr (0, [.ref q108, .int 0, .int 0, .int 0])), (q108, .inl (cq109, 3, .inl f110))]) hP hD [5, 6] [0, 1, 2, 3, 4] rfl rfl (by decide) (by decide) hk1 hFc hP1 hD1
    have hK := hK.app (hK1.sub (tys' := [(cq109, .byte)]) [1] rfl)
    generalize H1 = H at hP hS ⊢
    have hK : va_K (dC, dI) vwCl [(k0, .object "java/lang/String"), (k1, .int), (k2, .byte), (cq104, .byte), (cq109, .byte)] s := hK
    have hP : va_P (dC, dI) vwCl [(h0, .inr (9, [.int 0, .ref h1, .ref z0, .ref z1, .int 0, .int 0, .int 0])), (h1, .inl (k0, 4, .inr (.inr (.inr (.inr (va_up (va_up (va_up (va_up (fun _ => none) 0 (some ge5)) 1 (some ge5)) 2 (some ge5)) 3 (some ge5))))))), (h2, .inl (k1, 5, .inl (upd (upd (upd (upd (upd (fun _ => 0) 0 l1) 1 l2) 2 0) 3 l4) 4 l5))), (h3, .inr (0, [.ref h4, .int 0, .int 0, .int 0])), (h4, .inl (k2, 2, .inl f0)), (q102, .inr (1, [.ref q103, .int 0, .int 0, .int 3])), (q103, .inl (cq104, 16, .inl f106)), (q107, .inr (0, [.ref q108, .int 0, .int 0, .int 0])), (q108, .inl (cq109, 3, .inl f110))] H := hP
    have hD : va_D A [(h0, .inr (9, [.int 0, .ref h1, .ref z0, .ref z1, .int 0, .int 0, .int 0])), (h1, .inl (k0, 4, .inr (.inr (.inr (.inr (va_up (va_up (va_up (va_up (fun _ => none) 0 (some ge5)) 1 (some ge5)) 2 (some ge5)) 3 (some ge5))))))), (h2, .inl (k1, 5, .inl (upd (upd (upd (upd (upd (fun _ => 0) 0 l1) 1 l2) 2 0) 3 l4) 4 l5))), (h3, .inr (0, [.ref h4, .int 0, .int 0, .int 0])), (h4, .inl (k2, 2, .inl f0)), (q102, .inr (1, [.ref q103, .int 0, .int 0, .int 3])), (q103, .inl (cq104, 16, .inl f106)), (q107, .inr (0, [.ref q108, .int 0, .int 0, .int 0])), (q108, .inl (cq109, 3, .inl f110))] := hD
    refine W.widen (k := 13) (n := 83) (by omega) (by omega) ?_
    refine lv_astore (lv' := [(9, .ref q107), (8, .int 0), (13, .int 0), (0, .ref h0), (1, .int rp), (7, .ref h2), (10, .ref h2), (11, .int 5), (12, .int 2)]) hx hb dX5_type_116 hl (by decide) rfl (fun ls hl => ?_)
    refine lv_iinc (v := 3) (lv' := [(12, .int 3), (9, .ref q107), (8, .int 0), (13, .int 0), (0, .ref h0), (1, .int rp), (7, .ref h2), (10, .ref h2), (11, .int 5)]) hx hb dX5_type_118 hl (k := 8) rfl (by decide) (by decide) rfl (fun ls hl => ?_)
    refine lv_goto (tgt := 47) hx hb dX5_type_121 (by decide) ?_
    have hP := hP.sub (ws' := [(h0, .inr (9, [.int 0, .ref h1, .ref z0, .ref z1, .int 0, .int 0, .int 0])), (h1, .inl (k0, 4, .inr (.inr (.inr (.inr (va_up (va_up (va_up (va_up (fun _ => none) 0 (some ge5)) 1 (some ge5)) 2 (some ge5)) 3 (some ge5))))))), (h2, .inl (k1, 5, .inl (upd (upd (upd (upd (upd (fun _ => 0) 0 l1) 1 l2) 2 0) 3 l4) 4 l5))), (q107, .inr (0, [.ref q108, .int 0, .int 0, .int 0])), (q108, .inl (cq109, 3, .inl f110))]) [0, 1, 2, 7, 8] rfl
    have hD := hD.sub (ws' := [(h0, .inr (9, [.int 0, .ref h1, .ref z0, .ref z1, .int 0, .int 0, .int 0])), (h1, .inl (k0, 4, .inr (.inr (.inr (.inr (va_up (va_up (va_up (va_up (fun _ => none) 0 (some ge5)) 1 (some ge5)) 2 (some ge5)) 3 (some ge5))))))), (h2, .inl (k1, 5, .inl (upd (upd (upd (upd (upd (fun _ => 0) 0 l1) 1 l2) 2 0) 3 l4) 4 l5))), (q107, .inr (0, [.ref q108, .int 0, .int 0, .int 0])), (q108, .inl (cq109, 3, .inl f110))]) [0, 1, 2, 7, 8] (by decide) rfl
    have hK := hK.sub (tys' := [(k0, .object "java/lang/String"), (k1, .int), (cq109, .byte)]) [0, 1, 4] rfl
    have hl := lv_sub hl [4, 5, 6, 2, 1, 7, 8, 0] (show lv_pick [(12, .int 3), (9, .ref q107), (8, .int 0), (13, .int 0), (0, .ref h0), (1, .int rp), (7, .ref h2), (10, .ref h2), (11, .int 5)] [4, 5, 6, 2, 1, 7, 8, 0] = [(0, .ref h0), (1, .int rp), (7, .ref h2), (8, .int 0), (9, .ref q107), (10, .ref h2), (11, .int 5), (12, .int 3)] from rfl)
    exact kx_X5_type_h330 f110_t hR hx hb hr hml hown hts hlocks hA hG hS hK hP hD hl
  · have hR : kz_ty rp 3 0 [l4, l5] = (R, v) := (kz_ty_g (by decide) (by decide)).symm.trans hR
    refine lv_iload hx hb dX5_type_47 (lv_at hl 7 rfl) ?_
    refine lv_iload hx hb dX5_type_49 (lv_at hl 6 rfl) ?_
    refine lv_icmp_ge (tgt := 124) hx hb dX5_type_51 (by decide) (fun c9 => absurd c9 (by decide)) (fun _ => ?_)
    refine lv_aload hx hb dX5_type_54 (lv_at hl 5 rfl) ?_
    refine lv_iload hx hb dX5_type_56 (lv_at hl 7 rfl) ?_
    refine va_iald (D := (dC, dI)) hx hb hK hP 2 1 rfl rfl (by unfold vp_in; decide) dX5_type_58 ?_
    refine W.eq (g2 := F0 m 59 ls [.int 1]) rfl ?_
    refine lv_istore (lv' := [(13, .int 1), (0, .ref h0), (1, .int rp), (7, .ref h2), (8, .int 0), (9, .ref h3), (10, .ref h2), (11, .int 5), (12, .int 2)]) hx hb dX5_type_59 hl (by decide) rfl (fun ls hl => ?_)
    refine lv_iload hx hb dX5_type_61 (lv_at hl 4 rfl) ?_
    refine lv_iload hx hb dX5_type_63 (lv_at hl 0 rfl) ?_
    refine lv_iconst (v := (-1)) hx hb dX5_type_65 (by decide) ?_
    refine lv_iconst (v := 3) hx hb dX5_type_66 (by decide) ?_
    have hPc := hP.sub (ws' := []) [] rfl
    have hDc := hD.sub (ws' := []) [] (by decide) rfl
    have hKc := hK.sub (tys' := []) [] rfl
    have hFc := va_free (wc := []) hD hS hA [] rfl
    refine va_calli (va_runS (As := [.int 1, .int (-1), .int 3]) (rest := [.int 0]) ⟨hx, hb, hml, hown, hts⟩ (kx_X5_isIn_9 l dC dI H.size) (cwS 3 hts gX5_type_X5_isIn rfl rfl rfl (by decide +kernel) ⟨Nat.le_of_ble_eq_true rfl, Nat.le_of_ble_eq_true rfl⟩) ⟨fun a U g mk q => by obtain ⟨q0, q1, qP, qK, qD⟩ := q; exact ⟨q0, q1, qP, va_K.moved (u := U) (U := U.calling g mk a) (Vm.Alike.refl U.vm) qK, qD⟩, fun U hU hW => ⟨rfl, by rw [hU], by rw [hU]; exact hPc, va_K.moved hW.alike hKc, hDc.weaken (fun _ _ _ _ => trivial)⟩⟩ rfl rfl hl.1 rfl (lv_room (Nat.le_of_ble_eq_true rfl)) dX5_type_67 ⟨Nat.le_of_ble_eq_true rfl, Nat.le_of_ble_eq_true rfl⟩) hS (fun q _ h => hFc q h) hFc (fun r9 u t H1 locs ht hvm hw hB hz1 hk1 hS => ?_)
    obtain rfl := hw
    obtain ⟨hP1, hK1, hD1⟩ := hB
    rw [ht] at hP1
    have hK1 := va_K.moved hvm.symm hK1
    obtain ⟨hP, hD⟩ := va_join (wr := [(h0, .inr (9, [.int 0, .ref h1, .ref z0, .ref z1, .int 0, .int 0, .int 0])), (h1, .inl (k0, 4, .inr (.inr (.inr (.inr (va_up (va_up (va_up (va_up (fun _ => none) 0 (some ge5)) 1 (some ge5)) 2 (some ge5)) 3 (some ge5))))))), (h2, .inl (k1, 5, .inl (upd (upd (upd (upd (upd (fun _ => 0) 0 l1) 1 l2) 2 1) 3 l4) 4 l5))), (h3, .inr (0, [.ref h4, .int 0, .int 0, .int 0])), (h4, .inl (k2, 2, .inl f0))]) (w1 := []) hP hD [] [0, 1, 2, 3, 4] rfl rfl (by decide) (by decide) hk1 hFc hP1 hD1
    generalize H1 = H at hP hS ⊢
    have hP : va_P (dC, dI) vwCl [(h0, .inr (9, [.int 0, .ref h1, .ref z0, .ref z1, .int 0, .int 0, .int 0])), (h1, .inl (k0, 4, .inr (.inr (.inr (.inr (va_up (va_up (va_up (va_up (fun _ => none) 0 (some ge5)) 1 (some ge5)) 2 (some ge5)) 3 (some ge5))))))), (h2, .inl (k1, 5, .inl (upd (upd (upd (upd (upd (fun _ => 0) 0 l1) 1 l2) 2 1) 3 l4) 4 l5))), (h3, .inr (0, [.ref h4, .int 0, .int 0, .int 0])), (h4, .inl (k2, 2, .inl f0))] H := hP
    have hD : va_D A [(h0, .inr (9, [.int 0, .ref h1, .ref z0, .ref z1, .int 0, .int 0, .int 0])), (h1, .inl (k0, 4, .inr (.inr (.inr (.inr (va_up (va_up (va_up (va_up (fun _ => none) 0 (some ge5)) 1 (some ge5)) 2 (some ge5)) 3 (some ge5))))))), (h2, .inl (k1, 5, .inl (upd (upd (upd (upd (upd (fun _ => 0) 0 l1) 1 l2) 2 1) 3 l4) 4 l5))), (h3, .inr (0, [.ref h4, .int 0, .int 0, .int 0])), (h4, .inl (k2, 2, .inl f0))] := hD
    refine lv_if_ne (tgt := 77) hx hb dX5_type_70 (by decide) (fun _ => ?_) (fun c9 => absurd c9 (by decide))
    refine lv_iconst (v := 0) hx hb dX5_type_77 (by decide) ?_
    refine lv_ior hx hb dX5_type_78 ?_
    refine lv_topi (fun y101 ey101 => ?_)
    obtain rfl : y101 = 0 := ey101.trans (by decide)
    refine lv_istore (lv' := [(8, .int 0), (13, .int 1), (0, .ref h0), (1, .int rp), (7, .ref h2), (9, .ref h3), (10, .ref h2), (11, .int 5), (12, .int 2)]) hx hb dX5_type_79 hl (by decide) rfl (fun ls hl => ?_)
    refine lv_iload hx hb dX5_type_81 (lv_at hl 1 rfl) ?_
    refine lv_iconst (v := 0) hx hb dX5_type_83 (by decide) ?_
    refine lv_iconst (v := 3) hx hb dX5_type_84 (by decide) ?_
    have hPc := hP.sub (ws' := []) [] rfl
    have hDc := hD.sub (ws' := []) [] (by decide) rfl
    have hKc := hK.sub (tys' := []) [] rfl
    have hFc := va_free (wc := []) hD hS hA [] rfl
    refine va_calli (va_runS (As := [.int 1, .int 0, .int 3]) (rest := []) ⟨hx, hb, hml, hown, hts⟩ (kx_X5_isIn_10 l dC dI H.size) (cwS 3 hts gX5_type_X5_isIn rfl rfl rfl (by decide +kernel) ⟨Nat.le_of_ble_eq_true rfl, Nat.le_of_ble_eq_true rfl⟩) ⟨fun a U g mk q => by obtain ⟨q0, q1, qP, qK, qD⟩ := q; exact ⟨q0, q1, qP, va_K.moved (u := U) (U := U.calling g mk a) (Vm.Alike.refl U.vm) qK, qD⟩, fun U hU hW => ⟨rfl, by rw [hU], by rw [hU]; exact hPc, va_K.moved hW.alike hKc, hDc.weaken (fun _ _ _ _ => trivial)⟩⟩ rfl rfl hl.1 rfl (lv_room (Nat.le_of_ble_eq_true rfl)) dX5_type_85 ⟨Nat.le_of_ble_eq_true rfl, Nat.le_of_ble_eq_true rfl⟩) hS (fun q _ h => hFc q h) hFc (fun r9 u t H1 locs ht hvm hw hB hz1 hk1 hS => ?_)
    obtain rfl := hw
    obtain ⟨hP1, hK1, hD1⟩ := hB
    rw [ht] at hP1
    have hK1 := va_K.moved hvm.symm hK1
    obtain ⟨hP, hD⟩ := va_join (wr := [(h0, .inr (9, [.int 0, .ref h1, .ref z0, .ref z1, .int 0, .int 0, .int 0])), (h1, .inl (k0, 4, .inr (.inr (.inr (.inr (va_up (va_up (va_up (va_up (fun _ => none) 0 (some ge5)) 1 (some ge5)) 2 (some ge5)) 3 (some ge5))))))), (h2, .inl (k1, 5, .inl (upd (upd (upd (upd (upd (fun _ => 0) 0 l1) 1 l2) 2 1) 3 l4) 4 l5))), (h3, .inr (0, [.ref h4, .int 0, .int 0, .int 0])), (h4, .inl (k2, 2, .inl f0))]) (w1 := []) hP hD [] [0, 1, 2, 3, 4] rfl rfl (by decide) (by decide) hk1 hFc hP1 hD1
    generalize H1 = H at hP hS ⊢
    have hP : va_P (dC, dI) vwCl [(h0, .inr (9, [.int 0, .ref h1, .ref z0, .ref z1, .int 0, .int 0, .int 0])), (h1, .inl (k0, 4, .inr (.inr (.inr (.inr (va_up (va_up (va_up (va_up (fun _ => none) 0 (some ge5)) 1 (some ge5)) 2 (some ge5)) 3 (some ge5))))))), (h2, .inl (k1, 5, .inl (upd (upd (upd (upd (upd (fun _ => 0) 0 l1) 1 l2) 2 1) 3 l4) 4 l5))), (h3, .inr (0, [.ref h4, .int 0, .int 0, .int 0])), (h4, .inl (k2, 2, .inl f0))] H := hP
    have hD : va_D A [(h0, .inr (9, [.int 0, .ref h1, .ref z0, .ref z1, .int 0, .int 0, .int 0])), (h1, .inl (k0, 4, .inr (.inr (.inr (.inr (va_up (va_up (va_up (va_up (fun _ => none) 0 (some ge5)) 1 (some ge5)) 2 (some ge5)) 3 (some ge5))))))), (h2, .inl (k1, 5, .inl (upd (upd (upd (upd (upd (fun _ => 0) 0 l1) 1 l2) 2 1) 3 l4) 4 l5))), (h3, .inr (0, [.ref h4, .int 0, .int 0, .int 0])), (h4, .inl (k2, 2, .inl f0))] := hD
    refine lv_if_eq (tgt := 118) hx hb dX5_type_88 (by decide) (fun c9 => absurd c9 (by decide)) (fun _ => ?_)
    refine va_new (ci := 1) (fs := [.null, .int 0, .int 0, .int 0]) (C := RJ4) (T := TJ4) (N := 4) hx hb hts (by decide +kernel) tyJ4 tyJ4_ok hown (hts (.classLink RX5 49 RJ4) (by decide +kernel)) (hts (.instantiable RJ4 4) (by decide +kernel)) (hts (.initialized RJ4) (by decide +kernel)) hK hP hD hS hA rfl (fun j hj => by rcases (show j = 0 ∨ j = 1 ∨ j = 2 ∨ j = 3 by omega) with rfl | rfl | rfl | rfl <;> rfl) (Nat.le_of_ble_eq_true rfl) (Nat.le_of_ble_eq_true rfl) dX5_type_91 (fun q102 H hP hD hS => ?_)
    have hP : va_P (dC, dI) vwCl [(h0, .inr (9, [.int 0, .ref h1, .ref z0, .ref z1, .int 0, .int 0, .int 0])), (h1, .inl (k0, 4, .inr (.inr (.inr (.inr (va_up (va_up (va_up (va_up (fun _ => none) 0 (some ge5)) 1 (some ge5)) 2 (some ge5)) 3 (some ge5))))))), (h2, .inl (k1, 5, .inl (upd (upd (upd (upd (upd (fun _ => 0) 0 l1) 1 l2) 2 1) 3 l4) 4 l5))), (h3, .inr (0, [.ref h4, .int 0, .int 0, .int 0])), (h4, .inl (k2, 2, .inl f0)), (q102, .inr (1, [.null, .int 0, .int 0, .int 0]))] H := hP
    have hD : va_D A [(h0, .inr (9, [.int 0, .ref h1, .ref z0, .ref z1, .int 0, .int 0, .int 0])), (h1, .inl (k0, 4, .inr (.inr (.inr (.inr (va_up (va_up (va_up (va_up (fun _ => none) 0 (some ge5)) 1 (some ge5)) 2 (some ge5)) 3 (some ge5))))))), (h2, .inl (k1, 5, .inl (upd (upd (upd (upd (upd (fun _ => 0) 0 l1) 1 l2) 2 1) 3 l4) 4 l5))), (h3, .inr (0, [.ref h4, .int 0, .int 0, .int 0])), (h4, .inl (k2, 2, .inl f0)), (q102, .inr (1, [.null, .int 0, .int 0, .int 0]))] := hD
    refine W.widen (k := 10) (n := 60) (by omega) (by omega) ?_
    refine lv_dup hx hb dX5_type_94 rfl ?_
    have hPc := hP.sub (ws' := [(q102, .inr (1, [.null, .int 0, .int 0, .int 0]))]) [5] rfl
    have hDc := hD.sub (ws' := [(q102, .inr (1, [.null, .int 0, .int 0, .int 0]))]) [5] (by decide) rfl
    have hKc := hK.sub (tys' := []) [] rfl
    have hFc := va_free (wc := [(q102, .inr (1, [.null, .int 0, .int 0, .int 0]))]) hD hS hA [5] rfl
    refine va_callv (va_runI (As := []) (rest := [.ref q102]) ⟨hx, hb, hml, hown, hts⟩ (kx_J4_init_da8c8_0 l dC dI ge5 gea gv5 gva gde gic gi0 q102 H.size) (cwI 0 hts gX5_type_J4_init_da8c8 rfl rfl rfl (hts (.initialized RJ4) (by decide +kernel)) (hts (.methodLink RX5 51 yJ4_init_da8c8) (by decide +kernel)) (hts (.instanceMethod yJ4_init_da8c8) (by decide +kernel)) rfl (by decide +kernel) ⟨Nat.le_of_ble_eq_true rfl, Nat.le_of_ble_eq_true rfl⟩) ⟨fun a U g mk q => by obtain ⟨q0, q1, qP, qK, qD, qG⟩ := q; exact ⟨q0, q1, qP, va_K.moved (u := U) (U := U.calling g mk a) (Vm.Alike.refl U.vm) qK, qD, gv.fb qG⟩, fun U hU hW => ⟨rfl, by rw [hU], by rw [hU]; exact hPc, va_K.moved hW.alike hKc, hDc.weaken (fun _ _ _ _ => trivial), gv.pass hW hU hS hFc hG⟩⟩ rfl rfl hl.1 rfl (lv_room (Nat.le_of_ble_eq_true rfl)) dX5_type_95 ⟨Nat.le_of_ble_eq_true rfl, Nat.le_of_ble_eq_true rfl⟩) hS (fun q _ h => hFc q h) hFc (fun u t H1 locs ht hvm hw hB hz1 hk1 hS => ?_)
    obtain ⟨q103, cq104, hP1, hK1, hD1⟩ := hB
    rw [ht] at hP1
    have hK1 := va_K.moved hvm.symm hK1
    obtain ⟨hP, hD⟩ := va_join (wr := [(h0, .inr (9, [.int 0, .ref h1, .ref z0, .ref z1, .int 0, .int 0, .int 0])), (h1, .inl (k0, 4, .inr (.inr (.inr (.inr (va_up (va_up (va_up (va_up (fun _ => none) 0 (some ge5)) 1 (some ge5)) 2 (some ge5)) 3 (some ge5))))))), (h2, .inl (k1, 5, .inl (upd (upd (upd (upd (upd (fun _ => 0) 0 l1) 1 l2) 2 1) 3 l4) 4 l5))), (h3, .inr (0, [.ref h4, .int 0, .int 0, .int 0])), (h4, .inl (k2, 2, .inl f0))]) (w1 := [(q102, .inr (1, [.ref q103, .int 0, .int 0, .int 0])), (q103, .inl (cq104, 16, .inl (fun _ => 0)))]) hP hD [5] [0, 1, 2, 3, 4] rfl rfl (by decide) (by decide) hk1 hFc hP1 hD1
    have hK := hK.app (hK1.sub (tys' := [(cq104, .byte)]) [0] rfl)
    generalize H1 = H at hP hS ⊢
    have hK : va_K (dC, dI) vwCl [(k0, .object "java/lang/String"), (k1, .int), (k2, .byte), (cq104, .byte)] s := hK
    have hP : va_P (dC, dI) vwCl [(h0, .inr (9, [.int 0, .ref h1, .ref z0, .ref z1, .int 0, .int 0, .int 0])), (h1, .inl (k0, 4, .inr (.inr (.inr (.inr (va_up (va_up (va_up (va_up (fun _ => none) 0 (some ge5)) 1 (some ge5)) 2 (some ge5)) 3 (some ge5))))))), (h2, .inl (k1, 5, .inl (upd (upd (upd (upd (upd (fun _ => 0) 0 l1) 1 l2) 2 1) 3 l4) 4 l5))), (h3, .inr (0, [.ref h4, .int 0, .int 0, .int 0])), (h4, .inl (k2, 2, .inl f0)), (q102, .inr (1, [.ref q103, .int 0, .int 0, .int 0])), (q103, .inl (cq104, 16, .inl (fun _ => 0)))] H := hP
    have hD : va_D A [(h0, .inr (9, [.int 0, .ref h1, .ref z0, .ref z1, .int 0, .int 0, .int 0])), (h1, .inl (k0, 4, .inr (.inr (.inr (.inr (va_up (va_up (va_up (va_up (fun _ => none) 0 (some ge5)) 1 (some ge5)) 2 (some ge5)) 3 (some ge5))))))), (h2, .inl (k1, 5, .inl (upd (upd (upd (upd (upd (fun _ => 0) 0 l1) 1 l2) 2 1) 3 l4) 4 l5))), (h3, .inr (0, [.ref h4, .int 0, .int 0, .int 0])), (h4, .inl (k2, 2, .inl f0)), (q102, .inr (1, [.ref q103, .int 0, .int 0, .int 0])), (q103, .inl (cq104, 16, .inl (fun _ => 0)))] := hD
    refine W.widen (k := 11) (n := 76) (by omega) (by omega) ?_
    refine lv_aload hx hb dX5_type_98 (lv_at hl 5 rfl) ?_
    have hPc := hP.sub (ws' := [(h3, .inr (0, [.ref h4, .int 0, .int 0, .int 0])), (h4, .inl (k2, 2, .inl f0)), (q102, .inr (1, [.ref q103, .int 0, .int 0, .int 0])), (q103, .inl (cq104, 16, .inl (fun _ => 0)))]) [3, 4, 5, 6] rfl
    have hDc := hD.sub (ws' := [(h3, .inr (0, [.ref h4, .int 0, .int 0, .int 0])), (h4, .inl (k2, 2, .inl f0)), (q102, .inr (1, [.ref q103, .int 0, .int 0, .int 0])), (q103, .inl (cq104, 16, .inl (fun _ => 0)))]) [3, 4, 5, 6] (by decide) rfl
    have hKc := hK.sub (tys' := [(k2, .byte), (cq104, .byte)]) [2, 3] rfl
    have hFc := va_free (wc := [(h3, .inr (0, [.ref h4, .int 0, .int 0, .int 0])), (h4, .inl (k2, 2, .inl f0)), (q102, .inr (1, [.ref q103, .int 0, .int 0, .int 0])), (q103, .inl (cq104, 16, .inl (fun _ => 0)))]) hD hS hA [3, 4, 5, 6] rfl
    refine va_callr (va_runV (As := [.ref h3]) (rest := []) ⟨hx, hb, hml, hown, hts⟩ (kx_J4_append_15ec4_2 l dC dI ge5 gea gv5 gva gde gic gi0 h3 h4 q102 q103 k2 cq104 H.size f0 f0_t) (cwV 1 hts gX5_type_J4_append_15ec4 rfl rfl rfl (by decide +kernel) ⟨Nat.le_of_ble_eq_true rfl, Nat.le_of_ble_eq_true rfl⟩) ⟨fun a U g mk q => by obtain ⟨q0, q1, qP, qK, qD, qG⟩ := q; exact ⟨q0, q1, qP, va_K.moved (u := U) (U := U.calling g mk a) (Vm.Alike.refl U.vm) qK, qD, gv.fb qG⟩, va_recv hKc hPc (ci := 1) (q0 := 2) rfl rfl, fun U hU hW => ⟨rfl, by rw [hU], by rw [hU]; exact hPc, va_K.moved hW.alike hKc, hDc.weaken (fun _ _ _ _ => trivial), gv.pass hW hU hS hFc hG⟩⟩ rfl rfl hl.1 rfl (lv_room (Nat.le_of_ble_eq_true rfl)) dX5_type_100 ⟨Nat.le_of_ble_eq_true rfl, Nat.le_of_ble_eq_true rfl⟩) hS (fun q _ h => hFc q h) hFc (fun u ra t H1 locs ht hvm hw hB hz1 hk1 hS => ?_)
    obtain ⟨f105, f105_t, hra, hP1, hK1, hD1⟩ := hB
    rw [hra]
    rw [ht] at hP1
    have hK1 := va_K.moved hvm.symm hK1
    obtain ⟨hP, hD⟩ := va_join (wr := [(h0, .inr (9, [.int 0, .ref h1, .ref z0, .ref z1, .int 0, .int 0, .int 0])), (h1, .inl (k0, 4, .inr (.inr (.inr (.inr (va_up (va_up (va_up (va_up (fun _ => none) 0 (some ge5)) 1 (some ge5)) 2 (some ge5)) 3 (some ge5))))))), (h2, .inl (k1, 5, .inl (upd (upd (upd (upd (upd (fun _ => 0) 0 l1) 1 l2) 2 1) 3 l4) 4 l5)))]) (w1 := [(h3, .inr (0, [.ref h4, .int 0, .int 0, .int 0])), (h4, .inl (k2, 2, .inl f0)), (q102, .inr (1, [.ref q103, .int 0, .int 0, .int 2])), (q103, .inl (cq104, 16, .inl f105))]) hP hD [3, 4, 5, 6] [0, 1, 2] rfl rfl (by decide) (by decide) hk1 hFc hP1 hD1
    generalize H1 = H at hP hS ⊢
    have hP : va_P (dC, dI) vwCl [(h0, .inr (9, [.int 0, .ref h1, .ref z0, .ref z1, .int 0, .int 0, .int 0])), (h1, .inl (k0, 4, .inr (.inr (.inr (.inr (va_up (va_up (va_up (va_up (fun _ => none) 0 (some ge5)) 1 (some ge5)) 2 (some ge5)) 3 (some ge5))))))), (h2, .inl (k1, 5, .inl (upd (upd (upd (upd (upd (fun _ => 0) 0 l1) 1 l2) 2 1) 3 l4) 4 l5))), (h3, .inr (0, [.ref h4, .int 0, .int 0, .int 0])), (h4, .inl (k2, 2, .inl f0)), (q102, .inr (1, [.ref q103, .int 0, .int 0, .int 2])), (q103, .inl (cq104, 16, .inl f105))] H := hP
    have hD : va_D A [(h0, .inr (9, [.int 0, .ref h1, .ref z0, .ref z1, .int 0, .int 0, .int 0])), (h1, .inl (k0, 4, .inr (.inr (.inr (.inr (va_up (va_up (va_up (va_up (fun _ => none) 0 (some ge5)) 1 (some ge5)) 2 (some ge5)) 3 (some ge5))))))), (h2, .inl (k1, 5, .inl (upd (upd (upd (upd (upd (fun _ => 0) 0 l1) 1 l2) 2 1) 3 l4) 4 l5))), (h3, .inr (0, [.ref h4, .int 0, .int 0, .int 0])), (h4, .inl (k2, 2, .inl f0)), (q102, .inr (1, [.ref q103, .int 0, .int 0, .int 2])), (q103, .inl (cq104, 16, .inl f105))] := hD
    refine va_ldcS hx hb hown g_sa dX5_type_103 ?_
    refine lv_iload hx hb dX5_type_105 (lv_at hl 1 rfl) ?_
    have hPc := hP.sub (ws' := []) [] rfl
    have hDc := hD.sub (ws' := []) [] (by decide) rfl
    have hKc := hK.sub (tys' := []) [] rfl
    have hFc := va_free (wc := []) hD hS hA [] rfl
    refine va_calli (va_runV (As := [.int 1]) (rest := [.ref q102]) ⟨hx, hb, hml, hown, hts⟩ (kx_J0_charAt_5068e_1 l dC dI ge5 gea gv5 gva gde gic gi0 H.size) (cwV 1 hts gX5_type_J0_charAt_5068e rfl rfl rfl (by decide +kernel) ⟨Nat.le_of_ble_eq_true rfl, Nat.le_of_ble_eq_true rfl⟩) ⟨fun a U g mk q => by obtain ⟨q0, q1, qP, qK, qD, qG⟩ := q; exact ⟨q0, q1, qP, va_K.moved (u := U) (U := U.calling g mk a) (Vm.Alike.refl U.vm) qK, qD, gv.fb qG⟩, (by obtain ⟨cell, k1, k2, k3, -⟩ := g_oa.kept hS.2.1; exact ⟨cell, k1, k2, k3⟩), fun U hU hW => ⟨rfl, by rw [hU], by rw [hU]; exact hPc, va_K.moved hW.alike hKc, hDc.weaken (fun _ _ _ _ => trivial), gv.pass hW hU hS hFc hG⟩⟩ rfl rfl hl.1 rfl (lv_room (Nat.le_of_ble_eq_true rfl)) dX5_type_107 ⟨Nat.le_of_ble_eq_true rfl, Nat.le_of_ble_eq_true rfl⟩) hS (fun q _ h => hFc q h) hFc (fun r9 u t H1 locs ht hvm hw hB hz1 hk1 hS => ?_)
    obtain rfl := hw
    obtain ⟨hP1, hK1, hD1⟩ := hB
    rw [ht] at hP1
    have hK1 := va_K.moved hvm.symm hK1
    obtain ⟨hP, hD⟩ := va_join (wr := [(h0, .inr (9, [.int 0, .ref h1, .ref z0, .ref z1, .int 0, .int 0, .int 0])), (h1, .inl (k0, 4, .inr (.inr (.inr (.inr (va_up (va_up (va_up (va_up (fun _ => none) 0 (some ge5)) 1 (some ge5)) 2 (some ge5)) 3 (some ge5))))))), (h2, .inl (k1, 5, .inl (upd (upd (upd (upd (upd (fun _ => 0) 0 l1) 1 l2) 2 1) 3 l4) 4 l5))), (h3, .inr (0, [.ref h4, .int 0, .int 0, .int 0])), (h4, .inl (k2, 2, .inl f0)), (q102, .inr (1, [.ref q103, .int 0, .int 0, .int 2])), (q103, .inl (cq104, 16, .inl f105))]) (w1 := []) hP hD [] [0, 1, 2, 3, 4, 5, 6] rfl rfl (by decide) (by decide) hk1 hFc hP1 hD1
    generalize H1 = H at hP hS ⊢
    have hP : va_P (dC, dI) vwCl [(h0, .inr (9, [.int 0, .ref h1, .ref z0, .ref z1, .int 0, .int 0, .int 0])), (h1, .inl (k0, 4, .inr (.inr (.inr (.inr (va_up (va_up (va_up (va_up (fun _ => none) 0 (some ge5)) 1 (some ge5)) 2 (some ge5)) 3 (some ge5))))))), (h2, .inl (k1, 5, .inl (upd (upd (upd (upd (upd (fun _ => 0) 0 l1) 1 l2) 2 1) 3 l4) 4 l5))), (h3, .inr (0, [.ref h4, .int 0, .int 0, .int 0])), (h4, .inl (k2, 2, .inl f0)), (q102, .inr (1, [.ref q103, .int 0, .int 0, .int 2])), (q103, .inl (cq104, 16, .inl f105))] H := hP
    have hD : va_D A [(h0, .inr (9, [.int 0, .ref h1, .ref z0, .ref z1, .int 0, .int 0, .int 0])), (h1, .inl (k0, 4, .inr (.inr (.inr (.inr (va_up (va_up (va_up (va_up (fun _ => none) 0 (some ge5)) 1 (some ge5)) 2 (some ge5)) 3 (some ge5))))))), (h2, .inl (k1, 5, .inl (upd (upd (upd (upd (upd (fun _ => 0) 0 l1) 1 l2) 2 1) 3 l4) 4 l5))), (h3, .inr (0, [.ref h4, .int 0, .int 0, .int 0])), (h4, .inl (k2, 2, .inl f0)), (q102, .inr (1, [.ref q103, .int 0, .int 0, .int 2])), (q103, .inl (cq104, 16, .inl f105))] := hD
    have hPc := hP.sub (ws' := [(q102, .inr (1, [.ref q103, .int 0, .int 0, .int 2])), (q103, .inl (cq104, 16, .inl f105))]) [5, 6] rfl
    have hDc := hD.sub (ws' := [(q102, .inr (1, [.ref q103, .int 0, .int 0, .int 2])), (q103, .inl (cq104, 16, .inl f105))]) [5, 6] (by decide) rfl
    have hKc := hK.sub (tys' := [(cq104, .byte)]) [3] rfl
    have hFc := va_free (wc := [(q102, .inr (1, [.ref q103, .int 0, .int 0, .int 2])), (q103, .inl (cq104, 16, .inl f105))]) hD hS hA [5, 6] rfl
    refine va_callr (va_runV (As := [.int 98]) (rest := []) ⟨hx, hb, hml, hown, hts⟩ (kx_J4_append_cf468_9 l dC dI ge5 gea gv5 gva gde gic gi0 q102 q103 cq104 H.size f105 f105_t) (cwV 1 hts gX5_type_J4_append_cf468 rfl rfl rfl (by decide +kernel) ⟨Nat.le_of_ble_eq_true rfl, Nat.le_of_ble_eq_true rfl⟩) ⟨fun a U g mk q => by obtain ⟨q0, q1, qP, qK, qD, qG⟩ := q; exact ⟨q0, q1, qP, va_K.moved (u := U) (U := U.calling g mk a) (Vm.Alike.refl U.vm) qK, qD, gv.fb qG⟩, va_recv hKc hPc (ci := 1) (q0 := 0) rfl rfl, fun U hU hW => ⟨rfl, by rw [hU], by rw [hU]; exact hPc, va_K.moved hW.alike hKc, hDc.weaken (fun _ _ _ _ => trivial), gv.pass hW hU hS hFc hG⟩⟩ rfl rfl hl.1 rfl (lv_room (Nat.le_of_ble_eq_true rfl)) dX5_type_110 ⟨Nat.le_of_ble_eq_true rfl, Nat.le_of_ble_eq_true rfl⟩) hS (fun q _ h => hFc q h) hFc (fun u ra t H1 locs ht hvm hw hB hz1 hk1 hS => ?_)
    obtain ⟨f106, f106_t, hra, hP1, hK1, hD1⟩ := hB
    rw [hra]
    rw [ht] at hP1
    have hK1 := va_K.moved hvm.symm hK1
    obtain ⟨hP, hD⟩ := va_join (wr := [(h0, .inr (9, [.int 0, .ref h1, .ref z0, .ref z1, .int 0, .int 0, .int 0])), (h1, .inl (k0, 4, .inr (.inr (.inr (.inr (va_up (va_up (va_up (va_up (fun _ => none) 0 (some ge5)) 1 (some ge5)) 2 (some ge5)) 3 (some ge5))))))), (h2, .inl (k1, 5, .inl (upd (upd (upd (upd (upd (fun _ => 0) 0 l1) 1 l2) 2 1) 3 l4) 4 l5))), (h3, .inr (0, [.ref h4, .int 0, .int 0, .int 0])), (h4, .inl (k2, 2, .inl f0))]) (w1 := [(q102, .inr (1, [.ref q103, .int 0, .int 0, .int 3])), (q103, .inl (cq104, 16, .inl f106))]) hP hD [5, 6] [0, 1, 2, 3, 4] rfl rfl (by decide) (by decide) hk1 hFc hP1 hD1
    generalize H1 = H at hP hS ⊢
    have hP : va_P (dC, dI) vwCl [(h0, .inr (9, [.int 0, .ref h1, .ref z0, .ref z1, .int 0, .int 0, .int 0])), (h1, .inl (k0, 4, .inr (.inr (.inr (.inr (va_up (va_up (va_up (va_up (fun _ => none) 0 (some ge5)) 1 (some ge5)) 2 (some ge5)) 3 (some ge5))))))), (h2, .inl (k1, 5, .inl (upd (upd (upd (upd (upd (fun _ => 0) 0 l1) 1 l2) 2 1) 3 l4) 4 l5))), (h3, .inr (0, [.ref h4, .int 0, .int 0, .int 0])), (h4, .inl (k2, 2, .inl f0)), (q102, .inr (1, [.ref q103, .int 0, .int 0, .int 3])), (q103, .inl (cq104, 16, .inl f106))] H := hP
    have hD : va_D A [(h0, .inr (9, [.int 0, .ref h1, .ref z0, .ref z1, .int 0, .int 0, .int 0])), (h1, .inl (k0, 4, .inr (.inr (.inr (.inr (va_up (va_up (va_up (va_up (fun _ => none) 0 (some ge5)) 1 (some ge5)) 2 (some ge5)) 3 (some ge5))))))), (h2, .inl (k1, 5, .inl (upd (upd (upd (upd (upd (fun _ => 0) 0 l1) 1 l2) 2 1) 3 l4) 4 l5))), (h3, .inr (0, [.ref h4, .int 0, .int 0, .int 0])), (h4, .inl (k2, 2, .inl f0)), (q102, .inr (1, [.ref q103, .int 0, .int 0, .int 3])), (q103, .inl (cq104, 16, .inl f106))] := hD
    have hPc := hP.sub (ws' := [(q102, .inr (1, [.ref q103, .int 0, .int 0, .int 3])), (q103, .inl (cq104, 16, .inl f106))]) [5, 6] rfl
    have hDc := hD.sub (ws' := [(q102, .inr (1, [.ref q103, .int 0, .int 0, .int 3])), (q103, .inl (cq104, 16, .inl f106))]) [5, 6] (by decide) rfl
    have hKc := hK.sub (tys' := [(cq104, .byte)]) [3] rfl
    have hFc := va_free (wc := [(q102, .inr (1, [.ref q103, .int 0, .int 0, .int 3])), (q103, .inl (cq104, 16, .inl f106))]) hD hS hA [5, 6] rfl
    refine va_callr (va_runV (As := []) (rest := []) ⟨hx, hb, hml, hown, hts⟩ (kx_J4_toString_0e30d_3 l dC dI ge5 gea gv5 gva gde gic gi0 q102 q103 cq104 H.size f106 f106_t) (cwV 0 hts gX5_type_J4_toString_0e30d rfl rfl rfl (by decide +kernel) ⟨Nat.le_of_ble_eq_true rfl, Nat.le_of_ble_eq_true rfl⟩) ⟨fun a U g mk q => by obtain ⟨q0, q1, qP, qK, qD, qG⟩ := q; exact ⟨q0, q1, qP, va_K.moved (u := U) (U := U.calling g mk a) (Vm.Alike.refl U.vm) qK, qD, gv.fb qG⟩, va_recv hKc hPc (ci := 1) (q0 := 0) rfl rfl, fun U hU hW => ⟨rfl, by rw [hU], by rw [hU]; exact hPc, va_K.moved hW.alike hKc, hDc.weaken (fun _ _ _ _ => trivial), gv.pass hW hU hS hFc hG⟩⟩ rfl rfl hl.1 rfl (lv_room (Nat.le_of_ble_eq_true rfl)) dX5_type_113 ⟨Nat.le_of_ble_eq_true rfl, Nat.le_of_ble_eq_true rfl⟩) hS (fun q _ h => hFc q h) hFc (fun u ra t H1 locs ht hvm hw hB hz1 hk1 hS => ?_)
    obtain ⟨q107, q108, cq109, f110, f110_t, hra, hP1, hK1, hD1⟩ := hB
    rw [hra]
    rw [ht] at hP1
    have hK1 := va_K.moved hvm.symm hK1
    obtain ⟨hP, hD⟩ := va_join (wr := [(h0, .inr (9, [.int 0, .ref h1, .ref z0, .ref z1, .int 0, .int 0, .int 0])), (h1, .inl (k0, 4, .inr (.inr (.inr (.inr (va_up (va_up (va_up (va_up (fun _ => none) 0 (some ge5)) 1 (some ge5)) 2 (some ge5)) 3 (some ge5))))))), (h2, .inl (k1, 5, .inl (upd (upd (upd (upd (upd (fun _ => 0) 0 l1) 1 l2) 2 1) 3 l4) 4 l5))), (h3, .inr (0, [.ref h4, .int 0, .int 0, .int 0])), (h4, .inl (k2, 2, .inl f0))]) (w1 := [(q102, .inr (1, [.ref q103, .int 0, .int 0, .int 3])), (q103, .inl (cq104, 16, .inl f106)), (q107, .inr (0, [.ref q108, .int 0, .int 0, .int 0])), (q108, .inl (cq109, 3, .inl f110))]) hP hD [5, 6] [0, 1, 2, 3, 4] rfl rfl (by decide) (by decide) hk1 hFc hP1 hD1
    have hK := hK.app (hK1.sub (tys' := [(cq109, .byte)]) [1] rfl)
    generalize H1 = H at hP hS ⊢
    have hK : va_K (dC, dI) vwCl [(k0, .object "java/lang/String"), (k1, .int), (k2, .byte), (cq104, .byte), (cq109, .byte)] s := hK
    have hP : va_P (dC, dI) vwCl [(h0, .inr (9, [.int 0, .ref h1, .ref z0, .ref z1, .int 0, .int 0, .int 0])), (h1, .inl (k0, 4, .inr (.inr (.inr (.inr (va_up (va_up (va_up (va_up (fun _ => none) 0 (some ge5)) 1 (some ge5)) 2 (some ge5)) 3 (some ge5))))))), (h2, .inl (k1, 5, .inl (upd (upd (upd (upd (upd (fun _ => 0) 0 l1) 1 l2) 2 1) 3 l4) 4 l5))), (h3, .inr (0, [.ref h4, .int 0, .int 0, .int 0])), (h4, .inl (k2, 2, .inl f0)), (q102, .inr (1, [.ref q103, .int 0, .int 0, .int 3])), (q103, .inl (cq104, 16, .inl f106)), (q107, .inr (0, [.ref q108, .int 0, .int 0, .int 0])), (q108, .inl (cq109, 3, .inl f110))] H := hP
    have hD : va_D A [(h0, .inr (9, [.int 0, .ref h1, .ref z0, .ref z1, .int 0, .int 0, .int 0])), (h1, .inl (k0, 4, .inr (.inr (.inr (.inr (va_up (va_up (va_up (va_up (fun _ => none) 0 (some ge5)) 1 (some ge5)) 2 (some ge5)) 3 (some ge5))))))), (h2, .inl (k1, 5, .inl (upd (upd (upd (upd (upd (fun _ => 0) 0 l1) 1 l2) 2 1) 3 l4) 4 l5))), (h3, .inr (0, [.ref h4, .int 0, .int 0, .int 0])), (h4, .inl (k2, 2, .inl f0)), (q102, .inr (1, [.ref q103, .int 0, .int 0, .int 3])), (q103, .inl (cq104, 16, .inl f106)), (q107, .inr (0, [.ref q108, .int 0, .int 0, .int 0])), (q108, .inl (cq109, 3, .inl f110))] := hD
    refine W.widen (k := 13) (n := 83) (by omega) (by omega) ?_
    refine lv_astore (lv' := [(9, .ref q107), (8, .int 0), (13, .int 1), (0, .ref h0), (1, .int rp), (7, .ref h2), (10, .ref h2), (11, .int 5), (12, .int 2)]) hx hb dX5_type_116 hl (by decide) rfl (fun ls hl => ?_)
    refine lv_iinc (v := 3) (lv' := [(12, .int 3), (9, .ref q107), (8, .int 0), (13, .int 1), (0, .ref h0), (1, .int rp), (7, .ref h2), (10, .ref h2), (11, .int 5)]) hx hb dX5_type_118 hl (k := 8) rfl (by decide) (by decide) rfl (fun ls hl => ?_)
    refine lv_goto (tgt := 47) hx hb dX5_type_121 (by decide) ?_
    have hP := hP.sub (ws' := [(h0, .inr (9, [.int 0, .ref h1, .ref z0, .ref z1, .int 0, .int 0, .int 0])), (h1, .inl (k0, 4, .inr (.inr (.inr (.inr (va_up (va_up (va_up (va_up (fun _ => none) 0 (some ge5)) 1 (some ge5)) 2 (some ge5)) 3 (some ge5))))))), (h2, .inl (k1, 5, .inl (upd (upd (upd (upd (upd (fun _ => 0) 0 l1) 1 l2) 2 1) 3 l4) 4 l5))), (q107, .inr (0, [.ref q108, .int 0, .int 0, .int 0])), (q108, .inl (cq109, 3, .inl f110))]) [0, 1, 2, 7, 8] rfl
    have hD := hD.sub (ws' := [(h0, .inr (9, [.int 0, .ref h1, .ref z0, .ref z1, .int 0, .int 0, .int 0])), (h1, .inl (k0, 4, .inr (.inr (.inr (.inr (va_up (va_up (va_up (va_up (fun _ => none) 0 (some ge5)) 1 (some ge5)) 2 (some ge5)) 3 (some ge5))))))), (h2, .inl (k1, 5, .inl (upd (upd (upd (upd (upd (fun _ => 0) 0 l1) 1 l2) 2 1) 3 l4) 4 l5))), (q107, .inr (0, [.ref q108, .int 0, .int 0, .int 0])), (q108, .inl (cq109, 3, .inl f110))]) [0, 1, 2, 7, 8] (by decide) rfl
    have hK := hK.sub (tys' := [(k0, .object "java/lang/String"), (k1, .int), (cq109, .byte)]) [0, 1, 4] rfl
    have hl := lv_sub hl [4, 5, 6, 2, 1, 7, 8, 0] (show lv_pick [(12, .int 3), (9, .ref q107), (8, .int 0), (13, .int 1), (0, .ref h0), (1, .int rp), (7, .ref h2), (10, .ref h2), (11, .int 5)] [4, 5, 6, 2, 1, 7, 8, 0] = [(0, .ref h0), (1, .int rp), (7, .ref h2), (8, .int 0), (9, .ref q107), (10, .ref h2), (11, .int 5), (12, .int 3)] from rfl)
    exact kx_X5_type_h330 f110_t hR hx hb hr hml hown hts hlocks hA hG hS hK hP hD hl
  · have hR : kz_ty rp 3 0 [l4, l5] = (R, v) := (kz_ty_g (by decide) (by decide)).symm.trans hR
    refine lv_iload hx hb dX5_type_47 (lv_at hl 7 rfl) ?_
    refine lv_iload hx hb dX5_type_49 (lv_at hl 6 rfl) ?_
    refine lv_icmp_ge (tgt := 124) hx hb dX5_type_51 (by decide) (fun c9 => absurd c9 (by decide)) (fun _ => ?_)
    refine lv_aload hx hb dX5_type_54 (lv_at hl 5 rfl) ?_
    refine lv_iload hx hb dX5_type_56 (lv_at hl 7 rfl) ?_
    refine va_iald (D := (dC, dI)) hx hb hK hP 2 1 rfl rfl (by unfold vp_in; decide) dX5_type_58 ?_
    refine W.eq (g2 := F0 m 59 ls [.int 2]) rfl ?_
    refine lv_istore (lv' := [(13, .int 2), (0, .ref h0), (1, .int rp), (7, .ref h2), (8, .int 0), (9, .ref h3), (10, .ref h2), (11, .int 5), (12, .int 2)]) hx hb dX5_type_59 hl (by decide) rfl (fun ls hl => ?_)
    refine lv_iload hx hb dX5_type_61 (lv_at hl 4 rfl) ?_
    refine lv_iload hx hb dX5_type_63 (lv_at hl 0 rfl) ?_
    refine lv_iconst (v := (-1)) hx hb dX5_type_65 (by decide) ?_
    refine lv_iconst (v := 3) hx hb dX5_type_66 (by decide) ?_
    have hPc := hP.sub (ws' := []) [] rfl
    have hDc := hD.sub (ws' := []) [] (by decide) rfl
    have hKc := hK.sub (tys' := []) [] rfl
    have hFc := va_free (wc := []) hD hS hA [] rfl
    refine va_calli (va_runS (As := [.int 2, .int (-1), .int 3]) (rest := [.int 0]) ⟨hx, hb, hml, hown, hts⟩ (kx_X5_isIn_11 l dC dI H.size) (cwS 3 hts gX5_type_X5_isIn rfl rfl rfl (by decide +kernel) ⟨Nat.le_of_ble_eq_true rfl, Nat.le_of_ble_eq_true rfl⟩) ⟨fun a U g mk q => by obtain ⟨q0, q1, qP, qK, qD⟩ := q; exact ⟨q0, q1, qP, va_K.moved (u := U) (U := U.calling g mk a) (Vm.Alike.refl U.vm) qK, qD⟩, fun U hU hW => ⟨rfl, by rw [hU], by rw [hU]; exact hPc, va_K.moved hW.alike hKc, hDc.weaken (fun _ _ _ _ => trivial)⟩⟩ rfl rfl hl.1 rfl (lv_room (Nat.le_of_ble_eq_true rfl)) dX5_type_67 ⟨Nat.le_of_ble_eq_true rfl, Nat.le_of_ble_eq_true rfl⟩) hS (fun q _ h => hFc q h) hFc (fun r9 u t H1 locs ht hvm hw hB hz1 hk1 hS => ?_)
    obtain rfl := hw
    obtain ⟨hP1, hK1, hD1⟩ := hB
    rw [ht] at hP1
    have hK1 := va_K.moved hvm.symm hK1
    obtain ⟨hP, hD⟩ := va_join (wr := [(h0, .inr (9, [.int 0, .ref h1, .ref z0, .ref z1, .int 0, .int 0, .int 0])), (h1, .inl (k0, 4, .inr (.inr (.inr (.inr (va_up (va_up (va_up (va_up (fun _ => none) 0 (some ge5)) 1 (some ge5)) 2 (some ge5)) 3 (some ge5))))))), (h2, .inl (k1, 5, .inl (upd (upd (upd (upd (upd (fun _ => 0) 0 l1) 1 l2) 2 2) 3 l4) 4 l5))), (h3, .inr (0, [.ref h4, .int 0, .int 0, .int 0])), (h4, .inl (k2, 2, .inl f0))]) (w1 := []) hP hD [] [0, 1, 2, 3, 4] rfl rfl (by decide) (by decide) hk1 hFc hP1 hD1
    generalize H1 = H at hP hS ⊢
    have hP : va_P (dC, dI) vwCl [(h0, .inr (9, [.int 0, .ref h1, .ref z0, .ref z1, .int 0, .int 0, .int 0])), (h1, .inl (k0, 4, .inr (.inr (.inr (.inr (va_up (va_up (va_up (va_up (fun _ => none) 0 (some ge5)) 1 (some ge5)) 2 (some ge5)) 3 (some ge5))))))), (h2, .inl (k1, 5, .inl (upd (upd (upd (upd (upd (fun _ => 0) 0 l1) 1 l2) 2 2) 3 l4) 4 l5))), (h3, .inr (0, [.ref h4, .int 0, .int 0, .int 0])), (h4, .inl (k2, 2, .inl f0))] H := hP
    have hD : va_D A [(h0, .inr (9, [.int 0, .ref h1, .ref z0, .ref z1, .int 0, .int 0, .int 0])), (h1, .inl (k0, 4, .inr (.inr (.inr (.inr (va_up (va_up (va_up (va_up (fun _ => none) 0 (some ge5)) 1 (some ge5)) 2 (some ge5)) 3 (some ge5))))))), (h2, .inl (k1, 5, .inl (upd (upd (upd (upd (upd (fun _ => 0) 0 l1) 1 l2) 2 2) 3 l4) 4 l5))), (h3, .inr (0, [.ref h4, .int 0, .int 0, .int 0])), (h4, .inl (k2, 2, .inl f0))] := hD
    refine lv_if_ne (tgt := 77) hx hb dX5_type_70 (by decide) (fun _ => ?_) (fun c9 => absurd c9 (by decide))
    refine lv_iconst (v := 0) hx hb dX5_type_77 (by decide) ?_
    refine lv_ior hx hb dX5_type_78 ?_
    refine lv_topi (fun y101 ey101 => ?_)
    obtain rfl : y101 = 0 := ey101.trans (by decide)
    refine lv_istore (lv' := [(8, .int 0), (13, .int 2), (0, .ref h0), (1, .int rp), (7, .ref h2), (9, .ref h3), (10, .ref h2), (11, .int 5), (12, .int 2)]) hx hb dX5_type_79 hl (by decide) rfl (fun ls hl => ?_)
    refine lv_iload hx hb dX5_type_81 (lv_at hl 1 rfl) ?_
    refine lv_iconst (v := 0) hx hb dX5_type_83 (by decide) ?_
    refine lv_iconst (v := 3) hx hb dX5_type_84 (by decide) ?_
    have hPc := hP.sub (ws' := []) [] rfl
    have hDc := hD.sub (ws' := []) [] (by decide) rfl
    have hKc := hK.sub (tys' := []) [] rfl
    have hFc := va_free (wc := []) hD hS hA [] rfl
    refine va_calli (va_runS (As := [.int 2, .int 0, .int 3]) (rest := []) ⟨hx, hb, hml, hown, hts⟩ (kx_X5_isIn_12 l dC dI H.size) (cwS 3 hts gX5_type_X5_isIn rfl rfl rfl (by decide +kernel) ⟨Nat.le_of_ble_eq_true rfl, Nat.le_of_ble_eq_true rfl⟩) ⟨fun a U g mk q => by obtain ⟨q0, q1, qP, qK, qD⟩ := q; exact ⟨q0, q1, qP, va_K.moved (u := U) (U := U.calling g mk a) (Vm.Alike.refl U.vm) qK, qD⟩, fun U hU hW => ⟨rfl, by rw [hU], by rw [hU]; exact hPc, va_K.moved hW.alike hKc, hDc.weaken (fun _ _ _ _ => trivial)⟩⟩ rfl rfl hl.1 rfl (lv_room (Nat.le_of_ble_eq_true rfl)) dX5_type_85 ⟨Nat.le_of_ble_eq_true rfl, Nat.le_of_ble_eq_true rfl⟩) hS (fun q _ h => hFc q h) hFc (fun r9 u t H1 locs ht hvm hw hB hz1 hk1 hS => ?_)
    obtain rfl := hw
    obtain ⟨hP1, hK1, hD1⟩ := hB
    rw [ht] at hP1
    have hK1 := va_K.moved hvm.symm hK1
    obtain ⟨hP, hD⟩ := va_join (wr := [(h0, .inr (9, [.int 0, .ref h1, .ref z0, .ref z1, .int 0, .int 0, .int 0])), (h1, .inl (k0, 4, .inr (.inr (.inr (.inr (va_up (va_up (va_up (va_up (fun _ => none) 0 (some ge5)) 1 (some ge5)) 2 (some ge5)) 3 (some ge5))))))), (h2, .inl (k1, 5, .inl (upd (upd (upd (upd (upd (fun _ => 0) 0 l1) 1 l2) 2 2) 3 l4) 4 l5))), (h3, .inr (0, [.ref h4, .int 0, .int 0, .int 0])), (h4, .inl (k2, 2, .inl f0))]) (w1 := []) hP hD [] [0, 1, 2, 3, 4] rfl rfl (by decide) (by decide) hk1 hFc hP1 hD1
    generalize H1 = H at hP hS ⊢
    have hP : va_P (dC, dI) vwCl [(h0, .inr (9, [.int 0, .ref h1, .ref z0, .ref z1, .int 0, .int 0, .int 0])), (h1, .inl (k0, 4, .inr (.inr (.inr (.inr (va_up (va_up (va_up (va_up (fun _ => none) 0 (some ge5)) 1 (some ge5)) 2 (some ge5)) 3 (some ge5))))))), (h2, .inl (k1, 5, .inl (upd (upd (upd (upd (upd (fun _ => 0) 0 l1) 1 l2) 2 2) 3 l4) 4 l5))), (h3, .inr (0, [.ref h4, .int 0, .int 0, .int 0])), (h4, .inl (k2, 2, .inl f0))] H := hP
    have hD : va_D A [(h0, .inr (9, [.int 0, .ref h1, .ref z0, .ref z1, .int 0, .int 0, .int 0])), (h1, .inl (k0, 4, .inr (.inr (.inr (.inr (va_up (va_up (va_up (va_up (fun _ => none) 0 (some ge5)) 1 (some ge5)) 2 (some ge5)) 3 (some ge5))))))), (h2, .inl (k1, 5, .inl (upd (upd (upd (upd (upd (fun _ => 0) 0 l1) 1 l2) 2 2) 3 l4) 4 l5))), (h3, .inr (0, [.ref h4, .int 0, .int 0, .int 0])), (h4, .inl (k2, 2, .inl f0))] := hD
    refine lv_if_eq (tgt := 118) hx hb dX5_type_88 (by decide) (fun c9 => absurd c9 (by decide)) (fun _ => ?_)
    refine va_new (ci := 1) (fs := [.null, .int 0, .int 0, .int 0]) (C := RJ4) (T := TJ4) (N := 4) hx hb hts (by decide +kernel) tyJ4 tyJ4_ok hown (hts (.classLink RX5 49 RJ4) (by decide +kernel)) (hts (.instantiable RJ4 4) (by decide +kernel)) (hts (.initialized RJ4) (by decide +kernel)) hK hP hD hS hA rfl (fun j hj => by rcases (show j = 0 ∨ j = 1 ∨ j = 2 ∨ j = 3 by omega) with rfl | rfl | rfl | rfl <;> rfl) (Nat.le_of_ble_eq_true rfl) (Nat.le_of_ble_eq_true rfl) dX5_type_91 (fun q102 H hP hD hS => ?_)
    have hP : va_P (dC, dI) vwCl [(h0, .inr (9, [.int 0, .ref h1, .ref z0, .ref z1, .int 0, .int 0, .int 0])), (h1, .inl (k0, 4, .inr (.inr (.inr (.inr (va_up (va_up (va_up (va_up (fun _ => none) 0 (some ge5)) 1 (some ge5)) 2 (some ge5)) 3 (some ge5))))))), (h2, .inl (k1, 5, .inl (upd (upd (upd (upd (upd (fun _ => 0) 0 l1) 1 l2) 2 2) 3 l4) 4 l5))), (h3, .inr (0, [.ref h4, .int 0, .int 0, .int 0])), (h4, .inl (k2, 2, .inl f0)), (q102, .inr (1, [.null, .int 0, .int 0, .int 0]))] H := hP
    have hD : va_D A [(h0, .inr (9, [.int 0, .ref h1, .ref z0, .ref z1, .int 0, .int 0, .int 0])), (h1, .inl (k0, 4, .inr (.inr (.inr (.inr (va_up (va_up (va_up (va_up (fun _ => none) 0 (some ge5)) 1 (some ge5)) 2 (some ge5)) 3 (some ge5))))))), (h2, .inl (k1, 5, .inl (upd (upd (upd (upd (upd (fun _ => 0) 0 l1) 1 l2) 2 2) 3 l4) 4 l5))), (h3, .inr (0, [.ref h4, .int 0, .int 0, .int 0])), (h4, .inl (k2, 2, .inl f0)), (q102, .inr (1, [.null, .int 0, .int 0, .int 0]))] := hD
    refine W.widen (k := 10) (n := 60) (by omega) (by omega) ?_
    refine lv_dup hx hb dX5_type_94 rfl ?_
    have hPc := hP.sub (ws' := [(q102, .inr (1, [.null, .int 0, .int 0, .int 0]))]) [5] rfl
    have hDc := hD.sub (ws' := [(q102, .inr (1, [.null, .int 0, .int 0, .int 0]))]) [5] (by decide) rfl
    have hKc := hK.sub (tys' := []) [] rfl
    have hFc := va_free (wc := [(q102, .inr (1, [.null, .int 0, .int 0, .int 0]))]) hD hS hA [5] rfl
    refine va_callv (va_runI (As := []) (rest := [.ref q102]) ⟨hx, hb, hml, hown, hts⟩ (kx_J4_init_da8c8_0 l dC dI ge5 gea gv5 gva gde gic gi0 q102 H.size) (cwI 0 hts gX5_type_J4_init_da8c8 rfl rfl rfl (hts (.initialized RJ4) (by decide +kernel)) (hts (.methodLink RX5 51 yJ4_init_da8c8) (by decide +kernel)) (hts (.instanceMethod yJ4_init_da8c8) (by decide +kernel)) rfl (by decide +kernel) ⟨Nat.le_of_ble_eq_true rfl, Nat.le_of_ble_eq_true rfl⟩) ⟨fun a U g mk q => by obtain ⟨q0, q1, qP, qK, qD, qG⟩ := q; exact ⟨q0, q1, qP, va_K.moved (u := U) (U := U.calling g mk a) (Vm.Alike.refl U.vm) qK, qD, gv.fb qG⟩, fun U hU hW => ⟨rfl, by rw [hU], by rw [hU]; exact hPc, va_K.moved hW.alike hKc, hDc.weaken (fun _ _ _ _ => trivial), gv.pass hW hU hS hFc hG⟩⟩ rfl rfl hl.1 rfl (lv_room (Nat.le_of_ble_eq_true rfl)) dX5_type_95 ⟨Nat.le_of_ble_eq_true rfl, Nat.le_of_ble_eq_true rfl⟩) hS (fun q _ h => hFc q h) hFc (fun u t H1 locs ht hvm hw hB hz1 hk1 hS => ?_)
    obtain ⟨q103, cq104, hP1, hK1, hD1⟩ := hB
    rw [ht] at hP1
    have hK1 := va_K.moved hvm.symm hK1
    obtain ⟨hP, hD⟩ := va_join (wr := [(h0, .inr (9, [.int 0, .ref h1, .ref z0, .ref z1, .int 0, .int 0, .int 0])), (h1, .inl (k0, 4, .inr (.inr (.inr (.inr (va_up (va_up (va_up (va_up (fun _ => none) 0 (some ge5)) 1 (some ge5)) 2 (some ge5)) 3 (some ge5))))))), (h2, .inl (k1, 5, .inl (upd (upd (upd (upd (upd (fun _ => 0) 0 l1) 1 l2) 2 2) 3 l4) 4 l5))), (h3, .inr (0, [.ref h4, .int 0, .int 0, .int 0])), (h4, .inl (k2, 2, .inl f0))]) (w1 := [(q102, .inr (1, [.ref q103, .int 0, .int 0, .int 0])), (q103, .inl (cq104, 16, .inl (fun _ => 0)))]) hP hD [5] [0, 1, 2, 3, 4] rfl rfl (by decide) (by decide) hk1 hFc hP1 hD1
    have hK := hK.app (hK1.sub (tys' := [(cq104, .byte)]) [0] rfl)
    generalize H1 = H at hP hS ⊢
    have hK : va_K (dC, dI) vwCl [(k0, .object "java/lang/String"), (k1, .int), (k2, .byte), (cq104, .byte)] s := hK
    have hP : va_P (dC, dI) vwCl [(h0, .inr (9, [.int 0, .ref h1, .ref z0, .ref z1, .int 0, .int 0, .int 0])), (h1, .inl (k0, 4, .inr (.inr (.inr (.inr (va_up (va_up (va_up (va_up (fun _ => none) 0 (some ge5)) 1 (some ge5)) 2 (some ge5)) 3 (some ge5))))))), (h2, .inl (k1, 5, .inl (upd (upd (upd (upd (upd (fun _ => 0) 0 l1) 1 l2) 2 2) 3 l4) 4 l5))), (h3, .inr (0, [.ref h4, .int 0, .int 0, .int 0])), (h4, .inl (k2, 2, .inl f0)), (q102, .inr (1, [.ref q103, .int 0, .int 0, .int 0])), (q103, .inl (cq104, 16, .inl (fun _ => 0)))] H := hP
    have hD : va_D A [(h0, .inr (9, [.int 0, .ref h1, .ref z0, .ref z1, .int 0, .int 0, .int 0])), (h1, .inl (k0, 4, .inr (.inr (.inr (.inr (va_up (va_up (va_up (va_up (fun _ => none) 0 (some ge5)) 1 (some ge5)) 2 (some ge5)) 3 (some ge5))))))), (h2, .inl (k1, 5, .inl (upd (upd (upd (upd (upd (fun _ => 0) 0 l1) 1 l2) 2 2) 3 l4) 4 l5))), (h3, .inr (0, [.ref h4, .int 0, .int 0, .int 0])), (h4, .inl (k2, 2, .inl f0)), (q102, .inr (1, [.ref q103, .int 0, .int 0, .int 0])), (q103, .inl (cq104, 16, .inl (fun _ => 0)))] := hD
    refine W.widen (k := 11) (n := 76) (by omega) (by omega) ?_
    refine lv_aload hx hb dX5_type_98 (lv_at hl 5 rfl) ?_
    have hPc := hP.sub (ws' := [(h3, .inr (0, [.ref h4, .int 0, .int 0, .int 0])), (h4, .inl (k2, 2, .inl f0)), (q102, .inr (1, [.ref q103, .int 0, .int 0, .int 0])), (q103, .inl (cq104, 16, .inl (fun _ => 0)))]) [3, 4, 5, 6] rfl
    have hDc := hD.sub (ws' := [(h3, .inr (0, [.ref h4, .int 0, .int 0, .int 0])), (h4, .inl (k2, 2, .inl f0)), (q102, .inr (1, [.ref q103, .int 0, .int 0, .int 0])), (q103, .inl (cq104, 16, .inl (fun _ => 0)))]) [3, 4, 5, 6] (by decide) rfl
    have hKc := hK.sub (tys' := [(k2, .byte), (cq104, .byte)]) [2, 3] rfl
    have hFc := va_free (wc := [(h3, .inr (0, [.ref h4, .int 0, .int 0, .int 0])), (h4, .inl (k2, 2, .inl f0)), (q102, .inr (1, [.ref q103, .int 0, .int 0, .int 0])), (q103, .inl (cq104, 16, .inl (fun _ => 0)))]) hD hS hA [3, 4, 5, 6] rfl
    refine va_callr (va_runV (As := [.ref h3]) (rest := []) ⟨hx, hb, hml, hown, hts⟩ (kx_J4_append_15ec4_2 l dC dI ge5 gea gv5 gva gde gic gi0 h3 h4 q102 q103 k2 cq104 H.size f0 f0_t) (cwV 1 hts gX5_type_J4_append_15ec4 rfl rfl rfl (by decide +kernel) ⟨Nat.le_of_ble_eq_true rfl, Nat.le_of_ble_eq_true rfl⟩) ⟨fun a U g mk q => by obtain ⟨q0, q1, qP, qK, qD, qG⟩ := q; exact ⟨q0, q1, qP, va_K.moved (u := U) (U := U.calling g mk a) (Vm.Alike.refl U.vm) qK, qD, gv.fb qG⟩, va_recv hKc hPc (ci := 1) (q0 := 2) rfl rfl, fun U hU hW => ⟨rfl, by rw [hU], by rw [hU]; exact hPc, va_K.moved hW.alike hKc, hDc.weaken (fun _ _ _ _ => trivial), gv.pass hW hU hS hFc hG⟩⟩ rfl rfl hl.1 rfl (lv_room (Nat.le_of_ble_eq_true rfl)) dX5_type_100 ⟨Nat.le_of_ble_eq_true rfl, Nat.le_of_ble_eq_true rfl⟩) hS (fun q _ h => hFc q h) hFc (fun u ra t H1 locs ht hvm hw hB hz1 hk1 hS => ?_)
    obtain ⟨f105, f105_t, hra, hP1, hK1, hD1⟩ := hB
    rw [hra]
    rw [ht] at hP1
    have hK1 := va_K.moved hvm.symm hK1
    obtain ⟨hP, hD⟩ := va_join (wr := [(h0, .inr (9, [.int 0, .ref h1, .ref z0, .ref z1, .int 0, .int 0, .int 0])), (h1, .inl (k0, 4, .inr (.inr (.inr (.inr (va_up (va_up (va_up (va_up (fun _ => none) 0 (some ge5)) 1 (some ge5)) 2 (some ge5)) 3 (some ge5))))))), (h2, .inl (k1, 5, .inl (upd (upd (upd (upd (upd (fun _ => 0) 0 l1) 1 l2) 2 2) 3 l4) 4 l5)))]) (w1 := [(h3, .inr (0, [.ref h4, .int 0, .int 0, .int 0])), (h4, .inl (k2, 2, .inl f0)), (q102, .inr (1, [.ref q103, .int 0, .int 0, .int 2])), (q103, .inl (cq104, 16, .inl f105))]) hP hD [3, 4, 5, 6] [0, 1, 2] rfl rfl (by decide) (by decide) hk1 hFc hP1 hD1
    generalize H1 = H at hP hS ⊢
    have hP : va_P (dC, dI) vwCl [(h0, .inr (9, [.int 0, .ref h1, .ref z0, .ref z1, .int 0, .int 0, .int 0])), (h1, .inl (k0, 4, .inr (.inr (.inr (.inr (va_up (va_up (va_up (va_up (fun _ => none) 0 (some ge5)) 1 (some ge5)) 2 (some ge5)) 3 (some ge5))))))), (h2, .inl (k1, 5, .inl (upd (upd (upd (upd (upd (fun _ => 0) 0 l1) 1 l2) 2 2) 3 l4) 4 l5))), (h3, .inr (0, [.ref h4, .int 0, .int 0, .int 0])), (h4, .inl (k2, 2, .inl f0)), (q102, .inr (1, [.ref q103, .int 0, .int 0, .int 2])), (q103, .inl (cq104, 16, .inl f105))] H := hP
    have hD : va_D A [(h0, .inr (9, [.int 0, .ref h1, .ref z0, .ref z1, .int 0, .int 0, .int 0])), (h1, .inl (k0, 4, .inr (.inr (.inr (.inr (va_up (va_up (va_up (va_up (fun _ => none) 0 (some ge5)) 1 (some ge5)) 2 (some ge5)) 3 (some ge5))))))), (h2, .inl (k1, 5, .inl (upd (upd (upd (upd (upd (fun _ => 0) 0 l1) 1 l2) 2 2) 3 l4) 4 l5))), (h3, .inr (0, [.ref h4, .int 0, .int 0, .int 0])), (h4, .inl (k2, 2, .inl f0)), (q102, .inr (1, [.ref q103, .int 0, .int 0, .int 2])), (q103, .inl (cq104, 16, .inl f105))] := hD
    refine va_ldcS hx hb hown g_sa dX5_type_103 ?_
    refine lv_iload hx hb dX5_type_105 (lv_at hl 1 rfl) ?_
    have hPc := hP.sub (ws' := []) [] rfl
    have hDc := hD.sub (ws' := []) [] (by decide) rfl
    have hKc := hK.sub (tys' := []) [] rfl
    have hFc := va_free (wc := []) hD hS hA [] rfl
    refine va_calli (va_runV (As := [.int 2]) (rest := [.ref q102]) ⟨hx, hb, hml, hown, hts⟩ (kx_J0_charAt_5068e_2 l dC dI ge5 gea gv5 gva gde gic gi0 H.size) (cwV 1 hts gX5_type_J0_charAt_5068e rfl rfl rfl (by decide +kernel) ⟨Nat.le_of_ble_eq_true rfl, Nat.le_of_ble_eq_true rfl⟩) ⟨fun a U g mk q => by obtain ⟨q0, q1, qP, qK, qD, qG⟩ := q; exact ⟨q0, q1, qP, va_K.moved (u := U) (U := U.calling g mk a) (Vm.Alike.refl U.vm) qK, qD, gv.fb qG⟩, (by obtain ⟨cell, k1, k2, k3, -⟩ := g_oa.kept hS.2.1; exact ⟨cell, k1, k2, k3⟩), fun U hU hW => ⟨rfl, by rw [hU], by rw [hU]; exact hPc, va_K.moved hW.alike hKc, hDc.weaken (fun _ _ _ _ => trivial), gv.pass hW hU hS hFc hG⟩⟩ rfl rfl hl.1 rfl (lv_room (Nat.le_of_ble_eq_true rfl)) dX5_type_107 ⟨Nat.le_of_ble_eq_true rfl, Nat.le_of_ble_eq_true rfl⟩) hS (fun q _ h => hFc q h) hFc (fun r9 u t H1 locs ht hvm hw hB hz1 hk1 hS => ?_)
    obtain rfl := hw
    obtain ⟨hP1, hK1, hD1⟩ := hB
    rw [ht] at hP1
    have hK1 := va_K.moved hvm.symm hK1
    obtain ⟨hP, hD⟩ := va_join (wr := [(h0, .inr (9, [.int 0, .ref h1, .ref z0, .ref z1, .int 0, .int 0, .int 0])), (h1, .inl (k0, 4, .inr (.inr (.inr (.inr (va_up (va_up (va_up (va_up (fun _ => none) 0 (some ge5)) 1 (some ge5)) 2 (some ge5)) 3 (some ge5))))))), (h2, .inl (k1, 5, .inl (upd (upd (upd (upd (upd (fun _ => 0) 0 l1) 1 l2) 2 2) 3 l4) 4 l5))), (h3, .inr (0, [.ref h4, .int 0, .int 0, .int 0])), (h4, .inl (k2, 2, .inl f0)), (q102, .inr (1, [.ref q103, .int 0, .int 0, .int 2])), (q103, .inl (cq104, 16, .inl f105))]) (w1 := []) hP hD [] [0, 1, 2, 3, 4, 5, 6] rfl rfl (by decide) (by decide) hk1 hFc hP1 hD1
    generalize H1 = H at hP hS ⊢
    have hP : va_P (dC, dI) vwCl [(h0, .inr (9, [.int 0, .ref h1, .ref z0, .ref z1, .int 0, .int 0, .int 0])), (h1, .inl (k0, 4, .inr (.inr (.inr (.inr (va_up (va_up (va_up (va_up (fun _ => none) 0 (some ge5)) 1 (some ge5)) 2 (some ge5)) 3 (some ge5))))))), (h2, .inl (k1, 5, .inl (upd (upd (upd (upd (upd (fun _ => 0) 0 l1) 1 l2) 2 2) 3 l4) 4 l5))), (h3, .inr (0, [.ref h4, .int 0, .int 0, .int 0])), (h4, .inl (k2, 2, .inl f0)), (q102, .inr (1, [.ref q103, .int 0, .int 0, .int 2])), (q103, .inl (cq104, 16, .inl f105))] H := hP
    have hD : va_D A [(h0, .inr (9, [.int 0, .ref h1, .ref z0, .ref z1, .int 0, .int 0, .int 0])), (h1, .inl (k0, 4, .inr (.inr (.inr (.inr (va_up (va_up (va_up (va_up (fun _ => none) 0 (some ge5)) 1 (some ge5)) 2 (some ge5)) 3 (some ge5))))))), (h2, .inl (k1, 5, .inl (upd (upd (upd (upd (upd (fun _ => 0) 0 l1) 1 l2) 2 2) 3 l4) 4 l5))), (h3, .inr (0, [.ref h4, .int 0, .int 0, .int 0])), (h4, .inl (k2, 2, .inl f0)), (q102, .inr (1, [.ref q103, .int 0, .int 0, .int 2])), (q103, .inl (cq104, 16, .inl f105))] := hD
    have hPc := hP.sub (ws' := [(q102, .inr (1, [.ref q103, .int 0, .int 0, .int 2])), (q103, .inl (cq104, 16, .inl f105))]) [5, 6] rfl
    have hDc := hD.sub (ws' := [(q102, .inr (1, [.ref q103, .int 0, .int 0, .int 2])), (q103, .inl (cq104, 16, .inl f105))]) [5, 6] (by decide) rfl
    have hKc := hK.sub (tys' := [(cq104, .byte)]) [3] rfl
    have hFc := va_free (wc := [(q102, .inr (1, [.ref q103, .int 0, .int 0, .int 2])), (q103, .inl (cq104, 16, .inl f105))]) hD hS hA [5, 6] rfl
    refine va_callr (va_runV (As := [.int 99]) (rest := []) ⟨hx, hb, hml, hown, hts⟩ (kx_J4_append_cf468_10 l dC dI ge5 gea gv5 gva gde gic gi0 q102 q103 cq104 H.size f105 f105_t) (cwV 1 hts gX5_type_J4_append_cf468 rfl rfl rfl (by decide +kernel) ⟨Nat.le_of_ble_eq_true rfl, Nat.le_of_ble_eq_true rfl⟩) ⟨fun a U g mk q => by obtain ⟨q0, q1, qP, qK, qD, qG⟩ := q; exact ⟨q0, q1, qP, va_K.moved (u := U) (U := U.calling g mk a) (Vm.Alike.refl U.vm) qK, qD, gv.fb qG⟩, va_recv hKc hPc (ci := 1) (q0 := 0) rfl rfl, fun U hU hW => ⟨rfl, by rw [hU], by rw [hU]; exact hPc, va_K.moved hW.alike hKc, hDc.weaken (fun _ _ _ _ => trivial), gv.pass hW hU hS hFc hG⟩⟩ rfl rfl hl.1 rfl (lv_room (Nat.le_of_ble_eq_true rfl)) dX5_type_110 ⟨Nat.le_of_ble_eq_true rfl, Nat.le_of_ble_eq_true rfl⟩) hS (fun q _ h => hFc q h) hFc (fun u ra t H1 locs ht hvm hw hB hz1 hk1 hS => ?_)
    obtain ⟨f106, f106_t, hra, hP1, hK1, hD1⟩ := hB
    rw [hra]
    rw [ht] at hP1
    have hK1 := va_K.moved hvm.symm hK1
    obtain ⟨hP, hD⟩ := va_join (wr := [(h0, .inr (9, [.int 0, .ref h1, .ref z0, .ref z1, .int 0, .int 0, .int 0])), (h1, .inl (k0, 4, .inr (.inr (.inr (.inr (va_up (va_up (va_up (va_up (fun _ => none) 0 (some ge5)) 1 (some ge5)) 2 (some ge5)) 3 (some ge5))))))), (h2, .inl (k1, 5, .inl (upd (upd (upd (upd (upd (fun _ => 0) 0 l1) 1 l2) 2 2) 3 l4) 4 l5))), (h3, .inr (0, [.ref h4, .int 0, .int 0, .int 0])), (h4, .inl (k2, 2, .inl f0))]) (w1 := [(q102, .inr (1, [.ref q103, .int 0, .int 0, .int 3])), (q103, .inl (cq104, 16, .inl f106))]) hP hD [5, 6] [0, 1, 2, 3, 4] rfl rfl (by decide) (by decide) hk1 hFc hP1 hD1
    generalize H1 = H at hP hS ⊢
    have hP : va_P (dC, dI) vwCl [(h0, .inr (9, [.int 0, .ref h1, .ref z0, .ref z1, .int 0, .int 0, .int 0])), (h1, .inl (k0, 4, .inr (.inr (.inr (.inr (va_up (va_up (va_up (va_up (fun _ => none) 0 (some ge5)) 1 (some ge5)) 2 (some ge5)) 3 (some ge5))))))), (h2, .inl (k1, 5, .inl (upd (upd (upd (upd (upd (fun _ => 0) 0 l1) 1 l2) 2 2) 3 l4) 4 l5))), (h3, .inr (0, [.ref h4, .int 0, .int 0, .int 0])), (h4, .inl (k2, 2, .inl f0)), (q102, .inr (1, [.ref q103, .int 0, .int 0, .int 3])), (q103, .inl (cq104, 16, .inl f106))] H := hP
    have hD : va_D A [(h0, .inr (9, [.int 0, .ref h1, .ref z0, .ref z1, .int 0, .int 0, .int 0])), (h1, .inl (k0, 4, .inr (.inr (.inr (.inr (va_up (va_up (va_up (va_up (fun _ => none) 0 (some ge5)) 1 (some ge5)) 2 (some ge5)) 3 (some ge5))))))), (h2, .inl (k1, 5, .inl (upd (upd (upd (upd (upd (fun _ => 0) 0 l1) 1 l2) 2 2) 3 l4) 4 l5))), (h3, .inr (0, [.ref h4, .int 0, .int 0, .int 0])), (h4, .inl (k2, 2, .inl f0)), (q102, .inr (1, [.ref q103, .int 0, .int 0, .int 3])), (q103, .inl (cq104, 16, .inl f106))] := hD
    have hPc := hP.sub (ws' := [(q102, .inr (1, [.ref q103, .int 0, .int 0, .int 3])), (q103, .inl (cq104, 16, .inl f106))]) [5, 6] rfl
    have hDc := hD.sub (ws' := [(q102, .inr (1, [.ref q103, .int 0, .int 0, .int 3])), (q103, .inl (cq104, 16, .inl f106))]) [5, 6] (by decide) rfl
    have hKc := hK.sub (tys' := [(cq104, .byte)]) [3] rfl
    have hFc := va_free (wc := [(q102, .inr (1, [.ref q103, .int 0, .int 0, .int 3])), (q103, .inl (cq104, 16, .inl f106))]) hD hS hA [5, 6] rfl
    refine va_callr (va_runV (As := []) (rest := []) ⟨hx, hb, hml, hown, hts⟩ (kx_J4_toString_0e30d_3 l dC dI ge5 gea gv5 gva gde gic gi0 q102 q103 cq104 H.size f106 f106_t) (cwV 0 hts gX5_type_J4_toString_0e30d rfl rfl rfl (by decide +kernel) ⟨Nat.le_of_ble_eq_true rfl, Nat.le_of_ble_eq_true rfl⟩) ⟨fun a U g mk q => by obtain ⟨q0, q1, qP, qK, qD, qG⟩ := q; exact ⟨q0, q1, qP, va_K.moved (u := U) (U := U.calling g mk a) (Vm.Alike.refl U.vm) qK, qD, gv.fb qG⟩, va_recv hKc hPc (ci := 1) (q0 := 0) rfl rfl, fun U hU hW => ⟨rfl, by rw [hU], by rw [hU]; exact hPc, va_K.moved hW.alike hKc, hDc.weaken (fun _ _ _ _ => trivial), gv.pass hW hU hS hFc hG⟩⟩ rfl rfl hl.1 rfl (lv_room (Nat.le_of_ble_eq_true rfl)) dX5_type_113 ⟨Nat.le_of_ble_eq_true rfl, Nat.le_of_ble_eq_true rfl⟩) hS (fun q _ h => hFc q h) hFc (fun u ra t H1 locs ht hvm hw hB hz1 hk1 hS => ?_)
    obtain ⟨q107, q108, cq109, f110, f110_t, hra, hP1, hK1, hD1⟩ := hB
    rw [hra]
    rw [ht] at hP1
    have hK1 := va_K.moved hvm.symm hK1
    obtain ⟨hP, hD⟩ := va_join (wr := [(h0, .inr (9, [.int 0, .ref h1, .ref z0, .ref z1, .int 0, .int 0, .int 0])), (h1, .inl (k0, 4, .inr (.inr (.inr (.inr (va_up (va_up (va_up (va_up (fun _ => none) 0 (some ge5)) 1 (some ge5)) 2 (some ge5)) 3 (some ge5))))))), (h2, .inl (k1, 5, .inl (upd (upd (upd (upd (upd (fun _ => 0) 0 l1) 1 l2) 2 2) 3 l4) 4 l5))), (h3, .inr (0, [.ref h4, .int 0, .int 0, .int 0])), (h4, .inl (k2, 2, .inl f0))]) (w1 := [(q102, .inr (1, [.ref q103, .int 0, .int 0, .int 3])), (q103, .inl (cq104, 16, .inl f106)), (q107, .inr (0, [.ref q108, .int 0, .int 0, .int 0])), (q108, .inl (cq109, 3, .inl f110))]) hP hD [5, 6] [0, 1, 2, 3, 4] rfl rfl (by decide) (by decide) hk1 hFc hP1 hD1
    have hK := hK.app (hK1.sub (tys' := [(cq109, .byte)]) [1] rfl)
    generalize H1 = H at hP hS ⊢
    have hK : va_K (dC, dI) vwCl [(k0, .object "java/lang/String"), (k1, .int), (k2, .byte), (cq104, .byte), (cq109, .byte)] s := hK
    have hP : va_P (dC, dI) vwCl [(h0, .inr (9, [.int 0, .ref h1, .ref z0, .ref z1, .int 0, .int 0, .int 0])), (h1, .inl (k0, 4, .inr (.inr (.inr (.inr (va_up (va_up (va_up (va_up (fun _ => none) 0 (some ge5)) 1 (some ge5)) 2 (some ge5)) 3 (some ge5))))))), (h2, .inl (k1, 5, .inl (upd (upd (upd (upd (upd (fun _ => 0) 0 l1) 1 l2) 2 2) 3 l4) 4 l5))), (h3, .inr (0, [.ref h4, .int 0, .int 0, .int 0])), (h4, .inl (k2, 2, .inl f0)), (q102, .inr (1, [.ref q103, .int 0, .int 0, .int 3])), (q103, .inl (cq104, 16, .inl f106)), (q107, .inr (0, [.ref q108, .int 0, .int 0, .int 0])), (q108, .inl (cq109, 3, .inl f110))] H := hP
    have hD : va_D A [(h0, .inr (9, [.int 0, .ref h1, .ref z0, .ref z1, .int 0, .int 0, .int 0])), (h1, .inl (k0, 4, .inr (.inr (.inr (.inr (va_up (va_up (va_up (va_up (fun _ => none) 0 (some ge5)) 1 (some ge5)) 2 (some ge5)) 3 (some ge5))))))), (h2, .inl (k1, 5, .inl (upd (upd (upd (upd (upd (fun _ => 0) 0 l1) 1 l2) 2 2) 3 l4) 4 l5))), (h3, .inr (0, [.ref h4, .int 0, .int 0, .int 0])), (h4, .inl (k2, 2, .inl f0)), (q102, .inr (1, [.ref q103, .int 0, .int 0, .int 3])), (q103, .inl (cq104, 16, .inl f106)), (q107, .inr (0, [.ref q108, .int 0, .int 0, .int 0])), (q108, .inl (cq109, 3, .inl f110))] := hD
    refine W.widen (k := 13) (n := 83) (by omega) (by omega) ?_
    refine lv_astore (lv' := [(9, .ref q107), (8, .int 0), (13, .int 2), (0, .ref h0), (1, .int rp), (7, .ref h2), (10, .ref h2), (11, .int 5), (12, .int 2)]) hx hb dX5_type_116 hl (by decide) rfl (fun ls hl => ?_)
    refine lv_iinc (v := 3) (lv' := [(12, .int 3), (9, .ref q107), (8, .int 0), (13, .int 2), (0, .ref h0), (1, .int rp), (7, .ref h2), (10, .ref h2), (11, .int 5)]) hx hb dX5_type_118 hl (k := 8) rfl (by decide) (by decide) rfl (fun ls hl => ?_)
    refine lv_goto (tgt := 47) hx hb dX5_type_121 (by decide) ?_
    have hP := hP.sub (ws' := [(h0, .inr (9, [.int 0, .ref h1, .ref z0, .ref z1, .int 0, .int 0, .int 0])), (h1, .inl (k0, 4, .inr (.inr (.inr (.inr (va_up (va_up (va_up (va_up (fun _ => none) 0 (some ge5)) 1 (some ge5)) 2 (some ge5)) 3 (some ge5))))))), (h2, .inl (k1, 5, .inl (upd (upd (upd (upd (upd (fun _ => 0) 0 l1) 1 l2) 2 2) 3 l4) 4 l5))), (q107, .inr (0, [.ref q108, .int 0, .int 0, .int 0])), (q108, .inl (cq109, 3, .inl f110))]) [0, 1, 2, 7, 8] rfl
    have hD := hD.sub (ws' := [(h0, .inr (9, [.int 0, .ref h1, .ref z0, .ref z1, .int 0, .int 0, .int 0])), (h1, .inl (k0, 4, .inr (.inr (.inr (.inr (va_up (va_up (va_up (va_up (fun _ => none) 0 (some ge5)) 1 (some ge5)) 2 (some ge5)) 3 (some ge5))))))), (h2, .inl (k1, 5, .inl (upd (upd (upd (upd (upd (fun _ => 0) 0 l1) 1 l2) 2 2) 3 l4) 4 l5))), (q107, .inr (0, [.ref q108, .int 0, .int 0, .int 0])), (q108, .inl (cq109, 3, .inl f110))]) [0, 1, 2, 7, 8] (by decide) rfl
    have hK := hK.sub (tys' := [(k0, .object "java/lang/String"), (k1, .int), (cq109, .byte)]) [0, 1, 4] rfl
    have hl := lv_sub hl [4, 5, 6, 2, 1, 7, 8, 0] (show lv_pick [(12, .int 3), (9, .ref q107), (8, .int 0), (13, .int 2), (0, .ref h0), (1, .int rp), (7, .ref h2), (10, .ref h2), (11, .int 5)] [4, 5, 6, 2, 1, 7, 8, 0] = [(0, .ref h0), (1, .int rp), (7, .ref h2), (8, .int 0), (9, .ref q107), (10, .ref h2), (11, .int 5), (12, .int 3)] from rfl)
    exact kx_X5_type_h330 f110_t hR hx hb hr hml hown hts hlocks hA hG hS hK hP hD hl
  · have hR : kz_ty rp 3 0 [l4, l5] = (R, v) := (kz_ty_g (by decide) (by decide)).symm.trans hR
    refine lv_iload hx hb dX5_type_47 (lv_at hl 7 rfl) ?_
    refine lv_iload hx hb dX5_type_49 (lv_at hl 6 rfl) ?_
    refine lv_icmp_ge (tgt := 124) hx hb dX5_type_51 (by decide) (fun c9 => absurd c9 (by decide)) (fun _ => ?_)
    refine lv_aload hx hb dX5_type_54 (lv_at hl 5 rfl) ?_
    refine lv_iload hx hb dX5_type_56 (lv_at hl 7 rfl) ?_
    refine va_iald (D := (dC, dI)) hx hb hK hP 2 1 rfl rfl (by unfold vp_in; decide) dX5_type_58 ?_
    refine W.eq (g2 := F0 m 59 ls [.int 3]) rfl ?_
    refine lv_istore (lv' := [(13, .int 3), (0, .ref h0), (1, .int rp), (7, .ref h2), (8, .int 0), (9, .ref h3), (10, .ref h2), (11, .int 5), (12, .int 2)]) hx hb dX5_type_59 hl (by decide) rfl (fun ls hl => ?_)
    refine lv_iload hx hb dX5_type_61 (lv_at hl 4 rfl) ?_
    refine lv_iload hx hb dX5_type_63 (lv_at hl 0 rfl) ?_
    refine lv_iconst (v := (-1)) hx hb dX5_type_65 (by decide) ?_
    refine lv_iconst (v := 3) hx hb dX5_type_66 (by decide) ?_
    have hPc := hP.sub (ws' := []) [] rfl
    have hDc := hD.sub (ws' := []) [] (by decide) rfl
    have hKc := hK.sub (tys' := []) [] rfl
    have hFc := va_free (wc := []) hD hS hA [] rfl
    refine va_calli (va_runS (As := [.int 3, .int (-1), .int 3]) (rest := [.int 0]) ⟨hx, hb, hml, hown, hts⟩ (kx_X5_isIn_13 l dC dI H.size) (cwS 3 hts gX5_type_X5_isIn rfl rfl rfl (by decide +kernel) ⟨Nat.le_of_ble_eq_true rfl, Nat.le_of_ble_eq_true rfl⟩) ⟨fun a U g mk q => by obtain ⟨q0, q1, qP, qK, qD⟩ := q; exact ⟨q0, q1, qP, va_K.moved (u := U) (U := U.calling g mk a) (Vm.Alike.refl U.vm) qK, qD⟩, fun U hU hW => ⟨rfl, by rw [hU], by rw [hU]; exact hPc, va_K.moved hW.alike hKc, hDc.weaken (fun _ _ _ _ => trivial)⟩⟩ rfl rfl hl.1 rfl (lv_room (Nat.le_of_ble_eq_true rfl)) dX5_type_67 ⟨Nat.le_of_ble_eq_true rfl, Nat.le_of_ble_eq_true rfl⟩) hS (fun q _ h => hFc q h) hFc (fun r9 u t H1 locs ht hvm hw hB hz1 hk1 hS => ?_)
    obtain rfl := hw
    obtain ⟨hP1, hK1, hD1⟩ := hB
    rw [ht] at hP1
    have hK1 := va_K.moved hvm.symm hK1
    obtain ⟨hP, hD⟩ := va_join (wr := [(h0, .inr (9, [.int 0, .ref h1, .ref z0, .ref z1, .int 0, .int 0, .int 0])), (h1, .inl (k0, 4, .inr (.inr (.inr (.inr (va_up (va_up (va_up (va_up (fun _ => none) 0 (some ge5)) 1 (some ge5)) 2 (some ge5)) 3 (some ge5))))))), (h2, .inl (k1, 5, .inl (upd (upd (upd (upd (upd (fun _ => 0) 0 l1) 1 l2) 2 3) 3 l4) 4 l5))), (h3, .inr (0, [.ref h4, .int 0, .int 0, .int 0])), (h4, .inl (k2, 2, .inl f0))]) (w1 := []) hP hD [] [0, 1, 2, 3, 4] rfl rfl (by decide) (by decide) hk1 hFc hP1 hD1
    generalize H1 = H at hP hS ⊢
    have hP : va_P (dC, dI) vwCl [(h0, .inr (9, [.int 0, .ref h1, .ref z0, .ref z1, .int 0, .int 0, .int 0])), (h1, .inl (k0, 4, .inr (.inr (.inr (.inr (va_up (va_up (va_up (va_up (fun _ => none) 0 (some ge5)) 1 (some ge5)) 2 (some ge5)) 3 (some ge5))))))), (h2, .inl (k1, 5, .inl (upd (upd (upd (upd (upd (fun _ => 0) 0 l1) 1 l2) 2 3) 3 l4) 4 l5))), (h3, .inr (0, [.ref h4, .int 0, .int 0, .int 0])), (h4, .inl (k2, 2, .inl f0))] H := hP
    have hD : va_D A [(h0, .inr (9, [.int 0, .ref h1, .ref z0, .ref z1, .int 0, .int 0, .int 0])), (h1, .inl (k0, 4, .inr (.inr (.inr (.inr (va_up (va_up (va_up (va_up (fun _ => none) 0 (some ge5)) 1 (some ge5)) 2 (some ge5)) 3 (some ge5))))))), (h2, .inl (k1, 5, .inl (upd (upd (upd (upd (upd (fun _ => 0) 0 l1) 1 l2) 2 3) 3 l4) 4 l5))), (h3, .inr (0, [.ref h4, .int 0, .int 0, .int 0])), (h4, .inl (k2, 2, .inl f0))] := hD
    refine lv_if_ne (tgt := 77) hx hb dX5_type_70 (by decide) (fun _ => ?_) (fun c9 => absurd c9 (by decide))
    refine lv_iconst (v := 0) hx hb dX5_type_77 (by decide) ?_
    refine lv_ior hx hb dX5_type_78 ?_
    refine lv_topi (fun y101 ey101 => ?_)
    obtain rfl : y101 = 0 := ey101.trans (by decide)
    refine lv_istore (lv' := [(8, .int 0), (13, .int 3), (0, .ref h0), (1, .int rp), (7, .ref h2), (9, .ref h3), (10, .ref h2), (11, .int 5), (12, .int 2)]) hx hb dX5_type_79 hl (by decide) rfl (fun ls hl => ?_)
    refine lv_iload hx hb dX5_type_81 (lv_at hl 1 rfl) ?_
    refine lv_iconst (v := 0) hx hb dX5_type_83 (by decide) ?_
    refine lv_iconst (v := 3) hx hb dX5_type_84 (by decide) ?_
    have hPc := hP.sub (ws' := []) [] rfl
    have hDc := hD.sub (ws' := []) [] (by decide) rfl
    have hKc := hK.sub (tys' := []) [] rfl
    have hFc := va_free (wc := []) hD hS hA [] rfl
    refine va_calli (va_runS (As := [.int 3, .int 0, .int 3]) (rest := []) ⟨hx, hb, hml, hown, hts⟩ (kx_X5_isIn_14 l dC dI H.size) (cwS 3 hts gX5_type_X5_isIn rfl rfl rfl (by decide +kernel) ⟨Nat.le_of_ble_eq_true rfl, Nat.le_of_ble_eq_true rfl⟩) ⟨fun a U g mk q => by obtain ⟨q0, q1, qP, qK, qD⟩ := q; exact ⟨q0, q1, qP, va_K.moved (u := U) (U := U.calling g mk a) (Vm.Alike.refl U.vm) qK, qD⟩, fun U hU hW => ⟨rfl, by rw [hU], by rw [hU]; exact hPc, va_K.moved hW.alike hKc, hDc.weaken (fun _ _ _ _ => trivial)⟩⟩ rfl rfl hl.1 rfl (lv_room (Nat.le_of_ble_eq_true rfl)) dX5_type_85 ⟨Nat.le_of_ble_eq_true rfl, Nat.le_of_ble_eq_true rfl⟩) hS (fun q _ h => hFc q h) hFc (fun r9 u t H1 locs ht hvm hw hB hz1 hk1 hS => ?_)
    obtain rfl := hw
    obtain ⟨hP1, hK1, hD1⟩ := hB
    rw [ht] at hP1
    have hK1 := va_K.moved hvm.symm hK1
    obtain ⟨hP, hD⟩ := va_join (wr := [(h0, .inr (9, [.int 0, .ref h1, .ref z0, .ref z1, .int 0, .int 0, .int 0])), (h1, .inl (k0, 4, .inr (.inr (.inr (.inr (va_up (va_up (va_up (va_up (fun _ => none) 0 (some ge5)) 1 (some ge5)) 2 (some ge5)) 3 (some ge5))))))), (h2, .inl (k1, 5, .inl (upd (upd (upd (upd (upd (fun _ => 0) 0 l1) 1 l2) 2 3) 3 l4) 4 l5))), (h3, .inr (0, [.ref h4, .int 0, .int 0, .int 0])), (h4, .inl (k2, 2, .inl f0))]) (w1 := []) hP hD [] [0, 1, 2, 3, 4] rfl rfl (by decide) (by decide) hk1 hFc hP1 hD1
    generalize H1 = H at hP hS ⊢
    have hP : va_P (dC, dI) vwCl [(h0, .inr (9, [.int 0, .ref h1, .ref z0, .ref z1, .int 0, .int 0, .int 0])), (h1, .inl (k0, 4, .inr (.inr (.inr (.inr (va_up (va_up (va_up (va_up (fun _ => none) 0 (some ge5)) 1 (some ge5)) 2 (some ge5)) 3 (some ge5))))))), (h2, .inl (k1, 5, .inl (upd (upd (upd (upd (upd (fun _ => 0) 0 l1) 1 l2) 2 3) 3 l4) 4 l5))), (h3, .inr (0, [.ref h4, .int 0, .int 0, .int 0])), (h4, .inl (k2, 2, .inl f0))] H := hP
    have hD : va_D A [(h0, .inr (9, [.int 0, .ref h1, .ref z0, .ref z1, .int 0, .int 0, .int 0])), (h1, .inl (k0, 4, .inr (.inr (.inr (.inr (va_up (va_up (va_up (va_up (fun _ => none) 0 (some ge5)) 1 (some ge5)) 2 (some ge5)) 3 (some ge5))))))), (h2, .inl (k1, 5, .inl (upd (upd (upd (upd (upd (fun _ => 0) 0 l1) 1 l2) 2 3) 3 l4) 4 l5))), (h3, .inr (0, [.ref h4, .int 0, .int 0, .int 0])), (h4, .inl (k2, 2, .inl f0))] := hD
    refine lv_if_eq (tgt := 118) hx hb dX5_type_88 (by decide) (fun c9 => absurd c9 (by decide)) (fun _ => ?_)
    refine va_new (ci := 1) (fs := [.null, .int 0, .int 0, .int 0]) (C := RJ4) (T := TJ4) (N := 4) hx hb hts (by decide +kernel) tyJ4 tyJ4_ok hown (hts (.classLink RX5 49 RJ4) (by decide +kernel)) (hts (.instantiable RJ4 4) (by decide +kernel)) (hts (.initialized RJ4) (by decide +kernel)) hK hP hD hS hA rfl (fun j hj => by rcases (show j = 0 ∨ j = 1 ∨ j = 2 ∨ j = 3 by omega) with rfl | rfl | rfl | rfl <;> rfl) (Nat.le_of_ble_eq_true rfl) (Nat.le_of_ble_eq_true rfl) dX5_type_91 (fun q102 H hP hD hS => ?_)
    have hP : va_P (dC, dI) vwCl [(h0, .inr (9, [.int 0, .ref h1, .ref z0, .ref z1, .int 0, .int 0, .int 0])), (h1, .inl (k0, 4, .inr (.inr (.inr (.inr (va_up (va_up (va_up (va_up (fun _ => none) 0 (some ge5)) 1 (some ge5)) 2 (some ge5)) 3 (some ge5))))))), (h2, .inl (k1, 5, .inl (upd (upd (upd (upd (upd (fun _ => 0) 0 l1) 1 l2) 2 3) 3 l4) 4 l5))), (h3, .inr (0, [.ref h4, .int 0, .int 0, .int 0])), (h4, .inl (k2, 2, .inl f0)), (q102, .inr (1, [.null, .int 0, .int 0, .int 0]))] H := hP
    have hD : va_D A [(h0, .inr (9, [.int 0, .ref h1, .ref z0, .ref z1, .int 0, .int 0, .int 0])), (h1, .inl (k0, 4, .inr (.inr (.inr (.inr (va_up (va_up (va_up (va_up (fun _ => none) 0 (some ge5)) 1 (some ge5)) 2 (some ge5)) 3 (some ge5))))))), (h2, .inl (k1, 5, .inl (upd (upd (upd (upd (upd (fun _ => 0) 0 l1) 1 l2) 2 3) 3 l4) 4 l5))), (h3, .inr (0, [.ref h4, .int 0, .int 0, .int 0])), (h4, .inl (k2, 2, .inl f0)), (q102, .inr (1, [.null, .int 0, .int 0, .int 0]))] := hD
    refine W.widen (k := 10) (n := 60) (by omega) (by omega) ?_
    refine lv_dup hx hb dX5_type_94 rfl ?_
    have hPc := hP.sub (ws' := [(q102, .inr (1, [.null, .int 0, .int 0, .int 0]))]) [5] rfl
    have hDc := hD.sub (ws' := [(q102, .inr (1, [.null, .int 0, .int 0, .int 0]))]) [5] (by decide) rfl
    have hKc := hK.sub (tys' := []) [] rfl
    have hFc := va_free (wc := [(q102, .inr (1, [.null, .int 0, .int 0, .int 0]))]) hD hS hA [5] rfl
    refine va_callv (va_runI (As := []) (rest := [.ref q102]) ⟨hx, hb, hml, hown, hts⟩ (kx_J4_init_da8c8_0 l dC dI ge5 gea gv5 gva gde gic gi0 q102 H.size) (cwI 0 hts gX5_type_J4_init_da8c8 rfl rfl rfl (hts (.initialized RJ4) (by decide +kernel)) (hts (.methodLink RX5 51 yJ4_init_da8c8) (by decide +kernel)) (hts (.instanceMethod yJ4_init_da8c8) (by decide +kernel)) rfl (by decide +kernel) ⟨Nat.le_of_ble_eq_true rfl, Nat.le_of_ble_eq_true rfl⟩) ⟨fun a U g mk q => by obtain ⟨q0, q1, qP, qK, qD, qG⟩ := q; exact ⟨q0, q1, qP, va_K.moved (u := U) (U := U.calling g mk a) (Vm.Alike.refl U.vm) qK, qD, gv.fb qG⟩, fun U hU hW => ⟨rfl, by rw [hU], by rw [hU]; exact hPc, va_K.moved hW.alike hKc, hDc.weaken (fun _ _ _ _ => trivial), gv.pass hW hU hS hFc hG⟩⟩ rfl rfl hl.1 rfl (lv_room (Nat.le_of_ble_eq_true rfl)) dX5_type_95 ⟨Nat.le_of_ble_eq_true rfl, Nat.le_of_ble_eq_true rfl⟩) hS (fun q _ h => hFc q h) hFc (fun u t H1 locs ht hvm hw hB hz1 hk1 hS => ?_)
    obtain ⟨q103, cq104, hP1, hK1, hD1⟩ := hB
    rw [ht] at hP1
    have hK1 := va_K.moved hvm.symm hK1
    obtain ⟨hP, hD⟩ := va_join (wr := [(h0, .inr (9, [.int 0, .ref h1, .ref z0, .ref z1, .int 0, .int 0, .int 0])), (h1, .inl (k0, 4, .inr (.inr (.inr (.inr (va_up (va_up (va_up (va_up (fun _ => none) 0 (some ge5)) 1 (some ge5)) 2 (some ge5)) 3 (some ge5))))))), (h2, .inl (k1, 5, .inl (upd (upd (upd (upd (upd (fun _ => 0) 0 l1) 1 l2) 2 3) 3 l4) 4 l5))), (h3, .inr (0, [.ref h4, .int 0, .int 0, .int 0])), (h4, .inl (k2, 2, .inl f0))]) (w1 := [(q102, .inr (1, [.ref q103, .int 0, .int 0, .int 0])), (q103, .inl (cq104, 16, .inl (fun _ => 0)))]) hP hD [5] [0, 1, 2, 3, 4] rfl rfl (by decide) (by decide) hk1 hFc hP1 hD1
    have hK := hK.app (hK1.sub (tys' := [(cq104, .byte)]) [0] rfl)
    generalize H1 = H at hP hS ⊢
    have hK : va_K (dC, dI) vwCl [(k0, .object "java/lang/String"), (k1, .int), (k2, .byte), (cq104, .byte)] s := hK
    have hP : va_P (dC, dI) vwCl [(h0, .inr (9, [.int 0, .ref h1, .ref z0, .ref z1, .int 0, .int 0, .int 0])), (h1, .inl (k0, 4, .inr (.inr (.inr (.inr (va_up (va_up (va_up (va_up (fun _ => none) 0 (some ge5)) 1 (some ge5)) 2 (some ge5)) 3 (some ge5))))))), (h2, .inl (k1, 5, .inl (upd (upd (upd (upd (upd (fun _ => 0) 0 l1) 1 l2) 2 3) 3 l4) 4 l5))), (h3, .inr (0, [.ref h4, .int 0, .int 0, .int 0])), (h4, .inl (k2, 2, .inl f0)), (q102, .inr (1, [.ref q103, .int 0, .int 0, .int 0])), (q103, .inl (cq104, 16, .inl (fun _ => 0)))] H := hP
    have hD : va_D A [(h0, .inr (9, [.int 0, .ref h1, .ref z0, .ref z1, .int 0, .int 0, .int 0])), (h1, .inl (k0, 4, .inr (.inr (.inr (.inr (va_up (va_up (va_up (va_up (fun _ => none) 0 (some ge5)) 1 (some ge5)) 2 (some ge5)) 3 (some ge5))))))), (h2, .inl (k1, 5, .inl (upd (upd (upd (upd (upd (fun _ => 0) 0 l1) 1 l2) 2 3) 3 l4) 4 l5))), (h3, .inr (0, [.ref h4, .int 0, .int 0, .int 0])), (h4, .inl (k2, 2, .inl f0)), (q102, .inr (1, [.ref q103, .int 0, .int 0, .int 0])), (q103, .inl (cq104, 16, .inl (fun _ => 0)))] := hD
    refine W.widen (k := 11) (n := 76) (by omega) (by omega) ?_
    refine lv_aload hx hb dX5_type_98 (lv_at hl 5 rfl) ?_
    have hPc := hP.sub (ws' := [(h3, .inr (0, [.ref h4, .int 0, .int 0, .int 0])), (h4, .inl (k2, 2, .inl f0)), (q102, .inr (1, [.ref q103, .int 0, .int 0, .int 0])), (q103, .inl (cq104, 16, .inl (fun _ => 0)))]) [3, 4, 5, 6] rfl
    have hDc := hD.sub (ws' := [(h3, .inr (0, [.ref h4, .int 0, .int 0, .int 0])), (h4, .inl (k2, 2, .inl f0)), (q102, .inr (1, [.ref q103, .int 0, .int 0, .int 0])), (q103, .inl (cq104, 16, .inl (fun _ => 0)))]) [3, 4, 5, 6] (by decide) rfl
    have hKc := hK.sub (tys' := [(k2, .byte), (cq104, .byte)]) [2, 3] rfl
    have hFc := va_free (wc := [(h3, .inr (0, [.ref h4, .int 0, .int 0, .int 0])), (h4, .inl (k2, 2, .inl f0)), (q102, .inr (1, [.ref q103, .int 0, .int 0, .int 0])), (q103, .inl (cq104, 16, .inl (fun _ => 0)))]) hD hS hA [3, 4, 5, 6] rfl
    refine va_callr (va_runV (As := [.ref h3]) (rest := []) ⟨hx, hb, hml, hown, hts⟩ (kx_J4_append_15ec4_2 l dC dI ge5 gea gv5 gva gde gic gi0 h3 h4 q102 q103 k2 cq104 H.size f0 f0_t) (cwV 1 hts gX5_type_J4_append_15ec4 rfl rfl rfl (by decide +kernel) ⟨Nat.le_of_ble_eq_true rfl, Nat.le_of_ble_eq_true rfl⟩) ⟨fun a U g mk q => by obtain ⟨q0, q1, qP, qK, qD, qG⟩ := q; exact ⟨q0, q1, qP, va_K.moved (u := U) (U := U.calling g mk a) (Vm.Alike.refl U.vm) qK, qD, gv.fb qG⟩, va_recv hKc hPc (ci := 1) (q0 := 2) rfl rfl, fun U hU hW => ⟨rfl, by rw [hU], by rw [hU]; exact hPc, va_K.moved hW.alike hKc, hDc.weaken (fun _ _ _ _ => trivial), gv.pass hW hU hS hFc hG⟩⟩ rfl rfl hl.1 rfl (lv_room (Nat.le_of_ble_eq_true rfl)) dX5_type_100 ⟨Nat.le_of_ble_eq_true rfl, Nat.le_of_ble_eq_true rfl⟩) hS (fun q _ h => hFc q h) hFc (fun u ra t H1 locs ht hvm hw hB hz1 hk1 hS => ?_)
    obtain ⟨f105, f105_t, hra, hP1, hK1, hD1⟩ := hB
    rw [hra]
    rw [ht] at hP1
    have hK1 := va_K.moved hvm.symm hK1
    obtain ⟨hP, hD⟩ := va_join (wr := [(h0, .inr (9, [.int 0, .ref h1, .ref z0, .ref z1, .int 0, .int 0, .int 0])), (h1, .inl (k0, 4, .inr (.inr (.inr (.inr (va_up (va_up (va_up (va_up (fun _ => none) 0 (some ge5)) 1 (some ge5)) 2 (some ge5)) 3 (some ge5))))))), (h2, .inl (k1, 5, .inl (upd (upd (upd (upd (upd (fun _ => 0) 0 l1) 1 l2) 2 3) 3 l4) 4 l5)))]) (w1 := [(h3, .inr (0, [.ref h4, .int 0, .int 0, .int 0])), (h4, .inl (k2, 2, .inl f0)), (q102, .inr (1, [.ref q103, .int 0, .int 0, .int 2])), (q103, .inl (cq104, 16, .inl f105))]) hP hD [3, 4, 5, 6] [0, 1, 2] rfl rfl (by decide) (by decide) hk1 hFc hP1 hD1
    generalize H1 = H at hP hS ⊢
    have hP : va_P (dC, dI) vwCl [(h0, .inr (9, [.int 0, .ref h1, .ref z0, .ref z1, .int 0, .int 0, .int 0])), (h1, .inl (k0, 4, .inr (.inr (.inr (.inr (va_up (va_up (va_up (va_up (fun _ => none) 0 (some ge5)) 1 (some ge5)) 2 (some ge5)) 3 (some ge5))))))), (h2, .inl (k1, 5, .inl (upd (upd (upd (upd (upd (fun _ => 0) 0 l1) 1 l2) 2 3) 3 l4) 4 l5))), (h3, .inr (0, [.ref h4, .int 0, .int 0, .int 0])), (h4, .inl (k2, 2, .inl f0)), (q102, .inr (1, [.ref q103, .int 0, .int 0, .int 2])), (q103, .inl (cq104, 16, .inl f105))] H := hP
    have hD : va_D A [(h0, .inr (9, [.int 0, .ref h1, .ref z0, .ref z1, .int 0, .int 0, .int 0])), (h1, .inl (k0, 4, .inr (.inr (.inr (.inr (va_up (va_up (va_up (va_up (fun _ => none) 0 (some ge5)) 1 (some ge5)) 2 (some ge5)) 3 (some ge5))))))), (h2, .inl (k1, 5, .inl (upd (upd (upd (upd (upd (fun _ => 0) 0 l1) 1 l2) 2 3) 3 l4) 4 l5))), (h3, .inr (0, [.ref h4, .int 0, .int 0, .int 0])), (h4, .inl (k2, 2, .inl f0)), (q102, .inr (1, [.ref q103, .int 0, .int 0, .int 2])), (q103, .inl (cq104, 16, .inl f105))] := hD
    refine va_ldcS hx hb hown g_sa dX5_type_103 ?_
    refine lv_iload hx hb dX5_type_105 (lv_at hl 1 rfl) ?_
    have hPc := hP.sub (ws' := []) [] rfl
    have hDc := hD.sub (ws' := []) [] (by decide) rfl
    have hKc := hK.sub (tys' := []) [] rfl
    have hFc := va_free (wc := []) hD hS hA [] rfl
    refine va_calli (va_runV (As := [.int 3]) (rest := [.ref q102]) ⟨hx, hb, hml, hown, hts⟩ (kx_J0_charAt_5068e_3 l dC dI ge5 gea gv5 gva gde gic gi0 H.size) (cwV 1 hts gX5_type_J0_charAt_5068e rfl rfl rfl (by decide +kernel) ⟨Nat.le_of_ble_eq_true rfl, Nat.le_of_ble_eq_true rfl⟩) ⟨fun a U g mk q => by obtain ⟨q0, q1, qP, qK, qD, qG⟩ := q; exact ⟨q0, q1, qP, va_K.moved (u := U) (U := U.calling g mk a) (Vm.Alike.refl U.vm) qK, qD, gv.fb qG⟩, (by obtain ⟨cell, k1, k2, k3, -⟩ := g_oa.kept hS.2.1; exact ⟨cell, k1, k2, k3⟩), fun U hU hW => ⟨rfl, by rw [hU], by rw [hU]; exact hPc, va_K.moved hW.alike hKc, hDc.weaken (fun _ _ _ _ => trivial), gv.pass hW hU hS hFc hG⟩⟩ rfl rfl hl.1 rfl (lv_room (Nat.le_of_ble_eq_true rfl)) dX5_type_107 ⟨Nat.le_of_ble_eq_true rfl, Nat.le_of_ble_eq_true rfl⟩) hS (fun q _ h => hFc q h) hFc (fun r9 u t H1 locs ht hvm hw hB hz1 hk1 hS => ?_)
    obtain rfl := hw
    obtain ⟨hP1, hK1, hD1⟩ := hB
    rw [ht] at hP1
    have hK1 := va_K.moved hvm.symm hK1
    obtain ⟨hP, hD⟩ := va_join (wr := [(h0, .inr (9, [.int 0, .ref h1, .ref z0, .ref z1, .int 0, .int 0, .int 0])), (h1, .inl (k0, 4, .inr (.inr (.inr (.inr (va_up (va_up (va_up (va_up (fun _ => none) 0 (some ge5)) 1 (some ge5)) 2 (some ge5)) 3 (some ge5))))))), (h2, .inl (k1, 5, .inl (upd (upd (upd (upd (upd (fun _ => 0) 0 l1) 1 l2) 2 3) 3 l4) 4 l5))), (h3, .inr (0, [.ref h4, .int 0, .int 0, .int 0])), (h4, .inl (k2, 2, .inl f0)), (q102, .inr (1, [.ref q103, .int 0, .int 0, .int 2])), (q103, .inl (cq104, 16, .inl f105))]) (w1 := []) hP hD [] [0, 1, 2, 3, 4, 5, 6] rfl rfl (by decide) (by decide) hk1 hFc hP1 hD1
    generalize H1 = H at hP hS ⊢
    have hP : va_P (dC, dI) vwCl [(h0, .inr (9, [.int 0, .ref h1, .ref z0, .ref z1, .int 0, .int 0, .int 0])), (h1, .inl (k0, 4, .inr (.inr (.inr (.inr (va_up (va_up (va_up (va_up (fun _ => none) 0 (some ge5)) 1 (some ge5)) 2 (some ge5)) 3 (some ge5))))))), (h2, .inl (k1, 5, .inl (upd (upd (upd (upd (upd (fun _ => 0) 0 l1) 1 l2) 2 3) 3 l4) 4 l5))), (h3, .inr (0, [.ref h4, .int 0, .int 0, .int 0])), (h4, .inl (k2, 2, .inl f0)), (q102, .inr (1, [.ref q103, .int 0, .int 0, .int 2])), (q103, .inl (cq104, 16, .inl f105))] H := hP
    have hD : va_D A [(h0, .inr (9, [.int 0, .ref h1, .ref z0, .ref z1, .int 0, .int 0, .int 0])), (h1, .inl (k0, 4, .inr (.inr (.inr (.inr (va_up (va_up (va_up (va_up (fun _ => none) 0 (some ge5)) 1 (some ge5)) 2 (some ge5)) 3 (some ge5))))))), (h2, .inl (k1, 5, .inl (upd (upd (upd (upd (upd (fun _ => 0) 0 l1) 1 l2) 2 3) 3 l4) 4 l5))), (h3, .inr (0, [.ref h4, .int 0, .int 0, .int 0])), (h4, .inl (k2, 2, .inl f0)), (q102, .inr (1, [.ref q103, .int 0, .int 0, .int 2])), (q103, .inl (cq104, 16, .inl f105))] := hD
    have hPc := hP.sub (ws' := [(q102, .inr (1, [.ref q103, .int 0, .int 0, .int 2])), (q103, .inl (cq104, 16, .inl f105))]) [5, 6] rfl
    have hDc := hD.sub (ws' := [(q102, .inr (1, [.ref q103, .int 0, .int 0, .int 2])), (q103, .inl (cq104, 16, .inl f105))]) [5, 6] (by decide) rfl
    have hKc := hK.sub (tys' := [(cq104, .byte)]) [3] rfl
    have hFc := va_free (wc := [(q102, .inr (1, [.ref q103, .int 0, .int 0, .int 2])), (q103, .inl (cq104, 16, .inl f105))]) hD hS hA [5, 6] rfl
    refine va_callr (va_runV (As := [.int 100]) (rest := []) ⟨hx, hb, hml, hown, hts⟩ (kx_J4_append_cf468_11 l dC dI ge5 gea gv5 gva gde gic gi0 q102 q103 cq104 H.size f105 f105_t) (cwV 1 hts gX5_type_J4_append_cf468 rfl rfl rfl (by decide +kernel) ⟨Nat.le_of_ble_eq_true rfl, Nat.le_of_ble_eq_true rfl⟩) ⟨fun a U g mk q => by obtain ⟨q0, q1, qP, qK, qD, qG⟩ := q; exact ⟨q0, q1, qP, va_K.moved (u := U) (U := U.calling g mk a) (Vm.Alike.refl U.vm) qK, qD, gv.fb qG⟩, va_recv hKc hPc (ci := 1) (q0 := 0) rfl rfl, fun U hU hW => ⟨rfl, by rw [hU], by rw [hU]; exact hPc, va_K.moved hW.alike hKc, hDc.weaken (fun _ _ _ _ => trivial), gv.pass hW hU hS hFc hG⟩⟩ rfl rfl hl.1 rfl (lv_room (Nat.le_of_ble_eq_true rfl)) dX5_type_110 ⟨Nat.le_of_ble_eq_true rfl, Nat.le_of_ble_eq_true rfl⟩) hS (fun q _ h => hFc q h) hFc (fun u ra t H1 locs ht hvm hw hB hz1 hk1 hS => ?_)
    obtain ⟨f106, f106_t, hra, hP1, hK1, hD1⟩ := hB
    rw [hra]
    rw [ht] at hP1
    have hK1 := va_K.moved hvm.symm hK1
    obtain ⟨hP, hD⟩ := va_join (wr := [(h0, .inr (9, [.int 0, .ref h1, .ref z0, .ref z1, .int 0, .int 0, .int 0])), (h1, .inl (k0, 4, .inr (.inr (.inr (.inr (va_up (va_up (va_up (va_up (fun _ => none) 0 (some ge5)) 1 (some ge5)) 2 (some ge5)) 3 (some ge5))))))), (h2, .inl (k1, 5, .inl (upd (upd (upd (upd (upd (fun _ => 0) 0 l1) 1 l2) 2 3) 3 l4) 4 l5))), (h3, .inr (0, [.ref h4, .int 0, .int 0, .int 0])), (h4, .inl (k2, 2, .inl f0))]) (w1 := [(q102, .inr (1, [.ref q103, .int 0, .int 0, .int 3])), (q103, .inl (cq104, 16, .inl f106))]) hP hD [5, 6] [0, 1, 2, 3, 4] rfl rfl (by decide) (by decide) hk1 hFc hP1 hD1
    generalize H1 = H at hP hS ⊢
    have hP : va_P (dC, dI) vwCl [(h0, .inr (9, [.int 0, .ref h1, .ref z0, .ref z1, .int 0, .int 0, .int 0])), (h1, .inl (k0, 4, .inr (.inr (.inr (.inr (va_up (va_up (va_up (va_up (fun _ => none) 0 (some ge5)) 1 (some ge5)) 2 (some ge5)) 3 (some ge5))))))), (h2, .inl (k1, 5, .inl (upd (upd (upd (upd (upd (fun _ => 0) 0 l1) 1 l2) 2 3) 3 l4) 4 l5))), (h3, .inr (0, [.ref h4, .int 0, .int 0, .int 0])), (h4, .inl (k2, 2, .inl f0)), (q102, .inr (1, [.ref q103, .int 0, .int 0, .int 3])), (q103, .inl (cq104, 16, .inl f106))] H := hP
    have hD : va_D A [(h0, .inr (9, [.int 0, .ref h1, .ref z0, .ref z1, .int 0, .int 0, .int 0])), (h1, .inl (k0, 4, .inr (.inr (.inr (.inr (va_up (va_up (va_up (va_up (fun _ => none) 0 (some ge5)) 1 (some ge5)) 2 (some ge5)) 3 (some ge5))))))), (h2, .inl (k1, 5, .inl (upd (upd (upd (upd (upd (fun _ => 0) 0 l1) 1 l2) 2 3) 3 l4) 4 l5))), (h3, .inr (0, [.ref h4, .int 0, .int 0, .int 0])), (h4, .inl (k2, 2, .inl f0)), (q102, .inr (1, [.ref q103, .int 0, .int 0, .int 3])), (q103, .inl (cq104, 16, .inl f106))] := hD
    have hPc := hP.sub (ws' := [(q102, .inr (1, [.ref q103, .int 0, .int 0, .int 3])), (q103, .inl (cq104, 16, .inl f106))]) [5, 6] rfl
    have hDc := hD.sub (ws' := [(q102, .inr (1, [.ref q103, .int 0, .int 0, .int 3])), (q103, .inl (cq104, 16, .inl f106))]) [5, 6] (by decide) rfl
    have hKc := hK.sub (tys' := [(cq104, .byte)]) [3] rfl
    have hFc := va_free (wc := [(q102, .inr (1, [.ref q103, .int 0, .int 0, .int 3])), (q103, .inl (cq104, 16, .inl f106))]) hD hS hA [5, 6] rfl
    refine va_callr (va_runV (As := []) (rest := []) ⟨hx, hb, hml, hown, hts⟩ (kx_J4_toString_0e30d_3 l dC dI ge5 gea gv5 gva gde gic gi0 q102 q103 cq104 H.size f106 f106_t) (cwV 0 hts gX5_type_J4_toString_0e30d rfl rfl rfl (by decide +kernel) ⟨Nat.le_of_ble_eq_true rfl, Nat.le_of_ble_eq_true rfl⟩) ⟨fun a U g mk q => by obtain ⟨q0, q1, qP, qK, qD, qG⟩ := q; exact ⟨q0, q1, qP, va_K.moved (u := U) (U := U.calling g mk a) (Vm.Alike.refl U.vm) qK, qD, gv.fb qG⟩, va_recv hKc hPc (ci := 1) (q0 := 0) rfl rfl, fun U hU hW => ⟨rfl, by rw [hU], by rw [hU]; exact hPc, va_K.moved hW.alike hKc, hDc.weaken (fun _ _ _ _ => trivial), gv.pass hW hU hS hFc hG⟩⟩ rfl rfl hl.1 rfl (lv_room (Nat.le_of_ble_eq_true rfl)) dX5_type_113 ⟨Nat.le_of_ble_eq_true rfl, Nat.le_of_ble_eq_true rfl⟩) hS (fun q _ h => hFc q h) hFc (fun u ra t H1 locs ht hvm hw hB hz1 hk1 hS => ?_)
    obtain ⟨q107, q108, cq109, f110, f110_t, hra, hP1, hK1, hD1⟩ := hB
    rw [hra]
    rw [ht] at hP1
    have hK1 := va_K.moved hvm.symm hK1
    obtain ⟨hP, hD⟩ := va_join (wr := [(h0, .inr (9, [.int 0, .ref h1, .ref z0, .ref z1, .int 0, .int 0, .int 0])), (h1, .inl (k0, 4, .inr (.inr (.inr (.inr (va_up (va_up (va_up (va_up (fun _ => none) 0 (some ge5)) 1 (some ge5)) 2 (some ge5)) 3 (some ge5))))))), (h2, .inl (k1, 5, .inl (upd (upd (upd (upd (upd (fun _ => 0) 0 l1) 1 l2) 2 3) 3 l4) 4 l5))), (h3, .inr (0, [.ref h4, .int 0, .int 0, .int 0])), (h4, .inl (k2, 2, .inl f0))]) (w1 := [(q102, .inr (1, [.ref q103, .int 0, .int 0, .int 3])), (q103, .inl (cq104, 16, .inl f106)), (q107, .inr (0, [.ref q108, .int 0, .int 0, .int 0])), (q108, .inl (cq109, 3, .inl f110))]) hP hD [5, 6] [0, 1, 2, 3, 4] rfl rfl (by decide) (by decide) hk1 hFc hP1 hD1
    have hK := hK.app (hK1.sub (tys' := [(cq109, .byte)]) [1] rfl)
    generalize H1 = H at hP hS ⊢
    have hK : va_K (dC, dI) vwCl [(k0, .object "java/lang/String"), (k1, .int), (k2, .byte), (cq104, .byte), (cq109, .byte)] s := hK
    have hP : va_P (dC, dI) vwCl [(h0, .inr (9, [.int 0, .ref h1, .ref z0, .ref z1, .int 0, .int 0, .int 0])), (h1, .inl (k0, 4, .inr (.inr (.inr (.inr (va_up (va_up (va_up (va_up (fun _ => none) 0 (some ge5)) 1 (some ge5)) 2 (some ge5)) 3 (some ge5))))))), (h2, .inl (k1, 5, .inl (upd (upd (upd (upd (upd (fun _ => 0) 0 l1) 1 l2) 2 3) 3 l4) 4 l5))), (h3, .inr (0, [.ref h4, .int 0, .int 0, .int 0])), (h4, .inl (k2, 2, .inl f0)), (q102, .inr (1, [.ref q103, .int 0, .int 0, .int 3])), (q103, .inl (cq104, 16, .inl f106)), (q107, .inr (0, [.ref q108, .int 0, .int 0, .int 0])), (q108, .inl (cq109, 3, .inl f110))] H := hP
    have hD : va_D A [(h0, .inr (9, [.int 0, .ref h1, .ref z0, .ref z1, .int 0, .int 0, .int 0])), (h1, .inl (k0, 4, .inr (.inr (.inr (.inr (va_up (va_up (va_up (va_up (fun _ => none) 0 (some ge5)) 1 (some ge5)) 2 (some ge5)) 3 (some ge5))))))), (h2, .inl (k1, 5, .inl (upd (upd (upd (upd (upd (fun _ => 0) 0 l1) 1 l2) 2 3) 3 l4) 4 l5))), (h3, .inr (0, [.ref h4, .int 0, .int 0, .int 0])), (h4, .inl (k2, 2, .inl f0)), (q102, .inr (1, [.ref q103, .int 0, .int 0, .int 3])), (q103, .inl (cq104, 16, .inl f106)), (q107, .inr (0, [.ref q108, .int 0, .int 0, .int 0])), (q108, .inl (cq109, 3, .inl f110))] := hD
    refine W.widen (k := 13) (n := 83) (by omega) (by omega) ?_
    refine lv_astore (lv' := [(9, .ref q107), (8, .int 0), (13, .int 3), (0, .ref h0), (1, .int rp), (7, .ref h2), (10, .ref h2), (11, .int 5), (12, .int 2)]) hx hb dX5_type_116 hl (by decide) rfl (fun ls hl => ?_)
    refine lv_iinc (v := 3) (lv' := [(12, .int 3), (9, .ref q107), (8, .int 0), (13, .int 3), (0, .ref h0), (1, .int rp), (7, .ref h2), (10, .ref h2), (11, .int 5)]) hx hb dX5_type_118 hl (k := 8) rfl (by decide) (by decide) rfl (fun ls hl => ?_)
    refine lv_goto (tgt := 47) hx hb dX5_type_121 (by decide) ?_
    have hP := hP.sub (ws' := [(h0, .inr (9, [.int 0, .ref h1, .ref z0, .ref z1, .int 0, .int 0, .int 0])), (h1, .inl (k0, 4, .inr (.inr (.inr (.inr (va_up (va_up (va_up (va_up (fun _ => none) 0 (some ge5)) 1 (some ge5)) 2 (some ge5)) 3 (some ge5))))))), (h2, .inl (k1, 5, .inl (upd (upd (upd (upd (upd (fun _ => 0) 0 l1) 1 l2) 2 3) 3 l4) 4 l5))), (q107, .inr (0, [.ref q108, .int 0, .int 0, .int 0])), (q108, .inl (cq109, 3, .inl f110))]) [0, 1, 2, 7, 8] rfl
    have hD := hD.sub (ws' := [(h0, .inr (9, [.int 0, .ref h1, .ref z0, .ref z1, .int 0, .int 0, .int 0])), (h1, .inl (k0, 4, .inr (.inr (.inr (.inr (va_up (va_up (va_up (va_up (fun _ => none) 0 (some ge5)) 1 (some ge5)) 2 (some ge5)) 3 (some ge5))))))), (h2, .inl (k1, 5, .inl (upd (upd (upd (upd (upd (fun _ => 0) 0 l1) 1 l2) 2 3) 3 l4) 4 l5))), (q107, .inr (0, [.ref q108, .int 0, .int 0, .int 0])), (q108, .inl (cq109, 3, .inl f110))]) [0, 1, 2, 7, 8] (by decide) rfl
    have hK := hK.sub (tys' := [(k0, .object "java/lang/String"), (k1, .int), (cq109, .byte)]) [0, 1, 4] rfl
    have hl := lv_sub hl [4, 5, 6, 2, 1, 7, 8, 0] (show lv_pick [(12, .int 3), (9, .ref q107), (8, .int 0), (13, .int 3), (0, .ref h0), (1, .int rp), (7, .ref h2), (10, .ref h2), (11, .int 5)] [4, 5, 6, 2, 1, 7, 8, 0] = [(0, .ref h0), (1, .int rp), (7, .ref h2), (8, .int 0), (9, .ref q107), (10, .ref h2), (11, .int 5), (12, .int 3)] from rfl)
    exact kx_X5_type_h330 f110_t hR hx hb hr hml hown hts hlocks hA hG hS hK hP hD hl
  · have l3_l : (4 : Int) ≤ l3.toInt := by omega
    have l3_u : l3.toInt ≤ (2147483647 : Int) := by omega
    have hR : kz_ty rp 2 1 [l4, l5] = (R, v) := (kz_ty_b (by omega)).symm.trans hR
    refine lv_iload hx hb dX5_type_47 (lv_at hl 7 rfl) ?_
    refine lv_iload hx hb dX5_type_49 (lv_at hl 6 rfl) ?_
    refine lv_icmp_ge (tgt := 124) hx hb dX5_type_51 (by decide) (fun c9 => absurd c9 (by decide)) (fun _ => ?_)
    refine lv_aload hx hb dX5_type_54 (lv_at hl 5 rfl) ?_
    refine lv_iload hx hb dX5_type_56 (lv_at hl 7 rfl) ?_
    refine va_iald (D := (dC, dI)) hx hb hK hP 2 1 rfl rfl (by unfold vp_in; decide) dX5_type_58 ?_
    refine W.eq (g2 := F0 m 59 ls [.int l3]) rfl ?_
    refine lv_istore (lv' := [(13, .int l3), (0, .ref h0), (1, .int rp), (7, .ref h2), (8, .int 0), (9, .ref h3), (10, .ref h2), (11, .int 5), (12, .int 2)]) hx hb dX5_type_59 hl (by decide) rfl (fun ls hl => ?_)
    refine lv_iload hx hb dX5_type_61 (lv_at hl 4 rfl) ?_
    refine lv_iload hx hb dX5_type_63 (lv_at hl 0 rfl) ?_
    refine lv_iconst (v := (-1)) hx hb dX5_type_65 (by decide) ?_
    refine lv_iconst (v := 3) hx hb dX5_type_66 (by decide) ?_
    have hPc := hP.sub (ws' := []) [] rfl
    have hDc := hD.sub (ws' := []) [] (by decide) rfl
    have hKc := hK.sub (tys' := []) [] rfl
    have hFc := va_free (wc := []) hD hS hA [] rfl
    refine va_calli (va_runS (As := [.int l3, .int (-1), .int 3]) (rest := [.int 0]) ⟨hx, hb, hml, hown, hts⟩ (kx_X5_isIn_15 l dC dI H.size l3 l3_l l3_u) (cwS 3 hts gX5_type_X5_isIn rfl rfl rfl (by decide +kernel) ⟨Nat.le_of_ble_eq_true rfl, Nat.le_of_ble_eq_true rfl⟩) ⟨fun a U g mk q => by obtain ⟨q0, q1, qP, qK, qD⟩ := q; exact ⟨q0, q1, qP, va_K.moved (u := U) (U := U.calling g mk a) (Vm.Alike.refl U.vm) qK, qD⟩, fun U hU hW => ⟨rfl, by rw [hU], by rw [hU]; exact hPc, va_K.moved hW.alike hKc, hDc.weaken (fun _ _ _ _ => trivial)⟩⟩ rfl rfl hl.1 rfl (lv_room (Nat.le_of_ble_eq_true rfl)) dX5_type_67 ⟨Nat.le_of_ble_eq_true rfl, Nat.le_of_ble_eq_true rfl⟩) hS (fun q _ h => hFc q h) hFc (fun r9 u t H1 locs ht hvm hw hB hz1 hk1 hS => ?_)
    obtain rfl := hw
    obtain ⟨hP1, hK1, hD1⟩ := hB
    rw [ht] at hP1
    have hK1 := va_K.moved hvm.symm hK1
    obtain ⟨hP, hD⟩ := va_join (wr := [(h0, .inr (9, [.int 0, .ref h1, .ref z0, .ref z1, .int 0, .int 0, .int 0])), (h1, .inl (k0, 4, .inr (.inr (.inr (.inr (va_up (va_up (va_up (va_up (fun _ => none) 0 (some ge5)) 1 (some ge5)) 2 (some ge5)) 3 (some ge5))))))), (h2, .inl (k1, 5, .inl (upd (upd (upd (upd (upd (fun _ => 0) 0 l1) 1 l2) 2 l3) 3 l4) 4 l5))), (h3, .inr (0, [.ref h4, .int 0, .int 0, .int 0])), (h4, .inl (k2, 2, .inl f0))]) (w1 := []) hP hD [] [0, 1, 2, 3, 4] rfl rfl (by decide) (by decide) hk1 hFc hP1 hD1
    generalize H1 = H at hP hS ⊢
    have hP : va_P (dC, dI) vwCl [(h0, .inr (9, [.int 0, .ref h1, .ref z0, .ref z1, .int 0, .int 0, .int 0])), (h1, .inl (k0, 4, .inr (.inr (.inr (.inr (va_up (va_up (va_up (va_up (fun _ => none) 0 (some ge5)) 1 (some ge5)) 2 (some ge5)) 3 (some ge5))))))), (h2, .inl (k1, 5, .inl (upd (upd (upd (upd (upd (fun _ => 0) 0 l1) 1 l2) 2 l3) 3 l4) 4 l5))), (h3, .inr (0, [.ref h4, .int 0, .int 0, .int 0])), (h4, .inl (k2, 2, .inl f0))] H := hP
    have hD : va_D A [(h0, .inr (9, [.int 0, .ref h1, .ref z0, .ref z1, .int 0, .int 0, .int 0])), (h1, .inl (k0, 4, .inr (.inr (.inr (.inr (va_up (va_up (va_up (va_up (fun _ => none) 0 (some ge5)) 1 (some ge5)) 2 (some ge5)) 3 (some ge5))))))), (h2, .inl (k1, 5, .inl (upd (upd (upd (upd (upd (fun _ => 0) 0 l1) 1 l2) 2 l3) 3 l4) 4 l5))), (h3, .inr (0, [.ref h4, .int 0, .int 0, .int 0])), (h4, .inl (k2, 2, .inl f0))] := hD
    refine lv_if_ne (tgt := 77) hx hb dX5_type_70 (by decide) (fun c9 => absurd (by decide) c9) (fun _ => ?_)
    refine lv_iconst (v := 1) hx hb dX5_type_73 (by decide) ?_
    refine lv_goto (tgt := 78) hx hb dX5_type_74 (by decide) ?_
    refine lv_ior hx hb dX5_type_78 ?_
    refine lv_topi (fun y101 ey101 => ?_)
    obtain rfl : y101 = 1 := ey101.trans (by decide)
    refine lv_istore (lv' := [(8, .int 1), (13, .int l3), (0, .ref h0), (1, .int rp), (7, .ref h2), (9, .ref h3), (10, .ref h2), (11, .int 5), (12, .int 2)]) hx hb dX5_type_79 hl (by decide) rfl (fun ls hl => ?_)
    refine lv_iload hx hb dX5_type_81 (lv_at hl 1 rfl) ?_
    refine lv_iconst (v := 0) hx hb dX5_type_83 (by decide) ?_
    refine lv_iconst (v := 3) hx hb dX5_type_84 (by decide) ?_
    have hPc := hP.sub (ws' := []) [] rfl
    have hDc := hD.sub (ws' := []) [] (by decide) rfl
    have hKc := hK.sub (tys' := []) [] rfl
    have hFc := va_free (wc := []) hD hS hA [] rfl
    refine va_calli (va_runS (As := [.int l3, .int 0, .int 3]) (rest := []) ⟨hx, hb, hml, hown, hts⟩ (kx_X5_isIn_2 l dC dI H.size l3 l3_l l3_u) (cwS 3 hts gX5_type_X5_isIn rfl rfl rfl (by decide +kernel) ⟨Nat.le_of_ble_eq_true rfl, Nat.le_of_ble_eq_true rfl⟩) ⟨fun a U g mk q => by obtain ⟨q0, q1, qP, qK, qD⟩ := q; exact ⟨q0, q1, qP, va_K.moved (u := U) (U := U.calling g mk a) (Vm.Alike.refl U.vm) qK, qD⟩, fun U hU hW => ⟨rfl, by rw [hU], by rw [hU]; exact hPc, va_K.moved hW.alike hKc, hDc.weaken (fun _ _ _ _ => trivial)⟩⟩ rfl rfl hl.1 rfl (lv_room (Nat.le_of_ble_eq_true rfl)) dX5_type_85 ⟨Nat.le_of_ble_eq_true rfl, Nat.le_of_ble_eq_true rfl⟩) hS (fun q _ h => hFc q h) hFc (fun r9 u t H1 locs ht hvm hw hB hz1 hk1 hS => ?_)
    obtain rfl := hw
    obtain ⟨hP1, hK1, hD1⟩ := hB
    rw [ht] at hP1
    have hK1 := va_K.moved hvm.symm hK1
    obtain ⟨hP, hD⟩ := va_join (wr := [(h0, .inr (9, [.int 0, .ref h1, .ref z0, .ref z1, .int 0, .int 0, .int 0])), (h1, .inl (k0, 4, .inr (.inr (.inr (.inr (va_up (va_up (va_up (va_up (fun _ => none) 0 (some ge5)) 1 (some ge5)) 2 (some ge5)) 3 (some ge5))))))), (h2, .inl (k1, 5, .inl (upd (upd (upd (upd (upd (fun _ => 0) 0 l1) 1 l2) 2 l3) 3 l4) 4 l5))), (h3, .inr (0, [.ref h4, .int 0, .int 0, .int 0])), (h4, .inl (k2, 2, .inl f0))]) (w1 := []) hP hD [] [0, 1, 2, 3, 4] rfl rfl (by decide) (by decide) hk1 hFc hP1 hD1
    generalize H1 = H at hP hS ⊢
    have hP : va_P (dC, dI) vwCl [(h0, .inr (9, [.int 0, .ref h1, .ref z0, .ref z1, .int 0, .int 0, .int 0])), (h1, .inl (k0, 4, .inr (.inr (.inr (.inr (va_up (va_up (va_up (va_up (fun _ => none) 0 (some ge5)) 1 (some ge5)) 2 (some ge5)) 3 (some ge5))))))), (h2, .inl (k1, 5, .inl (upd (upd (upd (upd (upd (fun _ => 0) 0 l1) 1 l2) 2 l3) 3 l4) 4 l5))), (h3, .inr (0, [.ref h4, .int 0, .int 0, .int 0])), (h4, .inl (k2, 2, .inl f0))] H := hP
    have hD : va_D A [(h0, .inr (9, [.int 0, .ref h1, .ref z0, .ref z1, .int 0, .int 0, .int 0])), (h1, .inl (k0, 4, .inr (.inr (.inr (.inr (va_up (va_up (va_up (va_up (fun _ => none) 0 (some ge5)) 1 (some ge5)) 2 (some ge5)) 3 (some ge5))))))), (h2, .inl (k1, 5, .inl (upd (upd (upd (upd (upd (fun _ => 0) 0 l1) 1 l2) 2 l3) 3 l4) 4 l5))), (h3, .inr (0, [.ref h4, .int 0, .int 0, .int 0])), (h4, .inl (k2, 2, .inl f0))] := hD
    refine lv_if_eq (tgt := 118) hx hb dX5_type_88 (by decide) (fun _ => ?_) (fun c9 => absurd (by decide) c9)
    refine lv_iinc (v := 3) (lv' := [(12, .int 3), (8, .int 1), (13, .int l3), (0, .ref h0), (1, .int rp), (7, .ref h2), (9, .ref h3), (10, .ref h2), (11, .int 5)]) hx hb dX5_type_118 hl (k := 8) rfl (by decide) (by decide) rfl (fun ls hl => ?_)
    refine lv_goto (tgt := 47) hx hb dX5_type_121 (by decide) ?_
    have hP := hP.sub (ws' := [(h0, .inr (9, [.int 0, .ref h1, .ref z0, .ref z1, .int 0, .int 0, .int 0])), (h1, .inl (k0, 4, .inr (.inr (.inr (.inr (va_up (va_up (va_up (va_up (fun _ => none) 0 (some ge5)) 1 (some ge5)) 2 (some ge5)) 3 (some ge5))))))), (h2, .inl (k1, 5, .inl (upd (upd (upd (upd (upd (fun _ => 0) 0 l1) 1 l2) 2 l3) 3 l4) 4 l5))), (h3, .inr (0, [.ref h4, .int 0, .int 0, .int 0])), (h4, .inl (k2, 2, .inl f0))]) [0, 1, 2, 3, 4] rfl
    have hD := hD.sub (ws' := [(h0, .inr (9, [.int 0, .ref h1, .ref z0, .ref z1, .int 0, .int 0, .int 0])), (h1, .inl (k0, 4, .inr (.inr (.inr (.inr (va_up (va_up (va_up (va_up (fun _ => none) 0 (some ge5)) 1 (some ge5)) 2 (some ge5)) 3 (some ge5))))))), (h2, .inl (k1, 5, .inl (upd (upd (upd (upd (upd (fun _ => 0) 0 l1) 1 l2) 2 l3) 3 l4) 4 l5))), (h3, .inr (0, [.ref h4, .int 0, .int 0, .int 0])), (h4, .inl (k2, 2, .inl f0))]) [0, 1, 2, 3, 4] (by decide) rfl
    have hK := hK.sub (tys' := [(k0, .object "java/lang/String"), (k1, .int), (k2, .byte)]) [0, 1, 2] rfl
    have hl := lv_sub hl [3, 4, 5, 1, 6, 7, 8, 0] (show lv_pick [(12, .int 3), (8, .int 1), (13, .int l3), (0, .ref h0), (1, .int rp), (7, .ref h2), (9, .ref h3), (10, .ref h2), (11, .int 5)] [3, 4, 5, 1, 6, 7, 8, 0] = [(0, .ref h0), (1, .int rp), (7, .ref h2), (8, .int 1), (9, .ref h3), (10, .ref h2), (11, .int 5), (12, .int 3)] from rfl)
    exact kx_X5_type_h321 f0_t hR hx hb hr hml hown hts hlocks hA hG hS hK hP hD hl
set_option maxHeartbeats 8000000 in
set_option maxRecDepth 100000 in
theorem kx_X5_type_h201 {l : Launch} {dC : Nat → ClassId} {dI : Nat → Nat → Nat} {ge5 gea gv5 gva gde gic gi0 : Nat} {h0 h1 h2 z0 z1 : Nat} {k0 k1 : ClassId} {rp l1 l2 l3 l4 l5 R v : Int32} {p : Program} {e : Env} {s : State} {m : MethodId} {args : Array Value} {below : List Frame} {meth : Method} {c : Code} {A : Nat → Prop} {H : Heap} {locs : List Loc} {ls : Array Slot} (hR : kz_ty rp 0 1 [l3, l4, l5] = (R, v)) (hx : p.tables.exec = Jvm.exec) (hb : c.code = cX5_type) (hr : meth.sig.returnType = some .int) (hml : c.maxLocals = 14) (hown : s.vm.findClass RX5 = some m.cls) (hts : ∀ w ∈ wsX5_type, w.before args s = true) (hlocks : meth.locks = false) (hA : ∀ q : Nat, s.heap.size ≤ q → A q) (hG : gv ge5 gea gv5 gva gde gic gi0 A s s.heap) (hS : va_S A s.heap H locs) (hK : va_K (dC, dI) vwCl [(k0, .object "java/lang/String"), (k1, .int)] s) (hP : va_P (dC, dI) vwCl [(h0, .inr (9, [.int 0, .ref h1, .ref z0, .ref z1, .int 0, .int 0, .int 0])), (h1, .inl (k0, 4, .inr (.inr (.inr (.inr (va_up (va_up (va_up (va_up (fun _ => none) 0 (some ge5)) 1 (some ge5)) 2 (some ge5)) 3 (some ge5))))))), (h2, .inl (k1, 5, .inl (upd (upd (upd (upd (upd (fun _ => 0) 0 l1) 1 l2) 2 l3) 3 l4) 4 l5)))] H) (hD : va_D A [(h0, .inr (9, [.int 0, .ref h1, .ref z0, .ref z1, .int 0, .int 0, .int 0])), (h1, .inl (k0, 4, .inr (.inr (.inr (.inr (va_up (va_up (va_up (va_up (fun _ => none) 0 (some ge5)) 1 (some ge5)) 2 (some ge5)) 3 (some ge5))))))), (h2, .inl (k1, 5, .inl (upd (upd (upd (upd (upd (fun _ => 0) 0 l1) 1 l2) 2 l3) 3 l4) 4 l5)))]) (hl : lv_has ls 14 [(0, .ref h0), (1, .int rp), (7, .ref h2), (8, .int 1), (9, .ref ge5), (10, .ref h2), (11, .int 5), (12, .int 2)]) : W p l e (headSpec wsX5_type ({ frames := 6, cells := 25, slots := 169, locals := 171 })).room s m args below meth c H locs 1 5 (MQ below (va_Qi (fun (r : Int32) (_ : Unit) => r = R) (fun (_ : Unit) (t : State) => va_P (dC, dI) vwCl [(h0, .inr (9, [.int v, .ref h1, .ref z0, .ref z1, .int 0, .int 0, .int 0]))] t.heap ∧ va_K (dC, dI) vwCl [(k0, .object "java/lang/String")] t ∧ va_D A [(h0, .inr (9, [.int v, .ref h1, .ref z0, .ref z1, .int 0, .int 0, .int 0]))]) A) args s 25 169 A) (F0 m 47 ls []) := by
  obtain ⟨⟨g_AO_Text, g_AO_String, g_AO_Object, g_nm_RX1_20, g_nm_RX0_17, g_nm_RX3_31, g_nm_RX2_44, g_nm_RL_121, g_nf_RL_13, g_nf_RL_47, g_ca_IO, g_ca_IA, g_ca_IS, g_ca_IntObj, g_ca_StrObj, g_de_RT, g_de_EX, g_de_TH, g_nc_IA_IO, g_nc_IS_IO, g_nc_IS_IA⟩, ⟨g_s3, g_s5, g_sa, g_x278, g_x280, g_x282, g_x284, g_x286, g_x180, g_x238, g_x250⟩, ⟨g_o5, g_c5, g_v5, g_t5, g_oa, g_ca, g_va, g_ta, g_zc, g_zd, g_td, g_zf, g_zU, g_zN, g_zh, g_zk, g_tk, g_oi, g_vi⟩⟩ := id hG
  have a9 := Int32.le_toInt l3
  have b9 := Int32.toInt_lt l3
  rcases kz_cls l3 with r9 | rfl | rfl | rfl | rfl | rfl | r9
  · have l3_l : ((-2147483648) : Int) ≤ l3.toInt := by omega
    have l3_u : l3.toInt ≤ ((-2) : Int) := by omega
    have hR : kz_ty rp 0 1 [l4, l5] = (R, v) := (kz_ty_b (by omega)).symm.trans hR
    refine lv_iload hx hb dX5_type_47 (lv_at hl 7 rfl) ?_
    refine lv_iload hx hb dX5_type_49 (lv_at hl 6 rfl) ?_
    refine lv_icmp_ge (tgt := 124) hx hb dX5_type_51 (by decide) (fun c9 => absurd c9 (by decide)) (fun _ => ?_)
    refine lv_aload hx hb dX5_type_54 (lv_at hl 5 rfl) ?_
    refine lv_iload hx hb dX5_type_56 (lv_at hl 7 rfl) ?_
    refine va_iald (D := (dC, dI)) hx hb hK hP 2 1 rfl rfl (by unfold vp_in; decide) dX5_type_58 ?_
    refine W.eq (g2 := F0 m 59 ls [.int l3]) rfl ?_
    refine lv_istore (lv' := [(13, .int l3), (0, .ref h0), (1, .int rp), (7, .ref h2), (8, .int 1), (9, .ref ge5), (10, .ref h2), (11, .int 5), (12, .int 2)]) hx hb dX5_type_59 hl (by decide) rfl (fun ls hl => ?_)
    refine lv_iload hx hb dX5_type_61 (lv_at hl 4 rfl) ?_
    refine lv_iload hx hb dX5_type_63 (lv_at hl 0 rfl) ?_
    refine lv_iconst (v := (-1)) hx hb dX5_type_65 (by decide) ?_
    refine lv_iconst (v := 3) hx hb dX5_type_66 (by decide) ?_
    have hPc := hP.sub (ws' := []) [] rfl
    have hDc := hD.sub (ws' := []) [] (by decide) rfl
    have hKc := hK.sub (tys' := []) [] rfl
    have hFc := va_free (wc := []) hD hS hA [] rfl
    refine va_calli (va_runS (As := [.int l3, .int (-1), .int 3]) (rest := [.int 1]) ⟨hx, hb, hml, hown, hts⟩ (kx_X5_isIn_3 l dC dI H.size l3 l3_l l3_u) (cwS 3 hts gX5_type_X5_isIn rfl rfl rfl (by decide +kernel) ⟨Nat.le_of_ble_eq_true rfl, Nat.le_of_ble_eq_true rfl⟩) ⟨fun a U g mk q => by obtain ⟨q0, q1, qP, qK, qD⟩ := q; exact ⟨q0, q1, qP, va_K.moved (u := U) (U := U.calling g mk a) (Vm.Alike.refl U.vm) qK, qD⟩, fun U hU hW => ⟨rfl, by rw [hU], by rw [hU]; exact hPc, va_K.moved hW.alike hKc, hDc.weaken (fun _ _ _ _ => trivial)⟩⟩ rfl rfl hl.1 rfl (lv_room (Nat.le_of_ble_eq_true rfl)) dX5_type_67 ⟨Nat.le_of_ble_eq_true rfl, Nat.le_of_ble_eq_true rfl⟩) hS (fun q _ h => hFc q h) hFc (fun r9 u t H1 locs ht hvm hw hB hz1 hk1 hS => ?_)
    obtain rfl := hw
    obtain ⟨hP1, hK1, hD1⟩ := hB
    rw [ht] at hP1
    have hK1 := va_K.moved hvm.symm hK1
    obtain ⟨hP, hD⟩ := va_join (wr := [(h0, .inr (9, [.int 0, .ref h1, .ref z0, .ref z1, .int 0, .int 0, .int 0])), (h1, .inl (k0, 4, .inr (.inr (.inr (.inr (va_up (va_up (va_up (va_up (fun _ => none) 0 (some ge5)) 1 (some ge5)) 2 (some ge5)) 3 (some ge5))))))), (h2, .inl (k1, 5, .inl (upd (upd (upd (upd (upd (fun _ => 0) 0 l1) 1 l2) 2 l3) 3 l4) 4 l5)))]) (w1 := []) hP hD [] [0, 1, 2] rfl rfl (by decide) (by decide) hk1 hFc hP1 hD1
    generalize H1 = H at hP hS ⊢
    have hP : va_P (dC, dI) vwCl [(h0, .inr (9, [.int 0, .ref h1, .ref z0, .ref z1, .int 0, .int 0, .int 0])), (h1, .inl (k0, 4, .inr (.inr (.inr (.inr (va_up (va_up (va_up (va_up (fun _ => none) 0 (some ge5)) 1 (some ge5)) 2 (some ge5)) 3 (some ge5))))))), (h2, .inl (k1, 5, .inl (upd (upd (upd (upd (upd (fun _ => 0) 0 l1) 1 l2) 2 l3) 3 l4) 4 l5)))] H := hP
    have hD : va_D A [(h0, .inr (9, [.int 0, .ref h1, .ref z0, .ref z1, .int 0, .int 0, .int 0])), (h1, .inl (k0, 4, .inr (.inr (.inr (.inr (va_up (va_up (va_up (va_up (fun _ => none) 0 (some ge5)) 1 (some ge5)) 2 (some ge5)) 3 (some ge5))))))), (h2, .inl (k1, 5, .inl (upd (upd (upd (upd (upd (fun _ => 0) 0 l1) 1 l2) 2 l3) 3 l4) 4 l5)))] := hD
    refine lv_if_ne (tgt := 77) hx hb dX5_type_70 (by decide) (fun c9 => absurd (by decide) c9) (fun _ => ?_)
    refine lv_iconst (v := 1) hx hb dX5_type_73 (by decide) ?_
    refine lv_goto (tgt := 78) hx hb dX5_type_74 (by decide) ?_
    refine lv_ior hx hb dX5_type_78 ?_
    refine lv_topi (fun y101 ey101 => ?_)
    obtain rfl : y101 = 1 := ey101.trans (by decide)
    refine lv_istore (lv' := [(8, .int 1), (13, .int l3), (0, .ref h0), (1, .int rp), (7, .ref h2), (9, .ref ge5), (10, .ref h2), (11, .int 5), (12, .int 2)]) hx hb dX5_type_79 hl (by decide) rfl (fun ls hl => ?_)
    refine lv_iload hx hb dX5_type_81 (lv_at hl 1 rfl) ?_
    refine lv_iconst (v := 0) hx hb dX5_type_83 (by decide) ?_
    refine lv_iconst (v := 3) hx hb dX5_type_84 (by decide) ?_
    have hPc := hP.sub (ws' := []) [] rfl
    have hDc := hD.sub (ws' := []) [] (by decide) rfl
    have hKc := hK.sub (tys' := []) [] rfl
    have hFc := va_free (wc := []) hD hS hA [] rfl
    refine va_calli (va_runS (As := [.int l3, .int 0, .int 3]) (rest := []) ⟨hx, hb, hml, hown, hts⟩ (kx_X5_isIn_4 l dC dI H.size l3 l3_l l3_u) (cwS 3 hts gX5_type_X5_isIn rfl rfl rfl (by decide +kernel) ⟨Nat.le_of_ble_eq_true rfl, Nat.le_of_ble_eq_true rfl⟩) ⟨fun a U g mk q => by obtain ⟨q0, q1, qP, qK, qD⟩ := q; exact ⟨q0, q1, qP, va_K.moved (u := U) (U := U.calling g mk a) (Vm.Alike.refl U.vm) qK, qD⟩, fun U hU hW => ⟨rfl, by rw [hU], by rw [hU]; exact hPc, va_K.moved hW.alike hKc, hDc.weaken (fun _ _ _ _ => trivial)⟩⟩ rfl rfl hl.1 rfl (lv_room (Nat.le_of_ble_eq_true rfl)) dX5_type_85 ⟨Nat.le_of_ble_eq_true rfl, Nat.le_of_ble_eq_true rfl⟩) hS (fun q _ h => hFc q h) hFc (fun r9 u t H1 locs ht hvm hw hB hz1 hk1 hS => ?_)
    obtain rfl := hw
    obtain ⟨hP1, hK1, hD1⟩ := hB
    rw [ht] at hP1
    have hK1 := va_K.moved hvm.symm hK1
    obtain ⟨hP, hD⟩ := va_join (wr := [(h0, .inr (9, [.int 0, .ref h1, .ref z0, .ref z1, .int 0, .int 0, .int 0])), (h1, .inl (k0, 4, .inr (.inr (.inr (.inr (va_up (va_up (va_up (va_up (fun _ => none) 0 (some ge5)) 1 (some ge5)) 2 (some ge5)) 3 (some ge5))))))), (h2, .inl (k1, 5, .inl (upd (upd (upd (upd (upd (fun _ => 0) 0 l1) 1 l2) 2 l3) 3 l4) 4 l5)))]) (w1 := []) hP hD [] [0, 1, 2] rfl rfl (by decide) (by decide) hk1 hFc hP1 hD1
    generalize H1 = H at hP hS ⊢
    have hP : va_P (dC, dI) vwCl [(h0, .inr (9, [.int 0, .ref h1, .ref z0, .ref z1, .int 0, .int 0, .int 0])), (h1, .inl (k0, 4, .inr (.inr (.inr (.inr (va_up (va_up (va_up (va_up (fun _ => none) 0 (some ge5)) 1 (some ge5)) 2 (some ge5)) 3 (some ge5))))))), (h2, .inl (k1, 5, .inl (upd (upd (upd (upd (upd (fun _ => 0) 0 l1) 1 l2) 2 l3) 3 l4) 4 l5)))] H := hP
    have hD : va_D A [(h0, .inr (9, [.int 0, .ref h1, .ref z0, .ref z1, .int 0, .int 0, .int 0])), (h1, .inl (k0, 4, .inr (.inr (.inr (.inr (va_up (va_up (va_up (va_up (fun _ => none) 0 (some ge5)) 1 (some ge5)) 2 (some ge5)) 3 (some ge5))))))), (h2, .inl (k1, 5, .inl (upd (upd (upd (upd (upd (fun _ => 0) 0 l1) 1 l2) 2 l3) 3 l4) 4 l5)))] := hD
    refine lv_if_eq (tgt := 118) hx hb dX5_type_88 (by decide) (fun _ => ?_) (fun c9 => absurd (by decide) c9)
    refine lv_iinc (v := 3) (lv' := [(12, .int 3), (8, .int 1), (13, .int l3), (0, .ref h0), (1, .int rp), (7, .ref h2), (9, .ref ge5), (10, .ref h2), (11, .int 5)]) hx hb dX5_type_118 hl (k := 8) rfl (by decide) (by decide) rfl (fun ls hl => ?_)
    refine lv_goto (tgt := 47) hx hb dX5_type_121 (by decide) ?_
    have hP := hP.sub (ws' := [(h0, .inr (9, [.int 0, .ref h1, .ref z0, .ref z1, .int 0, .int 0, .int 0])), (h1, .inl (k0, 4, .inr (.inr (.inr (.inr (va_up (va_up (va_up (va_up (fun _ => none) 0 (some ge5)) 1 (some ge5)) 2 (some ge5)) 3 (some ge5))))))), (h2, .inl (k1, 5, .inl (upd (upd (upd (upd (upd (fun _ => 0) 0 l1) 1 l2) 2 l3) 3 l4) 4 l5)))]) [0, 1, 2] rfl
    have hD := hD.sub (ws' := [(h0, .inr (9, [.int 0, .ref h1, .ref z0, .ref z1, .int 0, .int 0, .int 0])), (h1, .inl (k0, 4, .inr (.inr (.inr (.inr (va_up (va_up (va_up (va_up (fun _ => none) 0 (some ge5)) 1 (some ge5)) 2 (some ge5)) 3 (some ge5))))))), (h2, .inl (k1, 5, .inl (upd (upd (upd (upd (upd (fun _ => 0) 0 l1) 1 l2) 2 l3) 3 l4) 4 l5)))]) [0, 1, 2] (by decide) rfl
    have hK := hK.sub (tys' := [(k0, .object "java/lang/String"), (k1, .int)]) [0, 1] rfl
    have hl := lv_sub hl [3, 4, 5, 1, 6, 7, 8, 0] (show lv_pick [(12, .int 3), (8, .int 1), (13, .int l3), (0, .ref h0), (1, .int rp), (7, .ref h2), (9, .ref ge5), (10, .ref h2), (11, .int 5)] [3, 4, 5, 1, 6, 7, 8, 0] = [(0, .ref h0), (1, .int rp), (7, .ref h2), (8, .int 1), (9, .ref ge5), (10, .ref h2), (11, .int 5), (12, .int 3)] from rfl)
    exact kx_X5_type_h301 hR hx hb hr hml hown hts hlocks hA hG hS hK hP hD hl
  · have hR : kz_ty rp 0 1 [l4, l5] = (R, v) := kz_ty_n.symm.trans hR
    refine lv_iload hx hb dX5_type_47 (lv_at hl 7 rfl) ?_
    refine lv_iload hx hb dX5_type_49 (lv_at hl 6 rfl) ?_
    refine lv_icmp_ge (tgt := 124) hx hb dX5_type_51 (by decide) (fun c9 => absurd c9 (by decide)) (fun _ => ?_)
    refine lv_aload hx hb dX5_type_54 (lv_at hl 5 rfl) ?_
    refine lv_iload hx hb dX5_type_56 (lv_at hl 7 rfl) ?_
    refine va_iald (D := (dC, dI)) hx hb hK hP 2 1 rfl rfl (by unfold vp_in; decide) dX5_type_58 ?_
    refine W.eq (g2 := F0 m 59 ls [.int (-1)]) rfl ?_
    refine lv_istore (lv' := [(13, .int (-1)), (0, .ref h0), (1, .int rp), (7, .ref h2), (8, .int 1), (9, .ref ge5), (10, .ref h2), (11, .int 5), (12, .int 2)]) hx hb dX5_type_59 hl (by decide) rfl (fun ls hl => ?_)
    refine lv_iload hx hb dX5_type_61 (lv_at hl 4 rfl) ?_
    refine lv_iload hx hb dX5_type_63 (lv_at hl 0 rfl) ?_
    refine lv_iconst (v := (-1)) hx hb dX5_type_65 (by decide) ?_
    refine lv_iconst (v := 3) hx hb dX5_type_66 (by decide) ?_
    have hPc := hP.sub (ws' := []) [] rfl
    have hDc := hD.sub (ws' := []) [] (by decide) rfl
    have hKc := hK.sub (tys' := []) [] rfl
    have hFc := va_free (wc := []) hD hS hA [] rfl
    refine va_calli (va_runS (As := [.int (-1), .int (-1), .int 3]) (rest := [.int 1]) ⟨hx, hb, hml, hown, hts⟩ (kx_X5_isIn_5 l dC dI H.size) (cwS 3 hts gX5_type_X5_isIn rfl rfl rfl (by decide +kernel) ⟨Nat.le_of_ble_eq_true rfl, Nat.le_of_ble_eq_true rfl⟩) ⟨fun a U g mk q => by obtain ⟨q0, q1, qP, qK, qD⟩ := q; exact ⟨q0, q1, qP, va_K.moved (u := U) (U := U.calling g mk a) (Vm.Alike.refl U.vm) qK, qD⟩, fun U hU hW => ⟨rfl, by rw [hU], by rw [hU]; exact hPc, va_K.moved hW.alike hKc, hDc.weaken (fun _ _ _ _ => trivial)⟩⟩ rfl rfl hl.1 rfl (lv_room (Nat.le_of_ble_eq_true rfl)) dX5_type_67 ⟨Nat.le_of_ble_eq_true rfl, Nat.le_of_ble_eq_true rfl⟩) hS (fun q _ h => hFc q h) hFc (fun r9 u t H1 locs ht hvm hw hB hz1 hk1 hS => ?_)
    obtain rfl := hw
    obtain ⟨hP1, hK1, hD1⟩ := hB
    rw [ht] at hP1
    have hK1 := va_K.moved hvm.symm hK1
    obtain ⟨hP, hD⟩ := va_join (wr := [(h0, .inr (9, [.int 0, .ref h1, .ref z0, .ref z1, .int 0, .int 0, .int 0])), (h1, .inl (k0, 4, .inr (.inr (.inr (.inr (va_up (va_up (va_up (va_up (fun _ => none) 0 (some ge5)) 1 (some ge5)) 2 (some ge5)) 3 (some ge5))))))), (h2, .inl (k1, 5, .inl (upd (upd (upd (upd (upd (fun _ => 0) 0 l1) 1 l2) 2 (-1)) 3 l4) 4 l5)))]) (w1 := []) hP hD [] [0, 1, 2] rfl rfl (by decide) (by decide) hk1 hFc hP1 hD1
    generalize H1 = H at hP hS ⊢
    have hP : va_P (dC, dI) vwCl [(h0, .inr (9, [.int 0, .ref h1, .ref z0, .ref z1, .int 0, .int 0, .int 0])), (h1, .inl (k0, 4, .inr (.inr (.inr (.inr (va_up (va_up (va_up (va_up (fun _ => none) 0 (some ge5)) 1 (some ge5)) 2 (some ge5)) 3 (some ge5))))))), (h2, .inl (k1, 5, .inl (upd (upd (upd (upd (upd (fun _ => 0) 0 l1) 1 l2) 2 (-1)) 3 l4) 4 l5)))] H := hP
    have hD : va_D A [(h0, .inr (9, [.int 0, .ref h1, .ref z0, .ref z1, .int 0, .int 0, .int 0])), (h1, .inl (k0, 4, .inr (.inr (.inr (.inr (va_up (va_up (va_up (va_up (fun _ => none) 0 (some ge5)) 1 (some ge5)) 2 (some ge5)) 3 (some ge5))))))), (h2, .inl (k1, 5, .inl (upd (upd (upd (upd (upd (fun _ => 0) 0 l1) 1 l2) 2 (-1)) 3 l4) 4 l5)))] := hD
    refine lv_if_ne (tgt := 77) hx hb dX5_type_70 (by decide) (fun _ => ?_) (fun c9 => absurd c9 (by decide))
    refine lv_iconst (v := 0) hx hb dX5_type_77 (by decide) ?_
    refine lv_ior hx hb dX5_type_78 ?_
    refine lv_topi (fun y101 ey101 => ?_)
    obtain rfl : y101 = 1 := ey101.trans (by decide)
    refine lv_istore (lv' := [(8, .int 1), (13, .int (-1)), (0, .ref h0), (1, .int rp), (7, .ref h2), (9, .ref ge5), (10, .ref h2), (11, .int 5), (12, .int 2)]) hx hb dX5_type_79 hl (by decide) rfl (fun ls hl => ?_)
    refine lv_iload hx hb dX5_type_81 (lv_at hl 1 rfl) ?_
    refine lv_iconst (v := 0) hx hb dX5_type_83 (by decide) ?_
    refine lv_iconst (v := 3) hx hb dX5_type_84 (by decide) ?_
    have hPc := hP.sub (ws' := []) [] rfl
    have hDc := hD.sub (ws' := []) [] (by decide) rfl
    have hKc := hK.sub (tys' := []) [] rfl
    have hFc := va_free (wc := []) hD hS hA [] rfl
    refine va_calli (va_runS (As := [.int (-1), .int 0, .int 3]) (rest := []) ⟨hx, hb, hml, hown, hts⟩ (kx_X5_isIn_6 l dC dI H.size) (cwS 3 hts gX5_type_X5_isIn rfl rfl rfl (by decide +kernel) ⟨Nat.le_of_ble_eq_true rfl, Nat.le_of_ble_eq_true rfl⟩) ⟨fun a U g mk q => by obtain ⟨q0, q1, qP, qK, qD⟩ := q; exact ⟨q0, q1, qP, va_K.moved (u := U) (U := U.calling g mk a) (Vm.Alike.refl U.vm) qK, qD⟩, fun U hU hW => ⟨rfl, by rw [hU], by rw [hU]; exact hPc, va_K.moved hW.alike hKc, hDc.weaken (fun _ _ _ _ => trivial)⟩⟩ rfl rfl hl.1 rfl (lv_room (Nat.le_of_ble_eq_true rfl)) dX5_type_85 ⟨Nat.le_of_ble_eq_true rfl, Nat.le_of_ble_eq_true rfl⟩) hS (fun q _ h => hFc q h) hFc (fun r9 u t H1 locs ht hvm hw hB hz1 hk1 hS => ?_)
    obtain rfl := hw
    obtain ⟨hP1, hK1, hD1⟩ := hB
    rw [ht] at hP1
    have hK1 := va_K.moved hvm.symm hK1
    obtain ⟨hP, hD⟩ := va_join (wr := [(h0, .inr (9, [.int 0, .ref h1, .ref z0, .ref z1, .int 0, .int 0, .int 0])), (h1, .inl (k0, 4, .inr (.inr (.inr (.inr (va_up (va_up (va_up (va_up (fun _ => none) 0 (some ge5)) 1 (some ge5)) 2 (some ge5)) 3 (some ge5))))))), (h2, .inl (k1, 5, .inl (upd (upd (upd (upd (upd (fun _ => 0) 0 l1) 1 l2) 2 (-1)) 3 l4) 4 l5)))]) (w1 := []) hP hD [] [0, 1, 2] rfl rfl (by decide) (by decide) hk1 hFc hP1 hD1
    generalize H1 = H at hP hS ⊢
    have hP : va_P (dC, dI) vwCl [(h0, .inr (9, [.int 0, .ref h1, .ref z0, .ref z1, .int 0, .int 0, .int 0])), (h1, .inl (k0, 4, .inr (.inr (.inr (.inr (va_up (va_up (va_up (va_up (fun _ => none) 0 (some ge5)) 1 (some ge5)) 2 (some ge5)) 3 (some ge5))))))), (h2, .inl (k1, 5, .inl (upd (upd (upd (upd (upd (fun _ => 0) 0 l1) 1 l2) 2 (-1)) 3 l4) 4 l5)))] H := hP
    have hD : va_D A [(h0, .inr (9, [.int 0, .ref h1, .ref z0, .ref z1, .int 0, .int 0, .int 0])), (h1, .inl (k0, 4, .inr (.inr (.inr (.inr (va_up (va_up (va_up (va_up (fun _ => none) 0 (some ge5)) 1 (some ge5)) 2 (some ge5)) 3 (some ge5))))))), (h2, .inl (k1, 5, .inl (upd (upd (upd (upd (upd (fun _ => 0) 0 l1) 1 l2) 2 (-1)) 3 l4) 4 l5)))] := hD
    refine lv_if_eq (tgt := 118) hx hb dX5_type_88 (by decide) (fun _ => ?_) (fun c9 => absurd (by decide) c9)
    refine lv_iinc (v := 3) (lv' := [(12, .int 3), (8, .int 1), (13, .int (-1)), (0, .ref h0), (1, .int rp), (7, .ref h2), (9, .ref ge5), (10, .ref h2), (11, .int 5)]) hx hb dX5_type_118 hl (k := 8) rfl (by decide) (by decide) rfl (fun ls hl => ?_)
    refine lv_goto (tgt := 47) hx hb dX5_type_121 (by decide) ?_
    have hP := hP.sub (ws' := [(h0, .inr (9, [.int 0, .ref h1, .ref z0, .ref z1, .int 0, .int 0, .int 0])), (h1, .inl (k0, 4, .inr (.inr (.inr (.inr (va_up (va_up (va_up (va_up (fun _ => none) 0 (some ge5)) 1 (some ge5)) 2 (some ge5)) 3 (some ge5))))))), (h2, .inl (k1, 5, .inl (upd (upd (upd (upd (upd (fun _ => 0) 0 l1) 1 l2) 2 (-1)) 3 l4) 4 l5)))]) [0, 1, 2] rfl
    have hD := hD.sub (ws' := [(h0, .inr (9, [.int 0, .ref h1, .ref z0, .ref z1, .int 0, .int 0, .int 0])), (h1, .inl (k0, 4, .inr (.inr (.inr (.inr (va_up (va_up (va_up (va_up (fun _ => none) 0 (some ge5)) 1 (some ge5)) 2 (some ge5)) 3 (some ge5))))))), (h2, .inl (k1, 5, .inl (upd (upd (upd (upd (upd (fun _ => 0) 0 l1) 1 l2) 2 (-1)) 3 l4) 4 l5)))]) [0, 1, 2] (by decide) rfl
    have hK := hK.sub (tys' := [(k0, .object "java/lang/String"), (k1, .int)]) [0, 1] rfl
    have hl := lv_sub hl [3, 4, 5, 1, 6, 7, 8, 0] (show lv_pick [(12, .int 3), (8, .int 1), (13, .int (-1)), (0, .ref h0), (1, .int rp), (7, .ref h2), (9, .ref ge5), (10, .ref h2), (11, .int 5)] [3, 4, 5, 1, 6, 7, 8, 0] = [(0, .ref h0), (1, .int rp), (7, .ref h2), (8, .int 1), (9, .ref ge5), (10, .ref h2), (11, .int 5), (12, .int 3)] from rfl)
    exact kx_X5_type_h301 hR hx hb hr hml hown hts hlocks hA hG hS hK hP hD hl
  · have hR : kz_ty rp 1 1 [l4, l5] = (R, v) := (kz_ty_g (by decide) (by decide)).symm.trans hR
    refine lv_iload hx hb dX5_type_47 (lv_at hl 7 rfl) ?_
    refine lv_iload hx hb dX5_type_49 (lv_at hl 6 rfl) ?_
    refine lv_icmp_ge (tgt := 124) hx hb dX5_type_51 (by decide) (fun c9 => absurd c9 (by decide)) (fun _ => ?_)
    refine lv_aload hx hb dX5_type_54 (lv_at hl 5 rfl) ?_
    refine lv_iload hx hb dX5_type_56 (lv_at hl 7 rfl) ?_
    refine va_iald (D := (dC, dI)) hx hb hK hP 2 1 rfl rfl (by unfold vp_in; decide) dX5_type_58 ?_
    refine W.eq (g2 := F0 m 59 ls [.int 0]) rfl ?_
    refine lv_istore (lv' := [(13, .int 0), (0, .ref h0), (1, .int rp), (7, .ref h2), (8, .int 1), (9, .ref ge5), (10, .ref h2), (11, .int 5), (12, .int 2)]) hx hb dX5_type_59 hl (by decide) rfl (fun ls hl => ?_)
    refine lv_iload hx hb dX5_type_61 (lv_at hl 4 rfl) ?_
    refine lv_iload hx hb dX5_type_63 (lv_at hl 0 rfl) ?_
    refine lv_iconst (v := (-1)) hx hb dX5_type_65 (by decide) ?_
    refine lv_iconst (v := 3) hx hb dX5_type_66 (by decide) ?_
    have hPc := hP.sub (ws' := []) [] rfl
    have hDc := hD.sub (ws' := []) [] (by decide) rfl
    have hKc := hK.sub (tys' := []) [] rfl
    have hFc := va_free (wc := []) hD hS hA [] rfl
    refine va_calli (va_runS (As := [.int 0, .int (-1), .int 3]) (rest := [.int 1]) ⟨hx, hb, hml, hown, hts⟩ (kx_X5_isIn_7 l dC dI H.size) (cwS 3 hts gX5_type_X5_isIn rfl rfl rfl (by decide +kernel) ⟨Nat.le_of_ble_eq_true rfl, Nat.le_of_ble_eq_true rfl⟩) ⟨fun a U g mk q => by obtain ⟨q0, q1, qP, qK, qD⟩ := q; exact ⟨q0, q1, qP, va_K.moved (u := U) (U := U.calling g mk a) (Vm.Alike.refl U.vm) qK, qD⟩, fun U hU hW => ⟨rfl, by rw [hU], by rw [hU]; exact hPc, va_K.moved hW.alike hKc, hDc.weaken (fun _ _ _ _ => trivial)⟩⟩ rfl rfl hl.1 rfl (lv_room (Nat.le_of_ble_eq_true rfl)) dX5_type_67 ⟨Nat.le_of_ble_eq_true rfl, Nat.le_of_ble_eq_true rfl⟩) hS (fun q _ h => hFc q h) hFc (fun r9 u t H1 locs ht hvm hw hB hz1 hk1 hS => ?_)
    obtain rfl := hw
    obtain ⟨hP1, hK1, hD1⟩ := hB
    rw [ht] at hP1
    have hK1 := va_K.moved hvm.symm hK1
    obtain ⟨hP, hD⟩ := va_join (wr := [(h0, .inr (9, [.int 0, .ref h1, .ref z0, .ref z1, .int 0, .int 0, .int 0])), (h1, .inl (k0, 4, .inr (.inr (.inr (.inr (va_up (va_up (va_up (va_up (fun _ => none) 0 (some ge5)) 1 (some ge5)) 2 (some ge5)) 3 (some ge5))))))), (h2, .inl (k1, 5, .inl (upd (upd (upd (upd (upd (fun _ => 0) 0 l1) 1 l2) 2 0) 3 l4) 4 l5)))]) (w1 := []) hP hD [] [0, 1, 2] rfl rfl (by decide) (by decide) hk1 hFc hP1 hD1
    generalize H1 = H at hP hS ⊢
    have hP : va_P (dC, dI) vwCl [(h0, .inr (9, [.int 0, .ref h1, .ref z0, .ref z1, .int 0, .int 0, .int 0])), (h1, .inl (k0, 4, .inr (.inr (.inr (.inr (va_up (va_up (va_up (va_up (fun _ => none) 0 (some ge5)) 1 (some ge5)) 2 (some ge5)) 3 (some ge5))))))), (h2, .inl (k1, 5, .inl (upd (upd (upd (upd (upd (fun _ => 0) 0 l1) 1 l2) 2 0) 3 l4) 4 l5)))] H := hP
    have hD : va_D A [(h0, .inr (9, [.int 0, .ref h1, .ref z0, .ref z1, .int 0, .int 0, .int 0])), (h1, .inl (k0, 4, .inr (.inr (.inr (.inr (va_up (va_up (va_up (va_up (fun _ => none) 0 (some ge5)) 1 (some ge5)) 2 (some ge5)) 3 (some ge5))))))), (h2, .inl (k1, 5, .inl (upd (upd (upd (upd (upd (fun _ => 0) 0 l1) 1 l2) 2 0) 3 l4) 4 l5)))] := hD
    refine lv_if_ne (tgt := 77) hx hb dX5_type_70 (by decide) (fun _ => ?_) (fun c9 => absurd c9 (by decide))
    refine lv_iconst (v := 0) hx hb dX5_type_77 (by decide) ?_
    refine lv_ior hx hb dX5_type_78 ?_
    refine lv_topi (fun y101 ey101 => ?_)
    obtain rfl : y101 = 1 := ey101.trans (by decide)
    refine lv_istore (lv' := [(8, .int 1), (13, .int 0), (0, .ref h0), (1, .int rp), (7, .ref h2), (9, .ref ge5), (10, .ref h2), (11, .int 5), (12, .int 2)]) hx hb dX5_type_79 hl (by decide) rfl (fun ls hl => ?_)
    refine lv_iload hx hb dX5_type_81 (lv_at hl 1 rfl) ?_
    refine lv_iconst (v := 0) hx hb dX5_type_83 (by decide) ?_
    refine lv_iconst (v := 3) hx hb dX5_type_84 (by decide) ?_
    have hPc := hP.sub (ws' := []) [] rfl
    have hDc := hD.sub (ws' := []) [] (by decide) rfl
    have hKc := hK.sub (tys' := []) [] rfl
    have hFc := va_free (wc := []) hD hS hA [] rfl
    refine va_calli (va_runS (As := [.int 0, .int 0, .int 3]) (rest := []) ⟨hx, hb, hml, hown, hts⟩ (kx_X5_isIn_8 l dC dI H.size) (cwS 3 hts gX5_type_X5_isIn rfl rfl rfl (by decide +kernel) ⟨Nat.le_of_ble_eq_true rfl, Nat.le_of_ble_eq_true rfl⟩) ⟨fun a U g mk q => by obtain ⟨q0, q1, qP, qK, qD⟩ := q; exact ⟨q0, q1, qP, va_K.moved (u := U) (U := U.calling g mk a) (Vm.Alike.refl U.vm) qK, qD⟩, fun U hU hW => ⟨rfl, by rw [hU], by rw [hU]; exact hPc, va_K.moved hW.alike hKc, hDc.weaken (fun _ _ _ _ => trivial)⟩⟩ rfl rfl hl.1 rfl (lv_room (Nat.le_of_ble_eq_true rfl)) dX5_type_85 ⟨Nat.le_of_ble_eq_true rfl, Nat.le_of_ble_eq_true rfl⟩) hS (fun q _ h => hFc q h) hFc (fun r9 u t H1 locs ht hvm hw hB hz1 hk1 hS => ?_)
    obtain rfl := hw
    obtain ⟨hP1, hK1, hD1⟩ := hB
    rw [ht] at hP1
    have hK1 := va_K.moved hvm.symm hK1
    obtain ⟨hP, hD⟩ := va_join (wr := [(h0, .inr (9, [.int 0, .ref h1, .ref z0, .ref z1, .int 0, .int 0, .int 0])), (h1, .inl (k0, 4, .inr (.inr (.inr (.inr (va_up (va_up (va_up (va_up (fun _ => none) 0 (some ge5)) 1 (some ge5)) 2 (some ge5)) 3 (some ge5))))))), (h2, .inl (k1, 5, .inl (upd (upd (upd (upd (upd (fun _ => 0) 0 l1) 1 l2) 2 0) 3 l4) 4 l5)))]) (w1 := []) hP hD [] [0, 1, 2] rfl rfl (by decide) (by decide) hk1 hFc hP1 hD1
    generalize H1 = H at hP hS ⊢
    have hP : va_P (dC, dI) vwCl [(h0, .inr (9, [.int 0, .ref h1, .ref z0, .ref z1, .int 0, .int 0, .int 0])), (h1, .inl (k0, 4, .inr (.inr (.inr (.inr (va_up (va_up (va_up (va_up (fun _ => none) 0 (some ge5)) 1 (some ge5)) 2 (some ge5)) 3 (some ge5))))))), (h2, .inl (k1, 5, .inl (upd (upd (upd (upd (upd (fun _ => 0) 0 l1) 1 l2) 2 0) 3 l4) 4 l5)))] H := hP
    have hD : va_D A [(h0, .inr (9, [.int 0, .ref h1, .ref z0, .ref z1, .int 0, .int 0, .int 0])), (h1, .inl (k0, 4, .inr (.inr (.inr (.inr (va_up (va_up (va_up (va_up (fun _ => none) 0 (some ge5)) 1 (some ge5)) 2 (some ge5)) 3 (some ge5))))))), (h2, .inl (k1, 5, .inl (upd (upd (upd (upd (upd (fun _ => 0) 0 l1) 1 l2) 2 0) 3 l4) 4 l5)))] := hD
    refine lv_if_eq (tgt := 118) hx hb dX5_type_88 (by decide) (fun c9 => absurd c9 (by decide)) (fun _ => ?_)
    refine va_new (ci := 1) (fs := [.null, .int 0, .int 0, .int 0]) (C := RJ4) (T := TJ4) (N := 4) hx hb hts (by decide +kernel) tyJ4 tyJ4_ok hown (hts (.classLink RX5 49 RJ4) (by decide +kernel)) (hts (.instantiable RJ4 4) (by decide +kernel)) (hts (.initialized RJ4) (by decide +kernel)) hK hP hD hS hA rfl (fun j hj => by rcases (show j = 0 ∨ j = 1 ∨ j = 2 ∨ j = 3 by omega) with rfl | rfl | rfl | rfl <;> rfl) (Nat.le_of_ble_eq_true rfl) (Nat.le_of_ble_eq_true rfl) dX5_type_91 (fun q102 H hP hD hS => ?_)
    have hP : va_P (dC, dI) vwCl [(h0, .inr (9, [.int 0, .ref h1, .ref z0, .ref z1, .int 0, .int 0, .int 0])), (h1, .inl (k0, 4, .inr (.inr (.inr (.inr (va_up (va_up (va_up (va_up (fun _ => none) 0 (some ge5)) 1 (some ge5)) 2 (some ge5)) 3 (some ge5))))))), (h2, .inl (k1, 5, .inl (upd (upd (upd (upd (upd (fun _ => 0) 0 l1) 1 l2) 2 0) 3 l4) 4 l5))), (q102, .inr (1, [.null, .int 0, .int 0, .int 0]))] H := hP
    have hD : va_D A [(h0, .inr (9, [.int 0, .ref h1, .ref z0, .ref z1, .int 0, .int 0, .int 0])), (h1, .inl (k0, 4, .inr (.inr (.inr (.inr (va_up (va_up (va_up (va_up (fun _ => none) 0 (some ge5)) 1 (some ge5)) 2 (some ge5)) 3 (some ge5))))))), (h2, .inl (k1, 5, .inl (upd (upd (upd (upd (upd (fun _ => 0) 0 l1) 1 l2) 2 0) 3 l4) 4 l5))), (q102, .inr (1, [.null, .int 0, .int 0, .int 0]))] := hD
    refine W.widen (k := 2) (n := 9) (by omega) (by omega) ?_
    refine lv_dup hx hb dX5_type_94 rfl ?_
    have hPc := hP.sub (ws' := [(q102, .inr (1, [.null, .int 0, .int 0, .int 0]))]) [3] rfl
    have hDc := hD.sub (ws' := [(q102, .inr (1, [.null, .int 0, .int 0, .int 0]))]) [3] (by decide) rfl
    have hKc := hK.sub (tys' := []) [] rfl
    have hFc := va_free (wc := [(q102, .inr (1, [.null, .int 0, .int 0, .int 0]))]) hD hS hA [3] rfl
    refine va_callv (va_runI (As := []) (rest := [.ref q102]) ⟨hx, hb, hml, hown, hts⟩ (kx_J4_init_da8c8_0 l dC dI ge5 gea gv5 gva gde gic gi0 q102 H.size) (cwI 0 hts gX5_type_J4_init_da8c8 rfl rfl rfl (hts (.initialized RJ4) (by decide +kernel)) (hts (.methodLink RX5 51 yJ4_init_da8c8) (by decide +kernel)) (hts (.instanceMethod yJ4_init_da8c8) (by decide +kernel)) rfl (by decide +kernel) ⟨Nat.le_of_ble_eq_true rfl, Nat.le_of_ble_eq_true rfl⟩) ⟨fun a U g mk q => by obtain ⟨q0, q1, qP, qK, qD, qG⟩ := q; exact ⟨q0, q1, qP, va_K.moved (u := U) (U := U.calling g mk a) (Vm.Alike.refl U.vm) qK, qD, gv.fb qG⟩, fun U hU hW => ⟨rfl, by rw [hU], by rw [hU]; exact hPc, va_K.moved hW.alike hKc, hDc.weaken (fun _ _ _ _ => trivial), gv.pass hW hU hS hFc hG⟩⟩ rfl rfl hl.1 rfl (lv_room (Nat.le_of_ble_eq_true rfl)) dX5_type_95 ⟨Nat.le_of_ble_eq_true rfl, Nat.le_of_ble_eq_true rfl⟩) hS (fun q _ h => hFc q h) hFc (fun u t H1 locs ht hvm hw hB hz1 hk1 hS => ?_)
    obtain ⟨q103, cq104, hP1, hK1, hD1⟩ := hB
    rw [ht] at hP1
    have hK1 := va_K.moved hvm.symm hK1
    obtain ⟨hP, hD⟩ := va_join (wr := [(h0, .inr (9, [.int 0, .ref h1, .ref z0, .ref z1, .int 0, .int 0, .int 0])), (h1, .inl (k0, 4, .inr (.inr (.inr (.inr (va_up (va_up (va_up (va_up (fun _ => none) 0 (some ge5)) 1 (some ge5)) 2 (some ge5)) 3 (some ge5))))))), (h2, .inl (k1, 5, .inl (upd (upd (upd (upd (upd (fun _ => 0) 0 l1) 1 l2) 2 0) 3 l4) 4 l5)))]) (w1 := [(q102, .inr (1, [.ref q103, .int 0, .int 0, .int 0])), (q103, .inl (cq104, 16, .inl (fun _ => 0)))]) hP hD [3] [0, 1, 2] rfl rfl (by decide) (by decide) hk1 hFc hP1 hD1
    have hK := hK.app (hK1.sub (tys' := [(cq104, .byte)]) [0] rfl)
    generalize H1 = H at hP hS ⊢
    have hK : va_K (dC, dI) vwCl [(k0, .object "java/lang/String"), (k1, .int), (cq104, .byte)] s := hK
    have hP : va_P (dC, dI) vwCl [(h0, .inr (9, [.int 0, .ref h1, .ref z0, .ref z1, .int 0, .int 0, .int 0])), (h1, .inl (k0, 4, .inr (.inr (.inr (.inr (va_up (va_up (va_up (va_up (fun _ => none) 0 (some ge5)) 1 (some ge5)) 2 (some ge5)) 3 (some ge5))))))), (h2, .inl (k1, 5, .inl (upd (upd (upd (upd (upd (fun _ => 0) 0 l1) 1 l2) 2 0) 3 l4) 4 l5))), (q102, .inr (1, [.ref q103, .int 0, .int 0, .int 0])), (q103, .inl (cq104, 16, .inl (fun _ => 0)))] H := hP
    have hD : va_D A [(h0, .inr (9, [.int 0, .ref h1, .ref z0, .ref z1, .int 0, .int 0, .int 0])), (h1, .inl (k0, 4, .inr (.inr (.inr (.inr (va_up (va_up (va_up (va_up (fun _ => none) 0 (some ge5)) 1 (some ge5)) 2 (some ge5)) 3 (some ge5))))))), (h2, .inl (k1, 5, .inl (upd (upd (upd (upd (upd (fun _ => 0) 0 l1) 1 l2) 2 0) 3 l4) 4 l5))), (q102, .inr (1, [.ref q103, .int 0, .int 0, .int 0])), (q103, .inl (cq104, 16, .inl (fun _ => 0)))] := hD
    refine W.widen (k := 3) (n := 25) (by omega) (by omega) ?_
    refine lv_aload hx hb dX5_type_98 (lv_at hl 5 rfl) ?_
    have hPc := hP.sub (ws' := [(q102, .inr (1, [.ref q103, .int 0, .int 0, .int 0])), (q103, .inl (cq104, 16, .inl (fun _ => 0)))]) [3, 4] rfl
    have hDc := hD.sub (ws' := [(q102, .inr (1, [.ref q103, .int 0, .int 0, .int 0])), (q103, .inl (cq104, 16, .inl (fun _ => 0)))]) [3, 4] (by decide) rfl
    have hKc := hK.sub (tys' := [(cq104, .byte)]) [2] rfl
    have hFc := va_free (wc := [(q102, .inr (1, [.ref q103, .int 0, .int 0, .int 0])), (q103, .inl (cq104, 16, .inl (fun _ => 0)))]) hD hS hA [3, 4] rfl
    refine va_callr (va_runV (As := [.ref ge5]) (rest := []) ⟨hx, hb, hml, hown, hts⟩ (kx_J4_append_15ec4_0 l dC dI ge5 gea gv5 gva gde gic gi0 q102 q103 cq104 H.size) (cwV 1 hts gX5_type_J4_append_15ec4 rfl rfl rfl (by decide +kernel) ⟨Nat.le_of_ble_eq_true rfl, Nat.le_of_ble_eq_true rfl⟩) ⟨fun a U g mk q => by obtain ⟨q0, q1, qP, qK, qD, qG⟩ := q; exact ⟨q0, q1, qP, va_K.moved (u := U) (U := U.calling g mk a) (Vm.Alike.refl U.vm) qK, qD, gv.fb qG⟩, va_recv hKc hPc (ci := 1) (q0 := 0) rfl rfl, fun U hU hW => ⟨rfl, by rw [hU], by rw [hU]; exact hPc, va_K.moved hW.alike hKc, hDc.weaken (fun _ _ _ _ => trivial), gv.pass hW hU hS hFc hG⟩⟩ rfl rfl hl.1 rfl (lv_room (Nat.le_of_ble_eq_true rfl)) dX5_type_100 ⟨Nat.le_of_ble_eq_true rfl, Nat.le_of_ble_eq_true rfl⟩) hS (fun q _ h => hFc q h) hFc (fun u ra t H1 locs ht hvm hw hB hz1 hk1 hS => ?_)
    obtain ⟨hra, hP1, hK1, hD1⟩ := hB
    rw [hra]
    rw [ht] at hP1
    have hK1 := va_K.moved hvm.symm hK1
    obtain ⟨hP, hD⟩ := va_join (wr := [(h0, .inr (9, [.int 0, .ref h1, .ref z0, .ref z1, .int 0, .int 0, .int 0])), (h1, .inl (k0, 4, .inr (.inr (.inr (.inr (va_up (va_up (va_up (va_up (fun _ => none) 0 (some ge5)) 1 (some ge5)) 2 (some ge5)) 3 (some ge5))))))), (h2, .inl (k1, 5, .inl (upd (upd (upd (upd (upd (fun _ => 0) 0 l1) 1 l2) 2 0) 3 l4) 4 l5)))]) (w1 := [(q102, .inr (1, [.ref q103, .int 0, .int 0, .int 0])), (q103, .inl (cq104, 16, .inl (fun _ => 0)))]) hP hD [3, 4] [0, 1, 2] rfl rfl (by decide) (by decide) hk1 hFc hP1 hD1
    generalize H1 = H at hP hS ⊢
    have hP : va_P (dC, dI) vwCl [(h0, .inr (9, [.int 0, .ref h1, .ref z0, .ref z1, .int 0, .int 0, .int 0])), (h1, .inl (k0, 4, .inr (.inr (.inr (.inr (va_up (va_up (va_up (va_up (fun _ => none) 0 (some ge5)) 1 (some ge5)) 2 (some ge5)) 3 (some ge5))))))), (h2, .inl (k1, 5, .inl (upd (upd (upd (upd (upd (fun _ => 0) 0 l1) 1 l2) 2 0) 3 l4) 4 l5))), (q102, .inr (1, [.ref q103, .int 0, .int 0, .int 0])), (q103, .inl (cq104, 16, .inl (fun _ => 0)))] H := hP
    have hD : va_D A [(h0, .inr (9, [.int 0, .ref h1, .ref z0, .ref z1, .int 0, .int 0, .int 0])), (h1, .inl (k0, 4, .inr (.inr (.inr (.inr (va_up (va_up (va_up (va_up (fun _ => none) 0 (some ge5)) 1 (some ge5)) 2 (some ge5)) 3 (some ge5))))))), (h2, .inl (k1, 5, .inl (upd (upd (upd (upd (upd (fun _ => 0) 0 l1) 1 l2) 2 0) 3 l4) 4 l5))), (q102, .inr (1, [.ref q103, .int 0, .int 0, .int 0])), (q103, .inl (cq104, 16, .inl (fun _ => 0)))] := hD
    refine va_ldcS hx hb hown g_sa dX5_type_103 ?_
    refine lv_iload hx hb dX5_type_105 (lv_at hl 1 rfl) ?_
    have hPc := hP.sub (ws' := []) [] rfl
    have hDc := hD.sub (ws' := []) [] (by decide) rfl
    have hKc := hK.sub (tys' := []) [] rfl
    have hFc := va_free (wc := []) hD hS hA [] rfl
    refine va_calli (va_runV (As := [.int 0]) (rest := [.ref q102]) ⟨hx, hb, hml, hown, hts⟩ (kx_J0_charAt_5068e_0 l dC dI ge5 gea gv5 gva gde gic gi0 H.size) (cwV 1 hts gX5_type_J0_charAt_5068e rfl rfl rfl (by decide +kernel) ⟨Nat.le_of_ble_eq_true rfl, Nat.le_of_ble_eq_true rfl⟩) ⟨fun a U g mk q => by obtain ⟨q0, q1, qP, qK, qD, qG⟩ := q; exact ⟨q0, q1, qP, va_K.moved (u := U) (U := U.calling g mk a) (Vm.Alike.refl U.vm) qK, qD, gv.fb qG⟩, (by obtain ⟨cell, k1, k2, k3, -⟩ := g_oa.kept hS.2.1; exact ⟨cell, k1, k2, k3⟩), fun U hU hW => ⟨rfl, by rw [hU], by rw [hU]; exact hPc, va_K.moved hW.alike hKc, hDc.weaken (fun _ _ _ _ => trivial), gv.pass hW hU hS hFc hG⟩⟩ rfl rfl hl.1 rfl (lv_room (Nat.le_of_ble_eq_true rfl)) dX5_type_107 ⟨Nat.le_of_ble_eq_true rfl, Nat.le_of_ble_eq_true rfl⟩) hS (fun q _ h => hFc q h) hFc (fun r9 u t H1 locs ht hvm hw hB hz1 hk1 hS => ?_)
    obtain rfl := hw
    obtain ⟨hP1, hK1, hD1⟩ := hB
    rw [ht] at hP1
    have hK1 := va_K.moved hvm.symm hK1
    obtain ⟨hP, hD⟩ := va_join (wr := [(h0, .inr (9, [.int 0, .ref h1, .ref z0, .ref z1, .int 0, .int 0, .int 0])), (h1, .inl (k0, 4, .inr (.inr (.inr (.inr (va_up (va_up (va_up (va_up (fun _ => none) 0 (some ge5)) 1 (some ge5)) 2 (some ge5)) 3 (some ge5))))))), (h2, .inl (k1, 5, .inl (upd (upd (upd (upd (upd (fun _ => 0) 0 l1) 1 l2) 2 0) 3 l4) 4 l5))), (q102, .inr (1, [.ref q103, .int 0, .int 0, .int 0])), (q103, .inl (cq104, 16, .inl (fun _ => 0)))]) (w1 := []) hP hD [] [0, 1, 2, 3, 4] rfl rfl (by decide) (by decide) hk1 hFc hP1 hD1
    generalize H1 = H at hP hS ⊢
    have hP : va_P (dC, dI) vwCl [(h0, .inr (9, [.int 0, .ref h1, .ref z0, .ref z1, .int 0, .int 0, .int 0])), (h1, .inl (k0, 4, .inr (.inr (.inr (.inr (va_up (va_up (va_up (va_up (fun _ => none) 0 (some ge5)) 1 (some ge5)) 2 (some ge5)) 3 (some ge5))))))), (h2, .inl (k1, 5, .inl (upd (upd (upd (upd (upd (fun _ => 0) 0 l1) 1 l2) 2 0) 3 l4) 4 l5))), (q102, .inr (1, [.ref q103, .int 0, .int 0, .int 0])), (q103, .inl (cq104, 16, .inl (fun _ => 0)))] H := hP
    have hD : va_D A [(h0, .inr (9, [.int 0, .ref h1, .ref z0, .ref z1, .int 0, .int 0, .int 0])), (h1, .inl (k0, 4, .inr (.inr (.inr (.inr (va_up (va_up (va_up (va_up (fun _ => none) 0 (some ge5)) 1 (some ge5)) 2 (some ge5)) 3 (some ge5))))))), (h2, .inl (k1, 5, .inl (upd (upd (upd (upd (upd (fun _ => 0) 0 l1) 1 l2) 2 0) 3 l4) 4 l5))), (q102, .inr (1, [.ref q103, .int 0, .int 0, .int 0])), (q103, .inl (cq104, 16, .inl (fun _ => 0)))] := hD
    have hPc := hP.sub (ws' := [(q102, .inr (1, [.ref q103, .int 0, .int 0, .int 0])), (q103, .inl (cq104, 16, .inl (fun _ => 0)))]) [3, 4] rfl
    have hDc := hD.sub (ws' := [(q102, .inr (1, [.ref q103, .int 0, .int 0, .int 0])), (q103, .inl (cq104, 16, .inl (fun _ => 0)))]) [3, 4] (by decide) rfl
    have hKc := hK.sub (tys' := [(cq104, .byte)]) [2] rfl
    have hFc := va_free (wc := [(q102, .inr (1, [.ref q103, .int 0, .int 0, .int 0])), (q103, .inl (cq104, 16, .inl (fun _ => 0)))]) hD hS hA [3, 4] rfl
    refine va_callr (va_runV (As := [.int 97]) (rest := []) ⟨hx, hb, hml, hown, hts⟩ (kx_J4_append_cf468_0 l dC dI ge5 gea gv5 gva gde gic gi0 q102 q103 cq104 H.size) (cwV 1 hts gX5_type_J4_append_cf468 rfl rfl rfl (by decide +kernel) ⟨Nat.le_of_ble_eq_true rfl, Nat.le_of_ble_eq_true rfl⟩) ⟨fun a U g mk q => by obtain ⟨q0, q1, qP, qK, qD, qG⟩ := q; exact ⟨q0, q1, qP, va_K.moved (u := U) (U := U.calling g mk a) (Vm.Alike.refl U.vm) qK, qD, gv.fb qG⟩, va_recv hKc hPc (ci := 1) (q0 := 0) rfl rfl, fun U hU hW => ⟨rfl, by rw [hU], by rw [hU]; exact hPc, va_K.moved hW.alike hKc, hDc.weaken (fun _ _ _ _ => trivial), gv.pass hW hU hS hFc hG⟩⟩ rfl rfl hl.1 rfl (lv_room (Nat.le_of_ble_eq_true rfl)) dX5_type_110 ⟨Nat.le_of_ble_eq_true rfl, Nat.le_of_ble_eq_true rfl⟩) hS (fun q _ h => hFc q h) hFc (fun u ra t H1 locs ht hvm hw hB hz1 hk1 hS => ?_)
    obtain ⟨f105, f105_t, hra, hP1, hK1, hD1⟩ := hB
    rw [hra]
    rw [ht] at hP1
    have hK1 := va_K.moved hvm.symm hK1
    obtain ⟨hP, hD⟩ := va_join (wr := [(h0, .inr (9, [.int 0, .ref h1, .ref z0, .ref z1, .int 0, .int 0, .int 0])), (h1, .inl (k0, 4, .inr (.inr (.inr (.inr (va_up (va_up (va_up (va_up (fun _ => none) 0 (some ge5)) 1 (some ge5)) 2 (some ge5)) 3 (some ge5))))))), (h2, .inl (k1, 5, .inl (upd (upd (upd (upd (upd (fun _ => 0) 0 l1) 1 l2) 2 0) 3 l4) 4 l5)))]) (w1 := [(q102, .inr (1, [.ref q103, .int 0, .int 0, .int 1])), (q103, .inl (cq104, 16, .inl f105))]) hP hD [3, 4] [0, 1, 2] rfl rfl (by decide) (by decide) hk1 hFc hP1 hD1
    generalize H1 = H at hP hS ⊢
    have hP : va_P (dC, dI) vwCl [(h0, .inr (9, [.int 0, .ref h1, .ref z0, .ref z1, .int 0, .int 0, .int 0])), (h1, .inl (k0, 4, .inr (.inr (.inr (.inr (va_up (va_up (va_up (va_up (fun _ => none) 0 (some ge5)) 1 (some ge5)) 2 (some ge5)) 3 (some ge5))))))), (h2, .inl (k1, 5, .inl (upd (upd (upd (upd (upd (fun _ => 0) 0 l1) 1 l2) 2 0) 3 l4) 4 l5))), (q102, .inr (1, [.ref q103, .int 0, .int 0, .int 1])), (q103, .inl (cq104, 16, .inl f105))] H := hP
    have hD : va_D A [(h0, .inr (9, [.int 0, .ref h1, .ref z0, .ref z1, .int 0, .int 0, .int 0])), (h1, .inl (k0, 4, .inr (.inr (.inr (.inr (va_up (va_up (va_up (va_up (fun _ => none) 0 (some ge5)) 1 (some ge5)) 2 (some ge5)) 3 (some ge5))))))), (h2, .inl (k1, 5, .inl (upd (upd (upd (upd (upd (fun _ => 0) 0 l1) 1 l2) 2 0) 3 l4) 4 l5))), (q102, .inr (1, [.ref q103, .int 0, .int 0, .int 1])), (q103, .inl (cq104, 16, .inl f105))] := hD
    have hPc := hP.sub (ws' := [(q102, .inr (1, [.ref q103, .int 0, .int 0, .int 1])), (q103, .inl (cq104, 16, .inl f105))]) [3, 4] rfl
    have hDc := hD.sub (ws' := [(q102, .inr (1, [.ref q103, .int 0, .int 0, .int 1])), (q103, .inl (cq104, 16, .inl f105))]) [3, 4] (by decide) rfl
    have hKc := hK.sub (tys' := [(cq104, .byte)]) [2] rfl
    have hFc := va_free (wc := [(q102, .inr (1, [.ref q103, .int 0, .int 0, .int 1])), (q103, .inl (cq104, 16, .inl f105))]) hD hS hA [3, 4] rfl
    refine va_callr (va_runV (As := []) (rest := []) ⟨hx, hb, hml, hown, hts⟩ (kx_J4_toString_0e30d_1 l dC dI ge5 gea gv5 gva gde gic gi0 q102 q103 cq104 H.size f105 f105_t) (cwV 0 hts gX5_type_J4_toString_0e30d rfl rfl rfl (by decide +kernel) ⟨Nat.le_of_ble_eq_true rfl, Nat.le_of_ble_eq_true rfl⟩) ⟨fun a U g mk q => by obtain ⟨q0, q1, qP, qK, qD, qG⟩ := q; exact ⟨q0, q1, qP, va_K.moved (u := U) (U := U.calling g mk a) (Vm.Alike.refl U.vm) qK, qD, gv.fb qG⟩, va_recv hKc hPc (ci := 1) (q0 := 0) rfl rfl, fun U hU hW => ⟨rfl, by rw [hU], by rw [hU]; exact hPc, va_K.moved hW.alike hKc, hDc.weaken (fun _ _ _ _ => trivial), gv.pass hW hU hS hFc hG⟩⟩ rfl rfl hl.1 rfl (lv_room (Nat.le_of_ble_eq_true rfl)) dX5_type_113 ⟨Nat.le_of_ble_eq_true rfl, Nat.le_of_ble_eq_true rfl⟩) hS (fun q _ h => hFc q h) hFc (fun u ra t H1 locs ht hvm hw hB hz1 hk1 hS => ?_)
    obtain ⟨q106, q107, cq108, f109, f109_t, hra, hP1, hK1, hD1⟩ := hB
    rw [hra]
    rw [ht] at hP1
    have hK1 := va_K.moved hvm.symm hK1
    obtain ⟨hP, hD⟩ := va_join (wr := [(h0, .inr (9, [.int 0, .ref h1, .ref z0, .ref z1, .int 0, .int 0, .int 0])), (h1, .inl (k0, 4, .inr (.inr (.inr (.inr (va_up (va_up (va_up (va_up (fun _ => none) 0 (some ge5)) 1 (some ge5)) 2 (some ge5)) 3 (some ge5))))))), (h2, .inl (k1, 5, .inl (upd (upd (upd (upd (upd (fun _ => 0) 0 l1) 1 l2) 2 0) 3 l4) 4 l5)))]) (w1 := [(q102, .inr (1, [.ref q103, .int 0, .int 0, .int 1])), (q103, .inl (cq104, 16, .inl f105)), (q106, .inr (0, [.ref q107, .int 0, .int 0, .int 0])), (q107, .inl (cq108, 1, .inl f109))]) hP hD [3, 4] [0, 1, 2] rfl rfl (by decide) (by decide) hk1 hFc hP1 hD1
    have hK := hK.app (hK1.sub (tys' := [(cq108, .byte)]) [1] rfl)
    generalize H1 = H at hP hS ⊢
    have hK : va_K (dC, dI) vwCl [(k0, .object "java/lang/String"), (k1, .int), (cq104, .byte), (cq108, .byte)] s := hK
    have hP : va_P (dC, dI) vwCl [(h0, .inr (9, [.int 0, .ref h1, .ref z0, .ref z1, .int 0, .int 0, .int 0])), (h1, .inl (k0, 4, .inr (.inr (.inr (.inr (va_up (va_up (va_up (va_up (fun _ => none) 0 (some ge5)) 1 (some ge5)) 2 (some ge5)) 3 (some ge5))))))), (h2, .inl (k1, 5, .inl (upd (upd (upd (upd (upd (fun _ => 0) 0 l1) 1 l2) 2 0) 3 l4) 4 l5))), (q102, .inr (1, [.ref q103, .int 0, .int 0, .int 1])), (q103, .inl (cq104, 16, .inl f105)), (q106, .inr (0, [.ref q107, .int 0, .int 0, .int 0])), (q107, .inl (cq108, 1, .inl f109))] H := hP
    have hD : va_D A [(h0, .inr (9, [.int 0, .ref h1, .ref z0, .ref z1, .int 0, .int 0, .int 0])), (h1, .inl (k0, 4, .inr (.inr (.inr (.inr (va_up (va_up (va_up (va_up (fun _ => none) 0 (some ge5)) 1 (some ge5)) 2 (some ge5)) 3 (some ge5))))))), (h2, .inl (k1, 5, .inl (upd (upd (upd (upd (upd (fun _ => 0) 0 l1) 1 l2) 2 0) 3 l4) 4 l5))), (q102, .inr (1, [.ref q103, .int 0, .int 0, .int 1])), (q103, .inl (cq104, 16, .inl f105)), (q106, .inr (0, [.ref q107, .int 0, .int 0, .int 0])), (q107, .inl (cq108, 1, .inl f109))] := hD
    refine W.widen (k := 5) (n := 30) (by omega) (by omega) ?_
    refine lv_astore (lv' := [(9, .ref q106), (8, .int 1), (13, .int 0), (0, .ref h0), (1, .int rp), (7, .ref h2), (10, .ref h2), (11, .int 5), (12, .int 2)]) hx hb dX5_type_116 hl (by decide) rfl (fun ls hl => ?_)
    refine lv_iinc (v := 3) (lv' := [(12, .int 3), (9, .ref q106), (8, .int 1), (13, .int 0), (0, .ref h0), (1, .int rp), (7, .ref h2), (10, .ref h2), (11, .int 5)]) hx hb dX5_type_118 hl (k := 8) rfl (by decide) (by decide) rfl (fun ls hl => ?_)
    refine lv_goto (tgt := 47) hx hb dX5_type_121 (by decide) ?_
    have hP := hP.sub (ws' := [(h0, .inr (9, [.int 0, .ref h1, .ref z0, .ref z1, .int 0, .int 0, .int 0])), (h1, .inl (k0, 4, .inr (.inr (.inr (.inr (va_up (va_up (va_up (va_up (fun _ => none) 0 (some ge5)) 1 (some ge5)) 2 (some ge5)) 3 (some ge5))))))), (h2, .inl (k1, 5, .inl (upd (upd (upd (upd (upd (fun _ => 0) 0 l1) 1 l2) 2 0) 3 l4) 4 l5))), (q106, .inr (0, [.ref q107, .int 0, .int 0, .int 0])), (q107, .inl (cq108, 1, .inl f109))]) [0, 1, 2, 5, 6] rfl
    have hD := hD.sub (ws' := [(h0, .inr (9, [.int 0, .ref h1, .ref z0, .ref z1, .int 0, .int 0, .int 0])), (h1, .inl (k0, 4, .inr (.inr (.inr (.inr (va_up (va_up (va_up (va_up (fun _ => none) 0 (some ge5)) 1 (some ge5)) 2 (some ge5)) 3 (some ge5))))))), (h2, .inl (k1, 5, .inl (upd (upd (upd (upd (upd (fun _ => 0) 0 l1) 1 l2) 2 0) 3 l4) 4 l5))), (q106, .inr (0, [.ref q107, .int 0, .int 0, .int 0])), (q107, .inl (cq108, 1, .inl f109))]) [0, 1, 2, 5, 6] (by decide) rfl
    have hK := hK.sub (tys' := [(k0, .object "java/lang/String"), (k1, .int), (cq108, .byte)]) [0, 1, 3] rfl
    have hl := lv_sub hl [4, 5, 6, 2, 1, 7, 8, 0] (show lv_pick [(12, .int 3), (9, .ref q106), (8, .int 1), (13, .int 0), (0, .ref h0), (1, .int rp), (7, .ref h2), (10, .ref h2), (11, .int 5)] [4, 5, 6, 2, 1, 7, 8, 0] = [(0, .ref h0), (1, .int rp), (7, .ref h2), (8, .int 1), (9, .ref q106), (10, .ref h2), (11, .int 5), (12, .int 3)] from rfl)
    exact kx_X5_type_h311 f109_t hR hx hb hr hml hown hts hlocks hA hG hS hK hP hD hl
  · have hR : kz_ty rp 1 1 [l4, l5] = (R, v) := (kz_ty_g (by decide) (by decide)).symm.trans hR
    refine lv_iload hx hb dX5_type_47 (lv_at hl 7 rfl) ?_
    refine lv_iload hx hb dX5_type_49 (lv_at hl 6 rfl) ?_
    refine lv_icmp_ge (tgt := 124) hx hb dX5_type_51 (by decide) (fun c9 => absurd c9 (by decide)) (fun _ => ?_)
    refine lv_aload hx hb dX5_type_54 (lv_at hl 5 rfl) ?_
    refine lv_iload hx hb dX5_type_56 (lv_at hl 7 rfl) ?_
    refine va_iald (D := (dC, dI)) hx hb hK hP 2 1 rfl rfl (by unfold vp_in; decide) dX5_type_58 ?_
    refine W.eq (g2 := F0 m 59 ls [.int 1]) rfl ?_
    refine lv_istore (lv' := [(13, .int 1), (0, .ref h0), (1, .int rp), (7, .ref h2), (8, .int 1), (9, .ref ge5), (10, .ref h2), (11, .int 5), (12, .int 2)]) hx hb dX5_type_59 hl (by decide) rfl (fun ls hl => ?_)
    refine lv_iload hx hb dX5_type_61 (lv_at hl 4 rfl) ?_
    refine lv_iload hx hb dX5_type_63 (lv_at hl 0 rfl) ?_
    refine lv_iconst (v := (-1)) hx hb dX5_type_65 (by decide) ?_
    refine lv_iconst (v := 3) hx hb dX5_type_66 (by decide) ?_
    have hPc := hP.sub (ws' := []) [] rfl
    have hDc := hD.sub (ws' := []) [] (by decide) rfl
    have hKc := hK.sub (tys' := []) [] rfl
    have hFc := va_free (wc := []) hD hS hA [] rfl
    refine va_calli (va_runS (As := [.int 1, .int (-1), .int 3]) (rest := [.int 1]) ⟨hx, hb, hml, hown, hts⟩ (kx_X5_isIn_9 l dC dI H.size) (cwS 3 hts gX5_type_X5_isIn rfl rfl rfl (by decide +kernel) ⟨Nat.le_of_ble_eq_true rfl, Nat.le_of_ble_eq_true rfl⟩) ⟨fun a U g mk q => by obtain ⟨q0, q1, qP, qK, qD⟩ := q; exact ⟨q0, q1, qP, va_K.moved (u := U) (U := U.calling g mk a) (Vm.Alike.refl U.vm) qK, qD⟩, fun U hU hW => ⟨rfl, by rw [hU], by rw [hU]; exact hPc, va_K.moved hW.alike hKc, hDc.weaken (fun _ _ _ _ => trivial)⟩⟩ rfl rfl hl.1 rfl (lv_room (Nat.le_of_ble_eq_true rfl)) dX5_type_67 ⟨Nat.le_of_ble_eq_true rfl, Nat.le_of_ble_eq_true rfl⟩) hS (fun q _ h => hFc q h) hFc (fun r9 u t H1 locs ht hvm hw hB hz1 hk1 hS => ?_)
    obtain rfl := hw
    obtain ⟨hP1, hK1, hD1⟩ := hB
    rw [ht] at hP1
    have hK1 := va_K.moved hvm.symm hK1
    obtain ⟨hP, hD⟩ := va_join (wr := [(h0, .inr (9, [.int 0, .ref h1, .ref z0, .ref z1, .int 0, .int 0, .int 0])), (h1, .inl (k0, 4, .inr (.inr (.inr (.inr (va_up (va_up (va_up (va_up (fun _ => none) 0 (some ge5)) 1 (some ge5)) 2 (some ge5)) 3 (some ge5))))))), (h2, .inl (k1, 5, .inl (upd (upd (upd (upd (upd (fun _ => 0) 0 l1) 1 l2) 2 1) 3 l4) 4 l5)))]) (w1 := []) hP hD [] [0, 1, 2] rfl rfl (by decide) (by decide) hk1 hFc hP1 hD1
    generalize H1 = H at hP hS ⊢
    have hP : va_P (dC, dI) vwCl [(h0, .inr (9, [.int 0, .ref h1, .ref z0, .ref z1, .int 0, .int 0, .int 0])), (h1, .inl (k0, 4, .inr (.inr (.inr (.inr (va_up (va_up (va_up (va_up (fun _ => none) 0 (some ge5)) 1 (some ge5)) 2 (some ge5)) 3 (some ge5))))))), (h2, .inl (k1, 5, .inl (upd (upd (upd (upd (upd (fun _ => 0) 0 l1) 1 l2) 2 1) 3 l4) 4 l5)))] H := hP
    have hD : va_D A [(h0, .inr (9, [.int 0, .ref h1, .ref z0, .ref z1, .int 0, .int 0, .int 0])), (h1, .inl (k0, 4, .inr (.inr (.inr (.inr (va_up (va_up (va_up (va_up (fun _ => none) 0 (some ge5)) 1 (some ge5)) 2 (some ge5)) 3 (some ge5))))))), (h2, .inl (k1, 5, .inl (upd (upd (upd (upd (upd (fun _ => 0) 0 l1) 1 l2) 2 1) 3 l4) 4 l5)))] := hD
    refine lv_if_ne (tgt := 77) hx hb dX5_type_70 (by decide) (fun _ => ?_) (fun c9 => absurd c9 (by decide))
    refine lv_iconst (v := 0) hx hb dX5_type_77 (by decide) ?_
    refine lv_ior hx hb dX5_type_78 ?_
    refine lv_topi (fun y101 ey101 => ?_)
    obtain rfl : y101 = 1 := ey101.trans (by decide)
    refine lv_istore (lv' := [(8, .int 1), (13, .int 1), (0, .ref h0), (1, .int rp), (7, .ref h2), (9, .ref ge5), (10, .ref h2), (11, .int 5), (12, .int 2)]) hx hb dX5_type_79 hl (by decide) rfl (fun ls hl => ?_)
    refine lv_iload hx hb dX5_type_81 (lv_at hl 1 rfl) ?_
    refine lv_iconst (v := 0) hx hb dX5_type_83 (by decide) ?_
    refine lv_iconst (v := 3) hx hb dX5_type_84 (by decide) ?_
    have hPc := hP.sub (ws' := []) [] rfl
    have hDc := hD.sub (ws' := []) [] (by decide) rfl
    have hKc := hK.sub (tys' := []) [] rfl
    have hFc := va_free (wc := []) hD hS hA [] rfl
    refine va_calli (va_runS (As := [.int 1, .int 0, .int 3]) (rest := []) ⟨hx, hb, hml, hown, hts⟩ (kx_X5_isIn_10 l dC dI H.size) (cwS 3 hts gX5_type_X5_isIn rfl rfl rfl (by decide +kernel) ⟨Nat.le_of_ble_eq_true rfl, Nat.le_of_ble_eq_true rfl⟩) ⟨fun a U g mk q => by obtain ⟨q0, q1, qP, qK, qD⟩ := q; exact ⟨q0, q1, qP, va_K.moved (u := U) (U := U.calling g mk a) (Vm.Alike.refl U.vm) qK, qD⟩, fun U hU hW => ⟨rfl, by rw [hU], by rw [hU]; exact hPc, va_K.moved hW.alike hKc, hDc.weaken (fun _ _ _ _ => trivial)⟩⟩ rfl rfl hl.1 rfl (lv_room (Nat.le_of_ble_eq_true rfl)) dX5_type_85 ⟨Nat.le_of_ble_eq_true rfl, Nat.le_of_ble_eq_true rfl⟩) hS (fun q _ h => hFc q h) hFc (fun r9 u t H1 locs ht hvm hw hB hz1 hk1 hS => ?_)
    obtain rfl := hw
    obtain ⟨hP1, hK1, hD1⟩ := hB
    rw [ht] at hP1
    have hK1 := va_K.moved hvm.symm hK1
    obtain ⟨hP, hD⟩ := va_join (wr := [(h0, .inr (9, [.int 0, .ref h1, .ref z0, .ref z1, .int 0, .int 0, .int 0])), (h1, .inl (k0, 4, .inr (.inr (.inr (.inr (va_up (va_up (va_up (va_up (fun _ => none) 0 (some ge5)) 1 (some ge5)) 2 (some ge5)) 3 (some ge5))))))), (h2, .inl (k1, 5, .inl (upd (upd (upd (upd (upd (fun _ => 0) 0 l1) 1 l2) 2 1) 3 l4) 4 l5)))]) (w1 := []) hP hD [] [0, 1, 2] rfl rfl (by decide) (by decide) hk1 hFc hP1 hD1
    generalize H1 = H at hP hS ⊢
    have hP : va_P (dC, dI) vwCl [(h0, .inr (9, [.int 0, .ref h1, .ref z0, .ref z1, .int 0, .int 0, .int 0])), (h1, .inl (k0, 4, .inr (.inr (.inr (.inr (va_up (va_up (va_up (va_up (fun _ => none) 0 (some ge5)) 1 (some ge5)) 2 (some ge5)) 3 (some ge5))))))), (h2, .inl (k1, 5, .inl (upd (upd (upd (upd (upd (fun _ => 0) 0 l1) 1 l2) 2 1) 3 l4) 4 l5)))] H := hP
    have hD : va_D A [(h0, .inr (9, [.int 0, .ref h1, .ref z0, .ref z1, .int 0, .int 0, .int 0])), (h1, .inl (k0, 4, .inr (.inr (.inr (.inr (va_up (va_up (va_up (va_up (fun _ => none) 0 (some ge5)) 1 (some ge5)) 2 (some ge5)) 3 (some ge5))))))), (h2, .inl (k1, 5, .inl (upd (upd (upd (upd (upd (fun _ => 0) 0 l1) 1 l2) 2 1) 3 l4) 4 l5)))] := hD
    refine lv_if_eq (tgt := 118) hx hb dX5_type_88 (by decide) (fun c9 => absurd c9 (by decide)) (fun _ => ?_)
    refine va_new (ci := 1) (fs := [.null, .int 0, .int 0, .int 0]) (C := RJ4) (T := TJ4) (N := 4) hx hb hts (by decide +kernel) tyJ4 tyJ4_ok hown (hts (.classLink RX5 49 RJ4) (by decide +kernel)) (hts (.instantiable RJ4 4) (by decide +kernel)) (hts (.initialized RJ4) (by decide +kernel)) hK hP hD hS hA rfl (fun j hj => by rcases (show j = 0 ∨ j = 1 ∨ j = 2 ∨ j = 3 by omega) with rfl | rfl | rfl | rfl <;> rfl) (Nat.le_of_ble_eq_true rfl) (Nat.le_of_ble_eq_true rfl) dX5_type_91 (fun q102 H hP hD hS => ?_)
    have hP : va_P (dC, dI) vwCl [(h0, .inr (9, [.int 0, .ref h1, .ref z0, .ref z1, .int 0, .int 0, .int 0])), (h1, .inl (k0, 4, .inr (.inr (.inr (.inr (va_up (va_up (va_up (va_up (fun _ => none) 0 (some ge5)) 1 (some ge5)) 2 (some ge5)) 3 (some ge5))))))), (h2, .inl (k1, 5, .inl (upd (upd (upd (upd (upd (fun _ => 0) 0 l1) 1 l2) 2 1) 3 l4) 4 l5))), (q102, .inr (1, [.null, .int 0, .int 0, .int 0]))] H := hP
    have hD : va_D A [(h0, .inr (9, [.int 0, .ref h1, .ref z0, .ref z1, .int 0, .int 0, .int 0])), (h1, .inl (k0, 4, .inr (.inr (.inr (.inr (va_up (va_up (va_up (va_up (fun _ => none) 0 (some ge5)) 1 (some ge5)) 2 (some ge5)) 3 (some ge5))))))), (h2, .inl (k1, 5, .inl (upd (upd (upd (upd (upd (fun _ => 0) 0 l1) 1 l2) 2 1) 3 l4) 4 l5))), (q102, .inr (1, [.null, .int 0, .int 0, .int 0]))] := hD
    refine W.widen (k := 2) (n := 9) (by omega) (by omega) ?_
    refine lv_dup hx hb dX5_type_94 rfl ?_
    have hPc := hP.sub (ws' := [(q102, .inr (1, [.null, .int 0, .int 0, .int 0]))]) [3] rfl
    have hDc := hD.sub (ws' := [(q102, .inr (1, [.null, .int 0, .int 0, .int 0]))]) [3] (by decide) rfl
    have hKc := hK.sub (tys' := []) [] rfl
    have hFc := va_free (wc := [(q102, .inr (1, [.null, .int 0, .int 0, .int 0]))]) hD hS hA [3] rfl
    refine va_callv (va_runI (As := []) (rest := [.ref q102]) ⟨hx, hb, hml, hown, hts⟩ (kx_J4_init_da8c8_0 l dC dI ge5 gea gv5 gva gde gic gi0 q102 H.size) (cwI 0 hts gX5_type_J4_init_da8c8 rfl rfl rfl (hts (.initialized RJ4) (by decide +kernel)) (hts (.methodLink RX5 51 yJ4_init_da8c8) (by decide +kernel)) (hts (.instanceMethod yJ4_init_da8c8) (by decide +kernel)) rfl (by decide +kernel) ⟨Nat.le_of_ble_eq_true rfl, Nat.le_of_ble_eq_true rfl⟩) ⟨fun a U g mk q => by obtain ⟨q0, q1, qP, qK, qD, qG⟩ := q; exact ⟨q0, q1, qP, va_K.moved (u := U) (U := U.calling g mk a) (Vm.Alike.refl U.vm) qK, qD, gv.fb qG⟩, fun U hU hW => ⟨rfl, by rw [hU], by rw [hU]; exact hPc, va_K.moved hW.alike hKc, hDc.weaken (fun _ _ _ _ => trivial), gv.pass hW hU hS hFc hG⟩⟩ rfl rfl hl.1 rfl (lv_room (Nat.le_of_ble_eq_true rfl)) dX5_type_95 ⟨Nat.le_of_ble_eq_true rfl, Nat.le_of_ble_eq_true rfl⟩) hS (fun q _ h => hFc q h) hFc (fun u t H1 locs ht hvm hw hB hz1 hk1 hS => ?_)
    obtain ⟨q103, cq104, hP1, hK1, hD1⟩ := hB
    rw [ht] at hP1
    have hK1 := va_K.moved hvm.symm hK1
    obtain ⟨hP, hD⟩ := va_join (wr := [(h0, .inr (9, [.int 0, .ref h1, .ref z0, .ref z1, .int 0, .int 0, .int 0])), (h1, .inl (k0, 4, .inr (.inr (.inr (.inr (va_up (va_up (va_up (va_up (fun _ => none) 0 (some ge5)) 1 (some ge5)) 2 (some ge5)) 3 (some ge5))))))), (h2, .inl (k1, 5, .inl (upd (upd (upd (upd (upd (fun _ => 0) 0 l1) 1 l2) 2 1) 3 l4) 4 l5)))]) (w1 := [(q102, .inr (1, [.ref q103, .int 0, .int 0, .int 0])), (q103, .inl (cq104, 16, .inl (fun _ => 0)))]) hP hD [3] [0, 1, 2] rfl rfl (by decide) (by decide) hk1 hFc hP1 hD1
    have hK := hK.app (hK1.sub (tys' := [(cq104, .byte)]) [0] rfl)
    generalize H1 = H at hP hS ⊢
    have hK : va_K (dC, dI) vwCl [(k0, .object "java/lang/String"), (k1, .int), (cq104, .byte)] s := hK
    have hP : va_P (dC, dI) vwCl [(h0, .inr (9, [.int 0, .ref h1, .ref z0, .ref z1, .int 0, .int 0, .int 0])), (h1, .inl (k0, 4, .inr (.inr (.inr (.inr (va_up (va_up (va_up (va_up (fun _ => none) 0 (some ge5)) 1 (some ge5)) 2 (some ge5)) 3 (some ge5))))))), (h2, .inl (k1, 5, .inl (upd (upd (upd (upd (upd (fun _ => 0) 0 l1) 1 l2) 2 1) 3 l4) 4 l5))), (q102, .inr (1, [.ref q103, .int 0, .int 0, .int 0])), (q103, .inl (cq104, 16, .inl (fun _ => 0)))] H := hP
    have hD : va_D A [(h0, .inr (9, [.int 0, .ref h1, .ref z0, .ref z1, .int 0, .int 0, .int 0])), (h1, .inl (k0, 4, .inr (.inr (.inr (.inr (va_up (va_up (va_up (va_up (fun _ => none) 0 (some ge5)) 1 (some ge5)) 2 (some ge5)) 3 (some ge5))))))), (h2, .inl (k1, 5, .inl (upd (upd (upd (upd (upd (fun _ => 0) 0 l1) 1 l2) 2 1) 3 l4) 4 l5))), (q102, .inr (1, [.ref q103, .int 0, .int 0, .int 0])), (q103, .inl (cq104, 16, .inl (fun _ => 0)))] := hD
    refine W.widen (k := 3) (n := 25) (by omega) (by omega) ?_
    refine lv_aload hx hb dX5_type_98 (lv_at hl 5 rfl) ?_
    have hPc := hP.sub (ws' := [(q102, .inr (1, [.ref q103, .int 0, .int 0, .int 0])), (q103, .inl (cq104, 16, .inl (fun _ => 0)))]) [3, 4] rfl
    have hDc := hD.sub (ws' := [(q102, .inr (1, [.ref q103, .int 0, .int 0, .int 0])), (q103, .inl (cq104, 16, .inl (fun _ => 0)))]) [3, 4] (by decide) rfl
    have hKc := hK.sub (tys' := [(cq104, .byte)]) [2] rfl
    have hFc := va_free (wc := [(q102, .inr (1, [.ref q103, .int 0, .int 0, .int 0])), (q103, .inl (cq104, 16, .inl (fun _ => 0)))]) hD hS hA [3, 4] rfl
    refine va_callr (va_runV (As := [.ref ge5]) (rest := []) ⟨hx, hb, hml, hown, hts⟩ (kx_J4_append_15ec4_0 l dC dI ge5 gea gv5 gva gde gic gi0 q102 q103 cq104 H.size) (cwV 1 hts gX5_type_J4_append_15ec4 rfl rfl rfl (by decide +kernel) ⟨Nat.le_of_ble_eq_true rfl, Nat.le_of_ble_eq_true rfl⟩) ⟨fun a U g mk q => by obtain ⟨q0, q1, qP, qK, qD, qG⟩ := q; exact ⟨q0, q1, qP, va_K.moved (u := U) (U := U.calling g mk a) (Vm.Alike.refl U.vm) qK, qD, gv.fb qG⟩, va_recv hKc hPc (ci := 1) (q0 := 0) rfl rfl, fun U hU hW => ⟨rfl, by rw [hU], by rw [hU]; exact hPc, va_K.moved hW.alike hKc, hDc.weaken (fun _ _ _ _ => trivial), gv.pass hW hU hS hFc hG⟩⟩ rfl rfl hl.1 rfl (lv_room (Nat.le_of_ble_eq_true rfl)) dX5_type_100 ⟨Nat.le_of_ble_eq_true rfl, Nat.le_of_ble_eq_true rfl⟩) hS (fun q _ h => hFc q h) hFc (fun u ra t H1 locs ht hvm hw hB hz1 hk1 hS => ?_)
    obtain ⟨hra, hP1, hK1, hD1⟩ := hB
    rw [hra]
    rw [ht] at hP1
    have hK1 := va_K.moved hvm.symm hK1
    obtain ⟨hP, hD⟩ := va_join (wr := [(h0, .inr (9, [.int 0, .ref h1, .ref z0, .ref z1, .int 0, .int 0, .int 0])), (h1, .inl (k0, 4, .inr (.inr (.inr (.inr (va_up (va_up (va_up (va_up (fun _ => none) 0 (some ge5)) 1 (some ge5)) 2 (some ge5)) 3 (some ge5))))))), (h2, .inl (k1, 5, .inl (upd (upd (upd (upd (upd (fun _ => 0) 0 l1) 1 l2) 2 1) 3 l4) 4 l5)))]) (w1 := [(q102, .inr (1, [.ref q103, .int 0, .int 0, .int 0])), (q103, .inl (cq104, 16, .inl (fun _ => 0)))]) hP hD [3, 4] [0, 1, 2] rfl rfl (by decide) (by decide) hk1 hFc hP1 hD1
    generalize H1 = H at hP hS ⊢
    have hP : va_P (dC, dI) vwCl [(h0, .inr (9, [.int 0, .ref h1, .ref z0, .ref z1, .int 0, .int 0, .int 0])), (h1, .inl (k0, 4, .inr (.inr (.inr (.inr (va_up (va_up (va_up (va_up (fun _ => none) 0 (some ge5)) 1 (some ge5)) 2 (some ge5)) 3 (some ge5))))))), (h2, .inl (k1, 5, .inl (upd (upd (upd (upd (upd (fun _ => 0) 0 l1) 1 l2) 2 1) 3 l4) 4 l5))), (q102, .inr (1, [.ref q103, .int 0, .int 0, .int 0])), (q103, .inl (cq104, 16, .inl (fun _ => 0)))] H := hP
    have hD : va_D A [(h0, .inr (9, [.int 0, .ref h1, .ref z0, .ref z1, .int 0, .int 0, .int 0])), (h1, .inl (k0, 4, .inr (.inr (.inr (.inr (va_up (va_up (va_up (va_up (fun _ => none) 0 (some ge5)) 1 (some ge5)) 2 (some ge5)) 3 (some ge5))))))), (h2, .inl (k1, 5, .inl (upd (upd (upd (upd (upd (fun _ => 0) 0 l1) 1 l2) 2 1) 3 l4) 4 l5))), (q102, .inr (1, [.ref q103, .int 0, .int 0, .int 0])), (q103, .inl (cq104, 16, .inl (fun _ => 0)))] := hD
    refine va_ldcS hx hb hown g_sa dX5_type_103 ?_
    refine lv_iload hx hb dX5_type_105 (lv_at hl 1 rfl) ?_
    have hPc := hP.sub (ws' := []) [] rfl
    have hDc := hD.sub (ws' := []) [] (by decide) rfl
    have hKc := hK.sub (tys' := []) [] rfl
    have hFc := va_free (wc := []) hD hS hA [] rfl
    refine va_calli (va_runV (As := [.int 1]) (rest := [.ref q102]) ⟨hx, hb, hml, hown, hts⟩ (kx_J0_charAt_5068e_1 l dC dI ge5 gea gv5 gva gde gic gi0 H.size) (cwV 1 hts gX5_type_J0_charAt_5068e rfl rfl rfl (by decide +kernel) ⟨Nat.le_of_ble_eq_true rfl, Nat.le_of_ble_eq_true rfl⟩) ⟨fun a U g mk q => by obtain ⟨q0, q1, qP, qK, qD, qG⟩ := q; exact ⟨q0, q1, qP, va_K.moved (u := U) (U := U.calling g mk a) (Vm.Alike.refl U.vm) qK, qD, gv.fb qG⟩, (by obtain ⟨cell, k1, k2, k3, -⟩ := g_oa.kept hS.2.1; exact ⟨cell, k1, k2, k3⟩), fun U hU hW => ⟨rfl, by rw [hU], by rw [hU]; exact hPc, va_K.moved hW.alike hKc, hDc.weaken (fun _ _ _ _ => trivial), gv.pass hW hU hS hFc hG⟩⟩ rfl rfl hl.1 rfl (lv_room (Nat.le_of_ble_eq_true rfl)) dX5_type_107 ⟨Nat.le_of_ble_eq_true rfl, Nat.le_of_ble_eq_true rfl⟩) hS (fun q _ h => hFc q h) hFc (fun r9 u t H1 locs ht hvm hw hB hz1 hk1 hS => ?_)
    obtain rfl := hw
    obtain ⟨hP1, hK1, hD1⟩ := hB
    rw [ht] at hP1
    have hK1 := va_K.moved hvm.symm hK1
    obtain ⟨hP, hD⟩ := va_join (wr := [(h0, .inr (9, [.int 0, .ref h1, .ref z0, .ref z1, .int 0, .int 0, .int 0])), (h1, .inl (k0, 4, .inr (.inr (.inr (.inr (va_up (va_up (va_up (va_up (fun _ => none) 0 (some ge5)) 1 (some ge5)) 2 (some ge5)) 3 (some ge5))))))), (h2, .inl (k1, 5, .inl (upd (upd (upd (upd (upd (fun _ => 0) 0 l1) 1 l2) 2 1) 3 l4) 4 l5))), (q102, .inr (1, [.ref q103, .int 0, .int 0, .int 0])), (q103, .inl (cq104, 16, .inl (fun _ => 0)))]) (w1 := []) hP hD [] [0, 1, 2, 3, 4] rfl rfl (by decide) (by decide) hk1 hFc hP1 hD1
    generalize H1 = H at hP hS ⊢
    have hP : va_P (dC, dI) vwCl [(h0, .inr (9, [.int 0, .ref h1, .ref z0, .ref z1, .int 0, .int 0, .int 0])), (h1, .inl (k0, 4, .inr (.inr (.inr (.inr (va_up (va_up (va_up (va_up (fun _ => none) 0 (some ge5)) 1 (some ge5)) 2 (some ge5)) 3 (some ge5))))))), (h2, .inl (k1, 5, .inl (upd (upd (upd (upd (upd (fun _ => 0) 0 l1) 1 l2) 2 1) 3 l4) 4 l5))), (q102, .inr (1, [.ref q103, .int 0, .int 0, .int 0])), (q103, .inl (cq104, 16, .inl (fun _ => 0)))] H := hP
    have hD : va_D A [(h0, .inr (9, [.int 0, .ref h1, .ref z0, .ref z1, .int 0, .int 0, .int 0])), (h1, .inl (k0, 4, .inr (.inr (.inr (.inr (va_up (va_up (va_up (va_up (fun _ => none) 0 (some ge5)) 1 (some ge5)) 2 (some ge5)) 3 (some ge5))))))), (h2, .inl (k1, 5, .inl (upd (upd (upd (upd (upd (fun _ => 0) 0 l1) 1 l2) 2 1) 3 l4) 4 l5))), (q102, .inr (1, [.ref q103, .int 0, .int 0, .int 0])), (q103, .inl (cq104, 16, .inl (fun _ => 0)))] := hD
    have hPc := hP.sub (ws' := [(q102, .inr (1, [.ref q103, .int 0, .int 0, .int 0])), (q103, .inl (cq104, 16, .inl (fun _ => 0)))]) [3, 4] rfl
    have hDc := hD.sub (ws' := [(q102, .inr (1, [.ref q103, .int 0, .int 0, .int 0])), (q103, .inl (cq104, 16, .inl (fun _ => 0)))]) [3, 4] (by decide) rfl
    have hKc := hK.sub (tys' := [(cq104, .byte)]) [2] rfl
    have hFc := va_free (wc := [(q102, .inr (1, [.ref q103, .int 0, .int 0, .int 0])), (q103, .inl (cq104, 16, .inl (fun _ => 0)))]) hD hS hA [3, 4] rfl
    refine va_callr (va_runV (As := [.int 98]) (rest := []) ⟨hx, hb, hml, hown, hts⟩ (kx_J4_append_cf468_1 l dC dI ge5 gea gv5 gva gde gic gi0 q102 q103 cq104 H.size) (cwV 1 hts gX5_type_J4_append_cf468 rfl rfl rfl (by decide +kernel) ⟨Nat.le_of_ble_eq_true rfl, Nat.le_of_ble_eq_true rfl⟩) ⟨fun a U g mk q => by obtain ⟨q0, q1, qP, qK, qD, qG⟩ := q; exact ⟨q0, q1, qP, va_K.moved (u := U) (U := U.calling g mk a) (Vm.Alike.refl U.vm) qK, qD, gv.fb qG⟩, va_recv hKc hPc (ci := 1) (q0 := 0) rfl rfl, fun U hU hW => ⟨rfl, by rw [hU], by rw [hU]; exact hPc, va_K.moved hW.alike hKc, hDc.weaken (fun _ _ _ _ => trivial), gv.pass hW hU hS hFc hG⟩⟩ rfl rfl hl.1 rfl (lv_room (Nat.le_of_ble_eq_true rfl)) dX5_type_110 ⟨Nat.le_of_ble_eq_true rfl, Nat.le_of_ble_eq_true rfl⟩) hS (fun q _ h => hFc q h) hFc (fun u ra t H1 locs ht hvm hw hB hz1 hk1 hS => ?_)
    obtain ⟨f105, f105_t, hra, hP1, hK1, hD1⟩ := hB
    rw [hra]
    rw [ht] at hP1
    have hK1 := va_K.moved hvm.symm hK1
    obtain ⟨hP, hD⟩ := va_join (wr := [(h0, .inr (9, [.int 0, .ref h1, .ref z0, .ref z1, .int 0, .int 0, .int 0])), (h1, .inl (k0, 4, .inr (.inr (.inr (.inr (va_up (va_up (va_up (va_up (fun _ => none) 0 (some ge5)) 1 (some ge5)) 2 (some ge5)) 3 (some ge5))))))), (h2, .inl (k1, 5, .inl (upd (upd (upd (upd (upd (fun _ => 0) 0 l1) 1 l2) 2 1) 3 l4) 4 l5)))]) (w1 := [(q102, .inr (1, [.ref q103, .int 0, .int 0, .int 1])), (q103, .inl (cq104, 16, .inl f105))]) hP hD [3, 4] [0, 1, 2] rfl rfl (by decide) (by decide) hk1 hFc hP1 hD1
    generalize H1 = H at hP hS ⊢
    have hP : va_P (dC, dI) vwCl [(h0, .inr (9, [.int 0, .ref h1, .ref z0, .ref z1, .int 0, .int 0, .int 0])), (h1, .inl (k0, 4, .inr (.inr (.inr (.inr (va_up (va_up (va_up (va_up (fun _ => none) 0 (some ge5)) 1 (some ge5)) 2 (some ge5)) 3 (some ge5))))))), (h2, .inl (k1, 5, .inl (upd (upd (upd (upd (upd (fun _ => 0) 0 l1) 1 l2) 2 1) 3 l4) 4 l5))), (q102, .inr (1, [.ref q103, .int 0, .int 0, .int 1])), (q103, .inl (cq104, 16, .inl f105))] H := hP
    have hD : va_D A [(h0, .inr (9, [.int 0, .ref h1, .ref z0, .ref z1, .int 0, .int 0, .int 0])), (h1, .inl (k0, 4, .inr (.inr (.inr (.inr (va_up (va_up (va_up (va_up (fun _ => none) 0 (some ge5)) 1 (some ge5)) 2 (some ge5)) 3 (some ge5))))))), (h2, .inl (k1, 5, .inl (upd (upd (upd (upd (upd (fun _ => 0) 0 l1) 1 l2) 2 1) 3 l4) 4 l5))), (q102, .inr (1, [.ref q103, .int 0, .int 0, .int 1])), (q103, .inl (cq104, 16, .inl f105))] := hD
    have hPc := hP.sub (ws' := [(q102, .inr (1, [.ref q103, .int 0, .int 0, .int 1])), (q103, .inl (cq104, 16, .inl f105))]) [3, 4] rfl
    have hDc := hD.sub (ws' := [(q102, .inr (1, [.ref q103, .int 0, .int 0, .int 1])), (q103, .inl (cq104, 16, .inl f105))]) [3, 4] (by decide) rfl
    have hKc := hK.sub (tys' := [(cq104, .byte)]) [2] rfl
    have hFc := va_free (wc := [(q102, .inr (1, [.ref q103, .int 0, .int 0, .int 1])), (q103, .inl (cq104, 16, .inl f105))]) hD hS hA [3, 4] rfl
    refine va_callr (va_runV (As := []) (rest := []) ⟨hx, hb, hml, hown, hts⟩ (kx_J4_toString_0e30d_1 l dC dI ge5 gea gv5 gva gde gic gi0 q102 q103 cq104 H.size f105 f105_t) (cwV 0 hts gX5_type_J4_toString_0e30d rfl rfl rfl (by decide +kernel) ⟨Nat.le_of_ble_eq_true rfl, Nat.le_of_ble_eq_true rfl⟩) ⟨fun a U g mk q => by obtain ⟨q0, q1, qP, qK, qD, qG⟩ := q; exact ⟨q0, q1, qP, va_K.moved (u := U) (U := U.calling g mk a) (Vm.Alike.refl U.vm) qK, qD, gv.fb qG⟩, va_recv hKc hPc (ci := 1) (q0 := 0) rfl rfl, fun U hU hW => ⟨rfl, by rw [hU], by rw [hU]; exact hPc, va_K.moved hW.alike hKc, hDc.weaken (fun _ _ _ _ => trivial), gv.pass hW hU hS hFc hG⟩⟩ rfl rfl hl.1 rfl (lv_room (Nat.le_of_ble_eq_true rfl)) dX5_type_113 ⟨Nat.le_of_ble_eq_true rfl, Nat.le_of_ble_eq_true rfl⟩) hS (fun q _ h => hFc q h) hFc (fun u ra t H1 locs ht hvm hw hB hz1 hk1 hS => ?_)
    obtain ⟨q106, q107, cq108, f109, f109_t, hra, hP1, hK1, hD1⟩ := hB
    rw [hra]
    rw [ht] at hP1
    have hK1 := va_K.moved hvm.symm hK1
    obtain ⟨hP, hD⟩ := va_join (wr := [(h0, .inr (9, [.int 0, .ref h1, .ref z0, .ref z1, .int 0, .int 0, .int 0])), (h1, .inl (k0, 4, .inr (.inr (.inr (.inr (va_up (va_up (va_up (va_up (fun _ => none) 0 (some ge5)) 1 (some ge5)) 2 (some ge5)) 3 (some ge5))))))), (h2, .inl (k1, 5, .inl (upd (upd (upd (upd (upd (fun _ => 0) 0 l1) 1 l2) 2 1) 3 l4) 4 l5)))]) (w1 := [(q102, .inr (1, [.ref q103, .int 0, .int 0, .int 1])), (q103, .inl (cq104, 16, .inl f105)), (q106, .inr (0, [.ref q107, .int 0, .int 0, .int 0])), (q107, .inl (cq108, 1, .inl f109))]) hP hD [3, 4] [0, 1, 2] rfl rfl (by decide) (by decide) hk1 hFc hP1 hD1
    have hK := hK.app (hK1.sub (tys' := [(cq108, .byte)]) [1] rfl)
    generalize H1 = H at hP hS ⊢
    have hK : va_K (dC, dI) vwCl [(k0, .object "java/lang/String"), (k1, .int), (cq104, .byte), (cq108, .byte)] s := hK
    have hP : va_P (dC, dI) vwCl [(h0, .inr (9, [.int 0, .ref h1, .ref z0, .ref z1, .int 0, .int 0, .int 0])), (h1, .inl (k0, 4, .inr (.inr (.inr (.inr (va_up (va_up (va_up (va_up (fun _ => none) 0 (some ge5)) 1 (some ge5)) 2 (some ge5)) 3 (some ge5))))))), (h2, .inl (k1, 5, .inl (upd (upd (upd (upd (upd (fun _ => 0) 0 l1) 1 l2) 2 1) 3 l4) 4 l5))), (q102, .inr (1, [.ref q103, .int 0, .int 0, .int 1])), (q103, .inl (cq104, 16, .inl f105)), (q106, .inr (0, [.ref q107, .int 0, .int 0, .int 0])), (q107, .inl (cq108, 1, .inl f109))] H := hP
    have hD : va_D A [(h0, .inr (9, [.int 0, .ref h1, .ref z0, .ref z1, .int 0, .int 0, .int 0])), (h1, .inl (k0, 4, .inr (.inr (.inr (.inr (va_up (va_up (va_up (va_up (fun _ => none) 0 (some ge5)) 1 (some ge5)) 2 (some ge5)) 3 (some ge5))))))), (h2, .inl (k1, 5, .inl (upd (upd (upd (upd (upd (fun _ => 0) 0 l1) 1 l2) 2 1) 3 l4) 4 l5))), (q102, .inr (1, [.ref q103, .int 0, .int 0, .int 1])), (q103, .inl (cq104, 16, .inl f105)), (q106, .inr (0, [.ref q107, .int 0, .int 0, .int 0])), (q107, .inl (cq108, 1, .inl f109))] := hD
    refine W.widen (k := 5) (n := 30) (by omega) (by omega) ?_
    refine lv_astore (lv' := [(9, .ref q106), (8, .int 1), (13, .int 1), (0, .ref h0), (1, .int rp), (7, .ref h2), (10, .ref h2), (11, .int 5), (12, .int 2)]) hx hb dX5_type_116 hl (by decide) rfl (fun ls hl => ?_)
    refine lv_iinc (v := 3) (lv' := [(12, .int 3), (9, .ref q106), (8, .int 1), (13, .int 1), (0, .ref h0), (1, .int rp), (7, .ref h2), (10, .ref h2), (11, .int 5)]) hx hb dX5_type_118 hl (k := 8) rfl (by decide) (by decide) rfl (fun ls hl => ?_)
    refine lv_goto (tgt := 47) hx hb dX5_type_121 (by decide) ?_
    have hP := hP.sub (ws' := [(h0, .inr (9, [.int 0, .ref h1, .ref z0, .ref z1, .int 0, .int 0, .int 0])), (h1, .inl (k0, 4, .inr (.inr (.inr (.inr (va_up (va_up (va_up (va_up (fun _ => none) 0 (some ge5)) 1 (some ge5)) 2 (some ge5)) 3 (some ge5))))))), (h2, .inl (k1, 5, .inl (upd (upd (upd (upd (upd (fun _ => 0) 0 l1) 1 l2) 2 1) 3 l4) 4 l5))), (q106, .inr (0, [.ref q107, .int 0, .int 0, .int 0])), (q107, .inl (cq108, 1, .inl f109))]) [0, 1, 2, 5, 6] rfl
    have hD := hD.sub (ws' := [(h0, .inr (9, [.int 0, .ref h1, .ref z0, .ref z1, .int 0, .int 0, .int 0])), (h1, .inl (k0, 4, .inr (.inr (.inr (.inr (va_up (va_up (va_up (va_up (fun _ => none) 0 (some ge5)) 1 (some ge5)) 2 (some ge5)) 3 (some ge5))))))), (h2, .inl (k1, 5, .inl (upd (upd (upd (upd (upd (fun _ => 0) 0 l1) 1 l2) 2 1) 3 l4) 4 l5))), (q106, .inr (0, [.ref q107, .int 0, .int 0, .int 0])), (q107, .inl (cq108, 1, .inl f109))]) [0, 1, 2, 5, 6] (by decide) rfl
    have hK := hK.sub (tys' := [(k0, .object "java/lang/String"), (k1, .int), (cq108, .byte)]) [0, 1, 3] rfl
    have hl := lv_sub hl [4, 5, 6, 2, 1, 7, 8, 0] (show lv_pick [(12, .int 3), (9, .ref q106), (8, .int 1), (13, .int 1), (0, .ref h0), (1, .int rp), (7, .ref h2), (10, .ref h2), (11, .int 5)] [4, 5, 6, 2, 1, 7, 8, 0] = [(0, .ref h0), (1, .int rp), (7, .ref h2), (8, .int 1), (9, .ref q106), (10, .ref h2), (11, .int 5), (12, .int 3)] from rfl)
    exact kx_X5_type_h311 f109_t hR hx hb hr hml hown hts hlocks hA hG hS hK hP hD hl
  · have hR : kz_ty rp 1 1 [l4, l5] = (R, v) := (kz_ty_g (by decide) (by decide)).symm.trans hR
    refine lv_iload hx hb dX5_type_47 (lv_at hl 7 rfl) ?_
    refine lv_iload hx hb dX5_type_49 (lv_at hl 6 rfl) ?_
    refine lv_icmp_ge (tgt := 124) hx hb dX5_type_51 (by decide) (fun c9 => absurd c9 (by decide)) (fun _ => ?_)
    refine lv_aload hx hb dX5_type_54 (lv_at hl 5 rfl) ?_
    refine lv_iload hx hb dX5_type_56 (lv_at hl 7 rfl) ?_
    refine va_iald (D := (dC, dI)) hx hb hK hP 2 1 rfl rfl (by unfold vp_in; decide) dX5_type_58 ?_
    refine W.eq (g2 := F0 m 59 ls [.int 2]) rfl ?_
    refine lv_istore (lv' := [(13, .int 2), (0, .ref h0), (1, .int rp), (7, .ref h2), (8, .int 1), (9, .ref ge5), (10, .ref h2), (11, .int 5), (12, .int 2)]) hx hb dX5_type_59 hl (by decide) rfl (fun ls hl => ?_)
    refine lv_iload hx hb dX5_type_61 (lv_at hl 4 rfl) ?_
    refine lv_iload hx hb dX5_type_63 (lv_at hl 0 rfl) ?_
    refine lv_iconst (v := (-1)) hx hb dX5_type_65 (by decide) ?_
    refine lv_iconst (v := 3) hx hb dX5_type_66 (by decide) ?_
    have hPc := hP.sub (ws' := []) [] rfl
    have hDc := hD.sub (ws' := []) [] (by decide) rfl
    have hKc := hK.sub (tys' := []) [] rfl
    have hFc := va_free (wc := []) hD hS hA [] rfl
    refine va_calli (va_runS (As := [.int 2, .int (-1), .int 3]) (rest := [.int 1]) ⟨hx, hb, hml, hown, hts⟩ (kx_X5_isIn_11 l dC dI H.size) (cwS 3 hts gX5_type_X5_isIn rfl rfl rfl (by decide +kernel) ⟨Nat.le_of_ble_eq_true rfl, Nat.le_of_ble_eq_true rfl⟩) ⟨fun a U g mk q => by obtain ⟨q0, q1, qP, qK, qD⟩ := q; exact ⟨q0, q1, qP, va_K.moved (u := U) (U := U.calling g mk a) (Vm.Alike.refl U.vm) qK, qD⟩, fun U hU hW => ⟨rfl, by rw [hU], by rw [hU]; exact hPc, va_K.moved hW.alike hKc, hDc.weaken (fun _ _ _ _ => trivial)⟩⟩ rfl rfl hl.1 rfl (lv_room (Nat.le_of_ble_eq_true rfl)) dX5_type_67 ⟨Nat.le_of_ble_eq_true rfl, Nat.le_of_ble_eq_true rfl⟩) hS (fun q _ h => hFc q h) hFc (fun r9 u t H1 locs ht hvm hw hB hz1 hk1 hS => ?_)
    obtain rfl := hw
    obtain ⟨hP1, hK1, hD1⟩ := hB
    rw [ht] at hP1
    have hK1 := va_K.moved hvm.symm hK1
    obtain ⟨hP, hD⟩ := va_join (wr := [(h0, .inr (9, [.int 0, .ref h1, .ref z0, .ref z1, .int 0, .int 0, .int 0])), (h1, .inl (k0, 4, .inr (.inr (.inr (.inr (va_up (va_up (va_up (va_up (fun _ => none) 0 (some ge5)) 1 (some ge5)) 2 (some ge5)) 3 (some ge5))))))), (h2, .inl (k1, 5, .inl (upd (upd (upd (upd (upd (fun _ => 0) 0 l1) 1 l2) 2 2) 3 l4) 4 l5)))]) (w1 := []) hP hD [] [0, 1, 2] rfl rfl (by decide) (by decide) hk1 hFc hP1 hD1
    generalize H1 = H at hP hS ⊢
    have hP : va_P (dC, dI) vwCl [(h0, .inr (9, [.int 0, .ref h1, .ref z0, .ref z1, .int 0, .int 0, .int 0])), (h1, .inl (k0, 4, .inr (.inr (.inr (.inr (va_up (va_up (va_up (va_up (fun _ => none) 0 (some ge5)) 1 (some ge5)) 2 (some ge5)) 3 (some ge5))))))), (h2, .inl (k1, 5, .inl (upd (upd (upd (upd (upd (fun _ => 0) 0 l1) 1 l2) 2 2) 3 l4) 4 l5)))] H := hP
    have hD : va_D A [(h0, .inr (9, [.int 0, .ref h1, .ref z0, .ref z1, .int 0, .int 0, .int 0])), (h1, .inl (k0, 4, .inr (.inr (.inr (.inr (va_up (va_up (va_up (va_up (fun _ => none) 0 (some ge5)) 1 (some ge5)) 2 (some ge5)) 3 (some ge5))))))), (h2, .inl (k1, 5, .inl (upd (upd (upd (upd (upd (fun _ => 0) 0 l1) 1 l2) 2 2) 3 l4) 4 l5)))] := hD
    refine lv_if_ne (tgt := 77) hx hb dX5_type_70 (by decide) (fun _ => ?_) (fun c9 => absurd c9 (by decide))
    refine lv_iconst (v := 0) hx hb dX5_type_77 (by decide) ?_
    refine lv_ior hx hb dX5_type_78 ?_
    refine lv_topi (fun y101 ey101 => ?_)
    obtain rfl : y101 = 1 := ey101.trans (by decide)
    refine lv_istore (lv' := [(8, .int 1), (13, .int 2), (0, .ref h0), (1, .int rp), (7, .ref h2), (9, .ref ge5), (10, .ref h2), (11, .int 5), (12, .int 2)]) hx hb dX5_type_79 hl (by decide) rfl (fun ls hl => ?_)
    refine lv_iload hx hb dX5_type_81 (lv_at hl 1 rfl) ?_
    refine lv_iconst (v := 0) hx hb dX5_type_83 (by decide) ?_
    refine lv_iconst (v := 3) hx hb dX5_type_84 (by decide) ?_
    have hPc := hP.sub (ws' := []) [] rfl
    have hDc := hD.sub (ws' := []) [] (by decide) rfl
    have hKc := hK.sub (tys' := []) [] rfl
    have hFc := va_free (wc := []) hD hS hA [] rfl
    refine va_calli (va_runS (As := [.int 2, .int 0, .int 3]) (rest := []) ⟨hx, hb, hml, hown, hts⟩ (kx_X5_isIn_12 l dC dI H.size) (cwS 3 hts gX5_type_X5_isIn rfl rfl rfl (by decide +kernel) ⟨Nat.le_of_ble_eq_true rfl, Nat.le_of_ble_eq_true rfl⟩) ⟨fun a U g mk q => by obtain ⟨q0, q1, qP, qK, qD⟩ := q; exact ⟨q0, q1, qP, va_K.moved (u := U) (U := U.calling g mk a) (Vm.Alike.refl U.vm) qK, qD⟩, fun U hU hW => ⟨rfl, by rw [hU], by rw [hU]; exact hPc, va_K.moved hW.alike hKc, hDc.weaken (fun _ _ _ _ => trivial)⟩⟩ rfl rfl hl.1 rfl (lv_room (Nat.le_of_ble_eq_true rfl)) dX5_type_85 ⟨Nat.le_of_ble_eq_true rfl, Nat.le_of_ble_eq_true rfl⟩) hS (fun q _ h => hFc q h) hFc (fun r9 u t H1 locs ht hvm hw hB hz1 hk1 hS => ?_)
    obtain rfl := hw
    obtain ⟨hP1, hK1, hD1⟩ := hB
    rw [ht] at hP1
    have hK1 := va_K.moved hvm.symm hK1
    obtain ⟨hP, hD⟩ := va_join (wr := [(h0, .inr (9, [.int 0, .ref h1, .ref z0, .ref z1, .int 0, .int 0, .int 0])), (h1, .inl (k0, 4, .inr (.inr (.inr (.inr (va_up (va_up (va_up (va_up (fun _ => none) 0 (some ge5)) 1 (some ge5)) 2 (some ge5)) 3 (some ge5))))))), (h2, .inl (k1, 5, .inl (upd (upd (upd (upd (upd (fun _ => 0) 0 l1) 1 l2) 2 2) 3 l4) 4 l5)))]) (w1 := []) hP hD [] [0, 1, 2] rfl rfl (by decide) (by decide) hk1 hFc hP1 hD1
    generalize H1 = H at hP hS ⊢
    have hP : va_P (dC, dI) vwCl [(h0, .inr (9, [.int 0, .ref h1, .ref z0, .ref z1, .int 0, .int 0, .int 0])), (h1, .inl (k0, 4, .inr (.inr (.inr (.inr (va_up (va_up (va_up (va_up (fun _ => none) 0 (some ge5)) 1 (some ge5)) 2 (some ge5)) 3 (some ge5))))))), (h2, .inl (k1, 5, .inl (upd (upd (upd (upd (upd (fun _ => 0) 0 l1) 1 l2) 2 2) 3 l4) 4 l5)))] H := hP
    have hD : va_D A [(h0, .inr (9, [.int 0, .ref h1, .ref z0, .ref z1, .int 0, .int 0, .int 0])), (h1, .inl (k0, 4, .inr (.inr (.inr (.inr (va_up (va_up (va_up (va_up (fun _ => none) 0 (some ge5)) 1 (some ge5)) 2 (some ge5)) 3 (some ge5))))))), (h2, .inl (k1, 5, .inl (upd (upd (upd (upd (upd (fun _ => 0) 0 l1) 1 l2) 2 2) 3 l4) 4 l5)))] := hD
    refine lv_if_eq (tgt := 118) hx hb dX5_type_88 (by decide) (fun c9 => absurd c9 (by decide)) (fun _ => ?_)
    refine va_new (ci := 1) (fs := [.null, .int 0, .int 0, .int 0]) (C := RJ4) (T := TJ4) (N := 4) hx hb hts (by decide +kernel) tyJ4 tyJ4_ok hown (hts (.classLink RX5 49 RJ4) (by decide +kernel)) (hts (.instantiable RJ4 4) (by decide +kernel)) (hts (.initialized RJ4) (by decide +kernel)) hK hP hD hS hA rfl (fun j hj => by rcases (show j = 0 ∨ j = 1 ∨ j = 2 ∨ j = 3 by omega) with rfl | rfl | rfl | rfl <;> rfl) (Nat.le_of_ble_eq_true rfl) (Nat.le_of_ble_eq_true rfl) dX5_type_91 (fun q102 H hP hD hS => ?_)
    have hP : va_P (dC, dI) vwCl [(h0, .inr (9, [.int 0, .ref h1, .ref z0, .ref z1, .int 0, .int 0, .int 0])), (h1, .inl (k0, 4, .inr (.inr (.inr (.inr (va_up (va_up (va_up (va_up (fun _ => none) 0 (some ge5)) 1 (some ge5)) 2 (some ge5)) 3 (some ge5))))))), (h2, .inl (k1, 5, .inl (upd (upd (upd (upd (upd (fun _ => 0) 0 l1) 1 l2) 2 2) 3 l4) 4 l5))), (q102, .inr (1, [.null, .int 0, .int 0, .int 0]))] H := hP
    have hD : va_D A [(h0, .inr (9, [.int 0, .ref h1, .ref z0, .ref z1, .int 0, .int 0, .int 0])), (h1, .inl (k0, 4, .inr (.inr (.inr (.inr (va_up (va_up (va_up (va_up (fun _ => none) 0 (some ge5)) 1 (some ge5)) 2 (some ge5)) 3 (some ge5))))))), (h2, .inl (k1, 5, .inl (upd (upd (upd (upd (upd (fun _ => 0) 0 l1) 1 l2) 2 2) 3 l4) 4 l5))), (q102, .inr (1, [.null, .int 0, .int 0, .int 0]))] := hD
    refine W.widen (k := 2) (n := 9) (by omega) (by omega) ?_
    refine lv_dup hx hb dX5_type_94 rfl ?_
    have hPc := hP.sub (ws' := [(q102, .inr (1, [.null, .int 0, .int 0, .int 0]))]) [3] rfl
    have hDc := hD.sub (ws' := [(q102, .inr (1, [.null, .int 0, .int 0, .int 0]))]) [3] (by decide) rfl
    have hKc := hK.sub (tys' := []) [] rfl
    have hFc := va_free (wc := [(q102, .inr (1, [.null, .int 0, .int 0, .int 0]))]) hD hS hA [3] rfl
    refine va_callv (va_runI (As := []) (rest := [.ref q102]) ⟨hx, hb, hml, hown, hts⟩ (kx_J4_init_da8c8_0 l dC dI ge5 gea gv5 gva gde gic gi0 q102 H.size) (cwI 0 hts gX5_type_J4_init_da8c8 rfl rfl rfl (hts (.initialized RJ4) (by decide +kernel)) (hts (.methodLink RX5 51 yJ4_init_da8c8) (by decide +kernel)) (hts (.instanceMethod yJ4_init_da8c8) (by decide +kernel)) rfl (by decide +kernel) ⟨Nat.le_of_ble_eq_true rfl, Nat.le_of_ble_eq_true rfl⟩) ⟨fun a U g mk q => by obtain ⟨q0, q1, qP, qK, qD, qG⟩ := q; exact ⟨q0, q1, qP, va_K.moved (u := U) (U := U.calling g mk a) (Vm.Alike.refl U.vm) qK, qD, gv.fb qG⟩, fun U hU hW => ⟨rfl, by rw [hU], by rw [hU]; exact hPc, va_K.moved hW.alike hKc, hDc.weaken (fun _ _ _ _ => trivial), gv.pass hW hU hS hFc hG⟩⟩ rfl rfl hl.1 rfl (lv_room (Nat.le_of_ble_eq_true rfl)) dX5_type_95 ⟨Nat.le_of_ble_eq_true rfl, Nat.le_of_ble_eq_true rfl⟩) hS (fun q _ h => hFc q h) hFc (fun u t H1 locs ht hvm hw hB hz1 hk1 hS => ?_)
    obtain ⟨q103, cq104, hP1, hK1, hD1⟩ := hB
    rw [ht] at hP1
    have hK1 := va_K.moved hvm.symm hK1
    obtain ⟨hP, hD⟩ := va_join (wr := [(h0, .inr (9, [.int 0, .ref h1, .ref z0, .ref z1, .int 0, .int 0, .int 0])), (h1, .inl (k0, 4, .inr (.inr (.inr (.inr (va_up (va_up (va_up (va_up (fun _ => none) 0 (some ge5)) 1 (some ge5)) 2 (some ge5)) 3 (some ge5))))))), (h2, .inl (k1, 5, .inl (upd (upd (upd (upd (upd (fun _ => 0) 0 l1) 1 l2) 2 2) 3 l4) 4 l5)))]) (w1 := [(q102, .inr (1, [.ref q103, .int 0, .int 0, .int 0])), (q103, .inl (cq104, 16, .inl (fun _ => 0)))]) hP hD [3] [0, 1, 2] rfl rfl (by decide) (by decide) hk1 hFc hP1 hD1
    have hK := hK.app (hK1.sub (tys' := [(cq104, .byte)]) [0] rfl)
    generalize H1 = H at hP hS ⊢
    have hK : va_K (dC, dI) vwCl [(k0, .object "java/lang/String"), (k1, .int), (cq104, .byte)] s := hK
    have hP : va_P (dC, dI) vwCl [(h0, .inr (9, [.int 0, .ref h1, .ref z0, .ref z1, .int 0, .int 0, .int 0])), (h1, .inl (k0, 4, .inr (.inr (.inr (.inr (va_up (va_up (va_up (va_up (fun _ => none) 0 (some ge5)) 1 (some ge5)) 2 (some ge5)) 3 (some ge5))))))), (h2, .inl (k1, 5, .inl (upd (upd (upd (upd (upd (fun _ => 0) 0 l1) 1 l2) 2 2) 3 l4) 4 l5))), (q102, .inr (1, [.ref q103, .int 0, .int 0, .int 0])), (q103, .inl (cq104, 16, .inl (fun _ => 0)))] H := hP
    have hD : va_D A [(h0, .inr (9, [.int 0, .ref h1, .ref z0, .ref z1, .int 0, .int 0, .int 0])), (h1, .inl (k0, 4, .inr (.inr (.inr (.inr (va_up (va_up (va_up (va_up (fun _ => none) 0 (some ge5)) 1 (some ge5)) 2 (some ge5)) 3 (some ge5))))))), (h2, .inl (k1, 5, .inl (upd (upd (upd (upd (upd (fun _ => 0) 0 l1) 1 l2) 2 2) 3 l4) 4 l5))), (q102, .inr (1, [.ref q103, .int 0, .int 0, .int 0])), (q103, .inl (cq104, 16, .inl (fun _ => 0)))] := hD
    refine W.widen (k := 3) (n := 25) (by omega) (by omega) ?_
    refine lv_aload hx hb dX5_type_98 (lv_at hl 5 rfl) ?_
    have hPc := hP.sub (ws' := [(q102, .inr (1, [.ref q103, .int 0, .int 0, .int 0])), (q103, .inl (cq104, 16, .inl (fun _ => 0)))]) [3, 4] rfl
    have hDc := hD.sub (ws' := [(q102, .inr (1, [.ref q103, .int 0, .int 0, .int 0])), (q103, .inl (cq104, 16, .inl (fun _ => 0)))]) [3, 4] (by decide) rfl
    have hKc := hK.sub (tys' := [(cq104, .byte)]) [2] rfl
    have hFc := va_free (wc := [(q102, .inr (1, [.ref q103, .int 0, .int 0, .int 0])), (q103, .inl (cq104, 16, .inl (fun _ => 0)))]) hD hS hA [3, 4] rfl
    refine va_callr (va_runV (As := [.ref ge5]) (rest := []) ⟨hx, hb, hml, hown, hts⟩ (kx_J4_append_15ec4_0 l dC dI ge5 gea gv5 gva gde gic gi0 q102 q103 cq104 H.size) (cwV 1 hts gX5_type_J4_append_15ec4 rfl rfl rfl (by decide +kernel) ⟨Nat.le_of_ble_eq_true rfl, Nat.le_of_ble_eq_true rfl⟩) ⟨fun a U g mk q => by obtain ⟨q0, q1, qP, qK, qD, qG⟩ := q; exact ⟨q0, q1, qP, va_K.moved (u := U) (U := U.calling g mk a) (Vm.Alike.refl U.vm) qK, qD, gv.fb qG⟩, va_recv hKc hPc (ci := 1) (q0 := 0) rfl rfl, fun U hU hW => ⟨rfl, by rw [hU], by rw [hU]; exact hPc, va_K.moved hW.alike hKc, hDc.weaken (fun _ _ _ _ => trivial), gv.pass hW hU hS hFc hG⟩⟩ rfl rfl hl.1 rfl (lv_room (Nat.le_of_ble_eq_true rfl)) dX5_type_100 ⟨Nat.le_of_ble_eq_true rfl, Nat.le_of_ble_eq_true rfl⟩) hS (fun q _ h => hFc q h) hFc (fun u ra t H1 locs ht hvm hw hB hz1 hk1 hS => ?_)
    obtain ⟨hra, hP1, hK1, hD1⟩ := hB
    rw [hra]
    rw [ht] at hP1
    have hK1 := va_K.moved hvm.symm hK1
    obtain ⟨hP, hD⟩ := va_join (wr := [(h0, .inr (9, [.int 0, .ref h1, .ref z0, .ref z1, .int 0, .int 0, .int 0])), (h1, .inl (k0, 4, .inr (.inr (.inr (.inr (va_up (va_up (va_up (va_up (fun _ => none) 0 (some ge5)) 1 (some ge5)) 2 (some ge5)) 3 (some ge5))))))), (h2, .inl (k1, 5, .inl (upd (upd (upd (upd (upd (fun _ => 0) 0 l1) 1 l2) 2 2) 3 l4) 4 l5)))]) (w1 := [(q102, .inr (1, [.ref q103, .int 0, .int 0, .int 0])), (q103, .inl (cq104, 16, .inl (fun _ => 0)))]) hP hD [3, 4] [0, 1, 2] rfl rfl (by decide) (by decide) hk1 hFc hP1 hD1
    generalize H1 = H at hP hS ⊢
    have hP : va_P (dC, dI) vwCl [(h0, .inr (9, [.int 0, .ref h1, .ref z0, .ref z1, .int 0, .int 0, .int 0])), (h1, .inl (k0, 4, .inr (.inr (.inr (.inr (va_up (va_up (va_up (va_up (fun _ => none) 0 (some ge5)) 1 (some ge5)) 2 (some ge5)) 3 (some ge5))))))), (h2, .inl (k1, 5, .inl (upd (upd (upd (upd (upd (fun _ => 0) 0 l1) 1 l2) 2 2) 3 l4) 4 l5))), (q102, .inr (1, [.ref q103, .int 0, .int 0, .int 0])), (q103, .inl (cq104, 16, .inl (fun _ => 0)))] H := hP
    have hD : va_D A [(h0, .inr (9, [.int 0, .ref h1, .ref z0, .ref z1, .int 0, .int 0, .int 0])), (h1, .inl (k0, 4, .inr (.inr (.inr (.inr (va_up (va_up (va_up (va_up (fun _ => none) 0 (some ge5)) 1 (some ge5)) 2 (some ge5)) 3 (some ge5))))))), (h2, .inl (k1, 5, .inl (upd (upd (upd (upd (upd (fun _ => 0) 0 l1) 1 l2) 2 2) 3 l4) 4 l5))), (q102, .inr (1, [.ref q103, .int 0, .int 0, .int 0])), (q103, .inl (cq104, 16, .inl (fun _ => 0)))] := hD
    refine va_ldcS hx hb hown g_sa dX5_type_103 ?_
    refine lv_iload hx hb dX5_type_105 (lv_at hl 1 rfl) ?_
    have hPc := hP.sub (ws' := []) [] rfl
    have hDc := hD.sub (ws' := []) [] (by decide) rfl
    have hKc := hK.sub (tys' := []) [] rfl
    have hFc := va_free (wc := []) hD hS hA [] rfl
    refine va_calli (va_runV (As := [.int 2]) (rest := [.ref q102]) ⟨hx, hb, hml, hown, hts⟩ (kx_J0_charAt_5068e_2 l dC dI ge5 gea gv5 gva gde gic gi0 H.size) (cwV 1 hts gX5_type_J0_charAt_5068e rfl rfl rfl (by decide +kernel) ⟨Nat.le_of_ble_eq_true rfl, Nat.le_of_ble_eq_true rfl⟩) ⟨fun a U g mk q => by obtain ⟨q0, q1, qP, qK, qD, qG⟩ := q; exact ⟨q0, q1, qP, va_K.moved (u := U) (U := U.calling g mk a) (Vm.Alike.refl U.vm) qK, qD, gv.fb qG⟩, (by obtain ⟨cell, k1, k2, k3, -⟩ := g_oa.kept hS.2.1; exact ⟨cell, k1, k2, k3⟩), fun U hU hW => ⟨rfl, by rw [hU], by rw [hU]; exact hPc, va_K.moved hW.alike hKc, hDc.weaken (fun _ _ _ _ => trivial), gv.pass hW hU hS hFc hG⟩⟩ rfl rfl hl.1 rfl (lv_room (Nat.le_of_ble_eq_true rfl)) dX5_type_107 ⟨Nat.le_of_ble_eq_true rfl, Nat.le_of_ble_eq_true rfl⟩) hS (fun q _ h => hFc q h) hFc (fun r9 u t H1 locs ht hvm hw hB hz1 hk1 hS => ?_)
    obtain rfl := hw
    obtain ⟨hP1, hK1, hD1⟩ := hB
    rw [ht] at hP1
    have hK1 := va_K.moved hvm.symm hK1
    obtain ⟨hP, hD⟩ := va_join (wr := [(h0, .inr (9, [.int 0, .ref h1, .ref z0, .ref z1, .int 0, .int 0, .int 0])), (h1, .inl (k0, 4, .inr (.inr (.inr (.inr (va_up (va_up (va_up (va_up (fun _ => none) 0 (some ge5)) 1 (some ge5)) 2 (some ge5)) 3 (some ge5))))))), (h2, .inl (k1, 5, .inl (upd (upd (upd (upd (upd (fun _ => 0) 0 l1) 1 l2) 2 2) 3 l4) 4 l5))), (q102, .inr (1, [.ref q103, .int 0, .int 0, .int 0])), (q103, .inl (cq104, 16, .inl (fun _ => 0)))]) (w1 := []) hP hD [] [0, 1, 2, 3, 4] rfl rfl (by decide) (by decide) hk1 hFc hP1 hD1
    generalize H1 = H at hP hS ⊢
    have hP : va_P (dC, dI) vwCl [(h0, .inr (9, [.int 0, .ref h1, .ref z0, .ref z1, .int 0, .int 0, .int 0])), (h1, .inl (k0, 4, .inr (.inr (.inr (.inr (va_up (va_up (va_up (va_up (fun _ => none) 0 (some ge5)) 1 (some ge5)) 2 (some ge5)) 3 (some ge5))))))), (h2, .inl (k1, 5, .inl (upd (upd (upd (upd (upd (fun _ => 0) 0 l1) 1 l2) 2 2) 3 l4) 4 l5))), (q102, .inr (1, [.ref q103, .int 0, .int 0, .int 0])), (q103, .inl (cq104, 16, .inl (fun _ => 0)))] H := hP
    have hD : va_D A [(h0, .inr (9, [.int 0, .ref h1, .ref z0, .ref z1, .int 0, .int 0, .int 0])), (h1, .inl (k0, 4, .inr (.inr (.inr (.inr (va_up (va_up (va_up (va_up (fun _ => none) 0 (some ge5)) 1 (some ge5)) 2 (some ge5)) 3 (some ge5))))))), (h2, .inl (k1, 5, .inl (upd (upd (upd (upd (upd (fun _ => 0) 0 l1) 1 l2) 2 2) 3 l4) 4 l5))), (q102, .inr (1, [.ref q103, .int 0, .int 0, .int 0])), (q103, .inl (cq104, 16, .inl (fun _ => 0)))] := hD
    have hPc := hP.sub (ws' := [(q102, .inr (1, [.ref q103, .int 0, .int 0, .int 0])), (q103, .inl (cq104, 16, .inl (fun _ => 0)))]) [3, 4] rfl
    have hDc := hD.sub (ws' := [(q102, .inr (1, [.ref q103, .int 0, .int 0, .int 0])), (q103, .inl (cq104, 16, .inl (fun _ => 0)))]) [3, 4] (by decide) rfl
    have hKc := hK.sub (tys' := [(cq104, .byte)]) [2] rfl
    have hFc := va_free (wc := [(q102, .inr (1, [.ref q103, .int 0, .int 0, .int 0])), (q103, .inl (cq104, 16, .inl (fun _ => 0)))]) hD hS hA [3, 4] rfl
    refine va_callr (va_runV (As := [.int 99]) (rest := []) ⟨hx, hb, hml, hown, hts⟩ (kx_J4_append_cf468_2 l dC dI ge5 gea gv5 gva gde gic gi0 q102 q103 cq104 H.size) (cwV 1 hts gX5_type_J4_append_cf468 rfl rfl rfl (by decide +kernel) ⟨Nat.le_of_ble_eq_true rfl, Nat.le_of_ble_eq_true rfl⟩) ⟨fun a U g mk q => by obtain ⟨q0, q1, qP, qK, qD, qG⟩ := q; exact ⟨q0, q1, qP, va_K.moved (u := U) (U := U.calling g mk a) (Vm.Alike.refl U.vm) qK, qD, gv.fb qG⟩, va_recv hKc hPc (ci := 1) (q0 := 0) rfl rfl, fun U hU hW => ⟨rfl, by rw [hU], by rw [hU]; exact hPc, va_K.moved hW.alike hKc, hDc.weaken (fun _ _ _ _ => trivial), gv.pass hW hU hS hFc hG⟩⟩ rfl rfl hl.1 rfl (lv_room (Nat.le_of_ble_eq_true rfl)) dX5_type_110 ⟨Nat.le_of_ble_eq_true rfl, Nat.le_of_ble_eq_true rfl⟩) hS (fun q _ h => hFc q h) hFc (fun u ra t H1 locs ht hvm hw hB hz1 hk1 hS => ?_)
    obtain ⟨f105, f105_t, hra, hP1, hK1, hD1⟩ := hB
    rw [hra]
    rw [ht] at hP1
    have hK1 := va_K.moved hvm.symm hK1
    obtain ⟨hP, hD⟩ := va_join (wr := [(h0, .inr (9, [.int 0, .ref h1, .ref z0, .ref z1, .int 0, .int 0, .int 0])), (h1, .inl (k0, 4, .inr (.inr (.inr (.inr (va_up (va_up (va_up (va_up (fun _ => none) 0 (some ge5)) 1 (some ge5)) 2 (some ge5)) 3 (some ge5))))))), (h2, .inl (k1, 5, .inl (upd (upd (upd (upd (upd (fun _ => 0) 0 l1) 1 l2) 2 2) 3 l4) 4 l5)))]) (w1 := [(q102, .inr (1, [.ref q103, .int 0, .int 0, .int 1])), (q103, .inl (cq104, 16, .inl f105))]) hP hD [3, 4] [0, 1, 2] rfl rfl (by decide) (by decide) hk1 hFc hP1 hD1
    generalize H1 = H at hP hS ⊢
    have hP : va_P (dC, dI) vwCl [(h0, .inr (9, [.int 0, .ref h1, .ref z0, .ref z1, .int 0, .int 0, .int 0])), (h1, .inl (k0, 4, .inr (.inr (.inr (.inr (va_up (va_up (va_up (va_up (fun _ => none) 0 (some ge5)) 1 (some ge5)) 2 (some ge5)) 3 (some ge5))))))), (h2, .inl (k1, 5, .inl (upd (upd (upd (upd (upd (fun _ => 0) 0 l1) 1 l2) 2 2) 3 l4) 4 l5))), (q102, .inr (1, [.ref q103, .int 0, .int 0, .int 1])), (q103, .inl (cq104, 16, .inl f105))] H := hP
    have hD : va_D A [(h0, .inr (9, [.int 0, .ref h1, .ref z0, .ref z1, .int 0, .int 0, .int 0])), (h1, .inl (k0, 4, .inr (.inr (.inr (.inr (va_up (va_up (va_up (va_up (fun _ => none) 0 (some ge5)) 1 (some ge5)) 2 (some ge5)) 3 (some ge5))))))), (h2, .inl (k1, 5, .inl (upd (upd (upd (upd (upd (fun _ => 0) 0 l1) 1 l2) 2 2) 3 l4) 4 l5))), (q102, .inr (1, [.ref q103, .int 0, .int 0, .int 1])), (q103, .inl (cq104, 16, .inl f105))] := hD
    have hPc := hP.sub (ws' := [(q102, .inr (1, [.ref q103, .int 0, .int 0, .int 1])), (q103, .inl (cq104, 16, .inl f105))]) [3, 4] rfl
    have hDc := hD.sub (ws' := [(q102, .inr (1, [.ref q103, .int 0, .int 0, .int 1])), (q103, .inl (cq104, 16, .inl f105))]) [3, 4] (by decide) rfl
    have hKc := hK.sub (tys' := [(cq104, .byte)]) [2] rfl
    have hFc := va_free (wc := [(q102, .inr (1, [.ref q103, .int 0, .int 0, .int 1])), (q103, .inl (cq104, 16, .inl f105))]) hD hS hA [3, 4] rfl
    refine va_callr (va_runV (As := []) (rest := []) ⟨hx, hb, hml, hown, hts⟩ (kx_J4_toString_0e30d_1 l dC dI ge5 gea gv5 gva gde gic gi0 q102 q103 cq104 H.size f105 f105_t) (cwV 0 hts gX5_type_J4_toString_0e30d rfl rfl rfl (by decide +kernel) ⟨Nat.le_of_ble_eq_true rfl, Nat.le_of_ble_eq_true rfl⟩) ⟨fun a U g mk q => by obtain ⟨q0, q1, qP, qK, qD, qG⟩ := q; exact ⟨q0, q1, qP, va_K.moved (u := U) (U := U.calling g mk a) (Vm.Alike.refl U.vm) qK, qD, gv.fb qG⟩, va_recv hKc hPc (ci := 1) (q0 := 0) rfl rfl, fun U hU hW => ⟨rfl, by rw [hU], by rw [hU]; exact hPc, va_K.moved hW.alike hKc, hDc.weaken (fun _ _ _ _ => trivial), gv.pass hW hU hS hFc hG⟩⟩ rfl rfl hl.1 rfl (lv_room (Nat.le_of_ble_eq_true rfl)) dX5_type_113 ⟨Nat.le_of_ble_eq_true rfl, Nat.le_of_ble_eq_true rfl⟩) hS (fun q _ h => hFc q h) hFc (fun u ra t H1 locs ht hvm hw hB hz1 hk1 hS => ?_)
    obtain ⟨q106, q107, cq108, f109, f109_t, hra, hP1, hK1, hD1⟩ := hB
    rw [hra]
    rw [ht] at hP1
    have hK1 := va_K.moved hvm.symm hK1
    obtain ⟨hP, hD⟩ := va_join (wr := [(h0, .inr (9, [.int 0, .ref h1, .ref z0, .ref z1, .int 0, .int 0, .int 0])), (h1, .inl (k0, 4, .inr (.inr (.inr (.inr (va_up (va_up (va_up (va_up (fun _ => none) 0 (some ge5)) 1 (some ge5)) 2 (some ge5)) 3 (some ge5))))))), (h2, .inl (k1, 5, .inl (upd (upd (upd (upd (upd (fun _ => 0) 0 l1) 1 l2) 2 2) 3 l4) 4 l5)))]) (w1 := [(q102, .inr (1, [.ref q103, .int 0, .int 0, .int 1])), (q103, .inl (cq104, 16, .inl f105)), (q106, .inr (0, [.ref q107, .int 0, .int 0, .int 0])), (q107, .inl (cq108, 1, .inl f109))]) hP hD [3, 4] [0, 1, 2] rfl rfl (by decide) (by decide) hk1 hFc hP1 hD1
    have hK := hK.app (hK1.sub (tys' := [(cq108, .byte)]) [1] rfl)
    generalize H1 = H at hP hS ⊢
    have hK : va_K (dC, dI) vwCl [(k0, .object "java/lang/String"), (k1, .int), (cq104, .byte), (cq108, .byte)] s := hK
    have hP : va_P (dC, dI) vwCl [(h0, .inr (9, [.int 0, .ref h1, .ref z0, .ref z1, .int 0, .int 0, .int 0])), (h1, .inl (k0, 4, .inr (.inr (.inr (.inr (va_up (va_up (va_up (va_up (fun _ => none) 0 (some ge5)) 1 (some ge5)) 2 (some ge5)) 3 (some ge5))))))), (h2, .inl (k1, 5, .inl (upd (upd (upd (upd (upd (fun _ => 0) 0 l1) 1 l2) 2 2) 3 l4) 4 l5))), (q102, .inr (1, [.ref q103, .int 0, .int 0, .int 1])), (q103, .inl (cq104, 16, .inl f105)), (q106, .inr (0, [.ref q107, .int 0, .int 0, .int 0])), (q107, .inl (cq108, 1, .inl f109))] H := hP
    have hD : va_D A [(h0, .inr (9, [.int 0, .ref h1, .ref z0, .ref z1, .int 0, .int 0, .int 0])), (h1, .inl (k0, 4, .inr (.inr (.inr (.inr (va_up (va_up (va_up (va_up (fun _ => none) 0 (some ge5)) 1 (some ge5)) 2 (some ge5)) 3 (some ge5))))))), (h2, .inl (k1, 5, .inl (upd (upd (upd (upd (upd (fun _ => 0) 0 l1) 1 l2) 2 2) 3 l4) 4 l5))), (q102, .inr (1, [.ref q103, .int 0, .int 0, .int 1])), (q103, .inl (cq104, 16, .inl f105)), (q106, .inr (0, [.ref q107, .int 0, .int 0, .int 0])), (q107, .inl (cq108, 1, .inl f109))] := hD
    refine W.widen (k := 5) (n := 30) (by omega) (by omega) ?_
    refine lv_astore (lv' := [(9, .ref q106), (8, .int 1), (13, .int 2), (0, .ref h0), (1, .int rp), (7, .ref h2), (10, .ref h2), (11, .int 5), (12, .int 2)]) hx hb dX5_type_116 hl (by decide) rfl (fun ls hl => ?_)
    refine lv_iinc (v := 3) (lv' := [(12, .int 3), (9, .ref q106), (8, .int 1), (13, .int 2), (0, .ref h0), (1, .int rp), (7, .ref h2), (10, .ref h2), (11, .int 5)]) hx hb dX5_type_118 hl (k := 8) rfl (by decide) (by decide) rfl (fun ls hl => ?_)
    refine lv_goto (tgt := 47) hx hb dX5_type_121 (by decide) ?_
    have hP := hP.sub (ws' := [(h0, .inr (9, [.int 0, .ref h1, .ref z0, .ref z1, .int 0, .int 0, .int 0])), (h1, .inl (k0, 4, .inr (.inr (.inr (.inr (va_up (va_up (va_up (va_up (fun _ => none) 0 (some ge5)) 1 (some ge5)) 2 (some ge5)) 3 (some ge5))))))), (h2, .inl (k1, 5, .inl (upd (upd (upd (upd (upd (fun _ => 0) 0 l1) 1 l2) 2 2) 3 l4) 4 l5))), (q106, .inr (0, [.ref q107, .int 0, .int 0, .int 0])), (q107, .inl (cq108, 1, .inl f109))]) [0, 1, 2, 5, 6] rfl
    have hD := hD.sub (ws' := [(h0, .inr (9, [.int 0, .ref h1, .ref z0, .ref z1, .int 0, .int 0, .int 0])), (h1, .inl (k0, 4, .inr (.inr (.inr (.inr (va_up (va_up (va_up (va_up (fun _ => none) 0 (some ge5)) 1 (some ge5)) 2 (some ge5)) 3 (some ge5))))))), (h2, .inl (k1, 5, .inl (upd (upd (upd (upd (upd (fun _ => 0) 0 l1) 1 l2) 2 2) 3 l4) 4 l5))), (q106, .inr (0, [.ref q107, .int 0, .int 0, .int 0])), (q107, .inl (cq108, 1, .inl f109))]) [0, 1, 2, 5, 6] (by decide) rfl
    have hK := hK.sub (tys' := [(k0, .object "java/lang/String"), (k1, .int), (cq108, .byte)]) [0, 1, 3] rfl
    have hl := lv_sub hl [4, 5, 6, 2, 1, 7, 8, 0] (show lv_pick [(12, .int 3), (9, .ref q106), (8, .int 1), (13, .int 2), (0, .ref h0), (1, .int rp), (7, .ref h2), (10, .ref h2), (11, .int 5)] [4, 5, 6, 2, 1, 7, 8, 0] = [(0, .ref h0), (1, .int rp), (7, .ref h2), (8, .int 1), (9, .ref q106), (10, .ref h2), (11, .int 5), (12, .int 3)] from rfl)
    exact kx_X5_type_h311 f109_t hR hx hb hr hml hown hts hlocks hA hG hS hK hP hD hl
  · have hR : kz_ty rp 1 1 [l4, l5] = (R, v) := (kz_ty_g (by decide) (by decide)).symm.trans hR
    refine lv_iload hx hb dX5_type_47 (lv_at hl 7 rfl) ?_
    refine lv_iload hx hb dX5_type_49 (lv_at hl 6 rfl) ?_
    refine lv_icmp_ge (tgt := 124) hx hb dX5_type_51 (by decide) (fun c9 => absurd c9 (by decide)) (fun _ => ?_)
    refine lv_aload hx hb dX5_type_54 (lv_at hl 5 rfl) ?_
    refine lv_iload hx hb dX5_type_56 (lv_at hl 7 rfl) ?_
    refine va_iald (D := (dC, dI)) hx hb hK hP 2 1 rfl rfl (by unfold vp_in; decide) dX5_type_58 ?_
    refine W.eq (g2 := F0 m 59 ls [.int 3]) rfl ?_
    refine lv_istore (lv' := [(13, .int 3), (0, .ref h0), (1, .int rp), (7, .ref h2), (8, .int 1), (9, .ref ge5), (10, .ref h2), (11, .int 5), (12, .int 2)]) hx hb dX5_type_59 hl (by decide) rfl (fun ls hl => ?_)
    refine lv_iload hx hb dX5_type_61 (lv_at hl 4 rfl) ?_
    refine lv_iload hx hb dX5_type_63 (lv_at hl 0 rfl) ?_
    refine lv_iconst (v := (-1)) hx hb dX5_type_65 (by decide) ?_
    refine lv_iconst (v := 3) hx hb dX5_type_66 (by decide) ?_
    have hPc := hP.sub (ws' := []) [] rfl
    have hDc := hD.sub (ws' := []) [] (by decide) rfl
    have hKc := hK.sub (tys' := []) [] rfl
    have hFc := va_free (wc := []) hD hS hA [] rfl
    refine va_calli (va_runS (As := [.int 3, .int (-1), .int 3]) (rest := [.int 1]) ⟨hx, hb, hml, hown, hts⟩ (kx_X5_isIn_13 l dC dI H.size) (cwS 3 hts gX5_type_X5_isIn rfl rfl rfl (by decide +kernel) ⟨Nat.le_of_ble_eq_true rfl, Nat.le_of_ble_eq_true rfl⟩) ⟨fun a U g mk q => by obtain ⟨q0, q1, qP, qK, qD⟩ := q; exact ⟨q0, q1, qP, va_K.moved (u := U) (U := U.calling g mk a) (Vm.Alike.refl U.vm) qK, qD⟩, fun U hU hW => ⟨rfl, by rw [hU], by rw [hU]; exact hPc, va_K.moved hW.alike hKc, hDc.weaken (fun _ _ _ _ => trivial)⟩⟩ rfl rfl hl.1 rfl (lv_room (Nat.le_of_ble_eq_true rfl)) dX5_type_67 ⟨Nat.le_of_ble_eq_true rfl, Nat.le_of_ble_eq_true rfl⟩) hS (fun q _ h => hFc q h) hFc (fun r9 u t H1 locs ht hvm hw hB hz1 hk1 hS => ?_)
    obtain rfl := hw
    obtain ⟨hP1, hK1, hD1⟩ := hB
    rw [ht] at hP1
    have hK1 := va_K.moved hvm.symm hK1
    obtain ⟨hP, hD⟩ := va_join (wr := [(h0, .inr (9, [.int 0, .ref h1, .ref z0, .ref z1, .int 0, .int 0, .int 0])), (h1, .inl (k0, 4, .inr (.inr (.inr (.inr (va_up (va_up (va_up (va_up (fun _ => none) 0 (some ge5)) 1 (some ge5)) 2 (some ge5)) 3 (some ge5))))))), (h2, .inl (k1, 5, .inl (upd (upd (upd (upd (upd (fun _ => 0) 0 l1) 1 l2) 2 3) 3 l4) 4 l5)))]) (w1 := []) hP hD [] [0, 1, 2] rfl rfl (by decide) (by decide) hk1 hFc hP1 hD1
    generalize H1 = H at hP hS ⊢
    have hP : va_P (dC, dI) vwCl [(h0, .inr (9, [.int 0, .ref h1, .ref z0, .ref z1, .int 0, .int 0, .int 0])), (h1, .inl (k0, 4, .inr (.inr (.inr (.inr (va_up (va_up (va_up (va_up (fun _ => none) 0 (some ge5)) 1 (some ge5)) 2 (some ge5)) 3 (some ge5))))))), (h2, .inl (k1, 5, .inl (upd (upd (upd (upd (upd (fun _ => 0) 0 l1) 1 l2) 2 3) 3 l4) 4 l5)))] H := hP
    have hD : va_D A [(h0, .inr (9, [.int 0, .ref h1, .ref z0, .ref z1, .int 0, .int 0, .int 0])), (h1, .inl (k0, 4, .inr (.inr (.inr (.inr (va_up (va_up (va_up (va_up (fun _ => none) 0 (some ge5)) 1 (some ge5)) 2 (some ge5)) 3 (some ge5))))))), (h2, .inl (k1, 5, .inl (upd (upd (upd (upd (upd (fun _ => 0) 0 l1) 1 l2) 2 3) 3 l4) 4 l5)))] := hD
    refine lv_if_ne (tgt := 77) hx hb dX5_type_70 (by decide) (fun _ => ?_) (fun c9 => absurd c9 (by decide))
    refine lv_iconst (v := 0) hx hb dX5_type_77 (by decide) ?_
    refine lv_ior hx hb dX5_type_78 ?_
    refine lv_topi (fun y101 ey101 => ?_)
    obtain rfl : y101 = 1 := ey101.trans (by decide)
    refine lv_istore (lv' := [(8, .int 1), (13, .int 3), (0, .ref h0), (1, .int rp), (7, .ref h2), (9, .ref ge5), (10, .ref h2), (11, .int 5), (12, .int 2)]) hx hb dX5_type_79 hl (by decide) rfl (fun ls hl => ?_)
    refine lv_iload hx hb dX5_type_81 (lv_at hl 1 rfl) ?_
    refine lv_iconst (v := 0) hx hb dX5_type_83 (by decide) ?_
    refine lv_iconst (v := 3) hx hb dX5_type_84 (by decide) ?_
    have hPc := hP.sub (ws' := []) [] rfl
    have hDc := hD.sub (ws' := []) [] (by decide) rfl
    have hKc := hK.sub (tys' := []) [] rfl
    have hFc := va_free (wc := []) hD hS hA [] rfl
    refine va_calli (va_runS (As := [.int 3, .int 0, .int 3]) (rest := []) ⟨hx, hb, hml, hown, hts⟩ (kx_X5_isIn_14 l dC dI H.size) (cwS 3 hts gX5_type_X5_isIn rfl rfl rfl (by decide +kernel) ⟨Nat.le_of_ble_eq_true rfl, Nat.le_of_ble_eq_true rfl⟩) ⟨fun a U g mk q => by obtain ⟨q0, q1, qP, qK, qD⟩ := q; exact ⟨q0, q1, qP, va_K.moved (u := U) (U := U.calling g mk a) (Vm.Alike.refl U.vm) qK, qD⟩, fun U hU hW => ⟨rfl, by rw [hU], by rw [hU]; exact hPc, va_K.moved hW.alike hKc, hDc.weaken (fun _ _ _ _ => trivial)⟩⟩ rfl rfl hl.1 rfl (lv_room (Nat.le_of_ble_eq_true rfl)) dX5_type_85 ⟨Nat.le_of_ble_eq_true rfl, Nat.le_of_ble_eq_true rfl⟩) hS (fun q _ h => hFc q h) hFc (fun r9 u t H1 locs ht hvm hw hB hz1 hk1 hS => ?_)
    obtain rfl := hw
    obtain ⟨hP1, hK1, hD1⟩ := hB
    rw [ht] at hP1
    have hK1 := va_K.moved hvm.symm hK1
    obtain ⟨hP, hD⟩ := va_join (wr := [(h0, .inr (9, [.int 0, .ref h1, .ref z0, .ref z1, .int 0, .int 0, .int 0])), (h1, .inl (k0, 4, .inr (.inr (.inr (.inr (va_up (va_up (va_up (va_up (fun _ => none) 0 (some ge5)) 1 (some ge5)) 2 (some ge5)) 3 (some ge5))))))), (h2, .inl (k1, 5, .inl (upd (upd (upd (upd (upd (fun _ => 0) 0 l1) 1 l2) 2 3) 3 l4) 4 l5)))]) (w1 := []) hP hD [] [0, 1, 2] rfl rfl (by decide) (by decide) hk1 hFc hP1 hD1
    generalize H1 = H at hP hS ⊢
    have hP : va_P (dC, dI) vwCl [(h0, .inr (9, [.int 0, .ref h1, .ref z0, .ref z1, .int 0, .int 0, .int 0])), (h1, .inl (k0, 4, .inr (.inr (.inr (.inr (va_up (va_up (va_up (va_up (fun _ => none) 0 (some ge5)) 1 (some ge5)) 2 (some ge5)) 3 (some ge5))))))), (h2, .inl (k1, 5, .inl (upd (upd (upd (upd (upd (fun _ => 0) 0 l1) 1 l2) 2 3) 3 l4) 4 l5)))] H := hP
    have hD : va_D A [(h0, .inr (9, [.int 0, .ref h1, .ref z0, .ref z1, .int 0, .int 0, .int 0])), (h1, .inl (k0, 4, .inr (.inr (.inr (.inr (va_up (va_up (va_up (va_up (fun _ => none) 0 (some ge5)) 1 (some ge5)) 2 (some ge5)) 3 (some ge5))))))), (h2, .inl (k1, 5, .inl (upd (upd (upd (upd (upd (fun _ => 0) 0 l1) 1 l2) 2 3) 3 l4) 4 l5)))] := hD
    refine lv_if_eq (tgt := 118) hx hb dX5_type_88 (by decide) (fun c9 => absurd c9 (by decide)) (fun _ => ?_)
    refine va_new (ci := 1) (fs := [.null, .int 0, .int 0, .int 0]) (C := RJ4) (T := TJ4) (N := 4) hx hb hts (by decide +kernel) tyJ4 tyJ4_ok hown (hts (.classLink RX5 49 RJ4) (by decide +kernel)) (hts (.instantiable RJ4 4) (by decide +kernel)) (hts (.initialized RJ4) (by decide +kernel)) hK hP hD hS hA rfl (fun j hj => by rcases (show j = 0 ∨ j = 1 ∨ j = 2 ∨ j = 3 by omega) with rfl | rfl | rfl | rfl <;> rfl) (Nat.le_of_ble_eq_true rfl) (Nat.le_of_ble_eq_true rfl) dX5_type_91 (fun q102 H hP hD hS => ?_)
    have hP : va_P (dC, dI) vwCl [(h0, .inr (9, [.int 0, .ref h1, .ref z0, .ref z1, .int 0, .int 0, .int 0])), (h1, .inl (k0, 4, .inr (.inr (.inr (.inr (va_up (va_up (va_up (va_up (fun _ => none) 0 (some ge5)) 1 (some ge5)) 2 (some ge5)) 3 (some ge5))))))), (h2, .inl (k1, 5, .inl (upd (upd (upd (upd (upd (fun _ => 0) 0 l1) 1 l2) 2 3) 3 l4) 4 l5))), (q102, .inr (1, [.null, .int 0, .int 0, .int 0]))] H := hP
    have hD : va_D A [(h0, .inr (9, [.int 0, .ref h1, .ref z0, .ref z1, .int 0, .int 0, .int 0])), (h1, .inl (k0, 4, .inr (.inr (.inr (.inr (va_up (va_up (va_up (va_up (fun _ => none) 0 (some ge5)) 1 (some ge5)) 2 (some ge5)) 3 (some ge5))))))), (h2, .inl (k1, 5, .inl (upd (upd (upd (upd (upd (fun _ => 0) 0 l1) 1 l2) 2 3) 3 l4) 4 l5))), (q102, .inr (1, [.null, .int 0, .int 0, .int 0]))] := hD
    refine W.widen (k := 2) (n := 9) (by omega) (by omega) ?_
    refine lv_dup hx hb dX5_type_94 rfl ?_
    have hPc := hP.sub (ws' := [(q102, .inr (1, [.null, .int 0, .int 0, .int 0]))]) [3] rfl
    have hDc := hD.sub (ws' := [(q102, .inr (1, [.null, .int 0, .int 0, .int 0]))]) [3] (by decide) rfl
    have hKc := hK.sub (tys' := []) [] rfl
    have hFc := va_free (wc := [(q102, .inr (1, [.null, .int 0, .int 0, .int 0]))]) hD hS hA [3] rfl
    refine va_callv (va_runI (As := []) (rest := [.ref q102]) ⟨hx, hb, hml, hown, hts⟩ (kx_J4_init_da8c8_0 l dC dI ge5 gea gv5 gva gde gic gi0 q102 H.size) (cwI 0 hts gX5_type_J4_init_da8c8 rfl rfl rfl (hts (.initialized RJ4) (by decide +kernel)) (hts (.methodLink RX5 51 yJ4_init_da8c8) (by decide +kernel)) (hts (.instanceMethod yJ4_init_da8c8) (by decide +kernel)) rfl (by decide +kernel) ⟨Nat.le_of_ble_eq_true rfl, Nat.le_of_ble_eq_true rfl⟩) ⟨fun a U g mk q => by obtain ⟨q0, q1, qP, qK, qD, qG⟩ := q; exact ⟨q0, q1, qP, va_K.moved (u := U) (U := U.calling g mk a) (Vm.Alike.refl U.vm) qK, qD, gv.fb qG⟩, fun U hU hW => ⟨rfl, by rw [hU], by rw [hU]; exact hPc, va_K.moved hW.alike hKc, hDc.weaken (fun _ _ _ _ => trivial), gv.pass hW hU hS hFc hG⟩⟩ rfl rfl hl.1 rfl (lv_room (Nat.le_of_ble_eq_true rfl)) dX5_type_95 ⟨Nat.le_of_ble_eq_true rfl, Nat.le_of_ble_eq_true rfl⟩) hS (fun q _ h => hFc q h) hFc (fun u t H1 locs ht hvm hw hB hz1 hk1 hS => ?_)
    obtain ⟨q103, cq104, hP1, hK1, hD1⟩ := hB
    rw [ht] at hP1
    have hK1 := va_K.moved hvm.symm hK1
    obtain ⟨hP, hD⟩ := va_join (wr := [(h0, .inr (9, [.int 0, .ref h1, .ref z0, .ref z1, .int 0, .int 0, .int 0])), (h1, .inl (k0, 4, .inr (.inr (.inr (.inr (va_up (va_up (va_up (va_up (fun _ => none) 0 (some ge5)) 1 (some ge5)) 2 (some ge5)) 3 (some ge5))))))), (h2, .inl (k1, 5, .inl (upd (upd (upd (upd (upd (fun _ => 0) 0 l1) 1 l2) 2 3) 3 l4) 4 l5)))]) (w1 := [(q102, .inr (1, [.ref q103, .int 0, .int 0, .int 0])), (q103, .inl (cq104, 16, .inl (fun _ => 0)))]) hP hD [3] [0, 1, 2] rfl rfl (by decide) (by decide) hk1 hFc hP1 hD1
    have hK := hK.app (hK1.sub (tys' := [(cq104, .byte)]) [0] rfl)
    generalize H1 = H at hP hS ⊢
    have hK : va_K (dC, dI) vwCl [(k0, .object "java/lang/String"), (k1, .int), (cq104, .byte)] s := hK
    have hP : va_P (dC, dI) vwCl [(h0, .inr (9, [.int 0, .ref h1, .ref z0, .ref z1, .int 0, .int 0, .int 0])), (h1, .inl (k0, 4, .inr (.inr (.inr (.inr (va_up (va_up (va_up (va_up (fun _ => none) 0 (some ge5)) 1 (some ge5)) 2 (some ge5)) 3 (some ge5))))))), (h2, .inl (k1, 5, .inl (upd (upd (upd (upd (upd (fun _ => 0) 0 l1) 1 l2) 2 3) 3 l4) 4 l5))), (q102, .inr (1, [.ref q103, .int 0, .int 0, .int 0])), (q103, .inl (cq104, 16, .inl (fun _ => 0)))] H := hP
    have hD : va_D A [(h0, .inr (9, [.int 0, .ref h1, .ref z0, .ref z1, .int 0, .int 0, .int 0])), (h1, .inl (k0, 4, .inr (.inr (.inr (.inr (va_up (va_up (va_up (va_up (fun _ => none) 0 (some ge5)) 1 (some ge5)) 2 (some ge5)) 3 (some ge5))))))), (h2, .inl (k1, 5, .inl (upd (upd (upd (upd (upd (fun _ => 0) 0 l1) 1 l2) 2 3) 3 l4) 4 l5))), (q102, .inr (1, [.ref q103, .int 0, .int 0, .int 0])), (q103, .inl (cq104, 16, .inl (fun _ => 0)))] := hD
    refine W.widen (k := 3) (n := 25) (by omega) (by omega) ?_
    refine lv_aload hx hb dX5_type_98 (lv_at hl 5 rfl) ?_
    have hPc := hP.sub (ws' := [(q102, .inr (1, [.ref q103, .int 0, .int 0, .int 0])), (q103, .inl (cq104, 16, .inl (fun _ => 0)))]) [3, 4] rfl
    have hDc := hD.sub (ws' := [(q102, .inr (1, [.ref q103, .int 0, .int 0, .int 0])), (q103, .inl (cq104, 16, .inl (fun _ => 0)))]) [3, 4] (by decide) rfl
    have hKc := hK.sub (tys' := [(cq104, .byte)]) [2] rfl
    have hFc := va_free (wc := [(q102, .inr (1, [.ref q103, .int 0, .int 0, .int 0])), (q103, .inl (cq104, 16, .inl (fun _ => 0)))]) hD hS hA [3, 4] rfl
    refine va_callr (va_runV (As := [.ref ge5]) (rest := []) ⟨hx, hb, hml, hown, hts⟩ (kx_J4_append_15ec4_0 l dC dI ge5 gea gv5 gva gde gic gi0 q102 q103 cq104 H.size) (cwV 1 hts gX5_type_J4_append_15ec4 rfl rfl rfl (by decide +kernel) ⟨Nat.le_of_ble_eq_true rfl, Nat.le_of_ble_eq_true rfl⟩) ⟨fun a U g mk q => by obtain ⟨q0, q1, qP, qK, qD, qG⟩ := q; exact ⟨q0, q1, qP, va_K.moved (u := U) (U := U.calling g mk a) (Vm.Alike.refl U.vm) qK, qD, gv.fb qG⟩, va_recv hKc hPc (ci := 1) (q0 := 0) rfl rfl, fun U hU hW => ⟨rfl, by rw [hU], by rw [hU]; exact hPc, va_K.moved hW.alike hKc, hDc.weaken (fun _ _ _ _ => trivial), gv.pass hW hU hS hFc hG⟩⟩ rfl rfl hl.1 rfl (lv_room (Nat.le_of_ble_eq_true rfl)) dX5_type_100 ⟨Nat.le_of_ble_eq_true rfl, Nat.le_of_ble_eq_true rfl⟩) hS (fun q _ h => hFc q h) hFc (fun u ra t H1 locs ht hvm hw hB hz1 hk1 hS => ?_)
    obtain ⟨hra, hP1, hK1, hD1⟩ := hB
    rw [hra]
    rw [ht] at hP1
    have hK1 := va_K.moved hvm.symm hK1
    obtain ⟨hP, hD⟩ := va_join (wr := [(h0, .inr (9, [.int 0, .ref h1, .ref z0, .ref z1, .int 0, .int 0, .int 0])), (h1, .inl (k0, 4, .inr (.inr (.inr (.inr (va_up (va_up (va_up (va_up (fun _ => none) 0 (some ge5)) 1 (some ge5)) 2 (some ge5)) 3 (some ge5))))))), (h2, .inl (k1, 5, .inl (upd (upd (upd (upd (upd (fun _ => 0) 0 l1) 1 l2) 2 3) 3 l4) 4 l5)))]) (w1 := [(q102, .inr (1, [.ref q103, .int 0, .int 0, .int 0])), (q103, .inl (cq104, 16, .inl (fun _ => 0)))]) hP hD [3, 4] [0, 1, 2] rfl rfl (by decide) (by decide) hk1 hFc hP1 hD1
    generalize H1 = H at hP hS ⊢
    have hP : va_P (dC, dI) vwCl [(h0, .inr (9, [.int 0, .ref h1, .ref z0, .ref z1, .int 0, .int 0, .int 0])), (h1, .inl (k0, 4, .inr (.inr (.inr (.inr (va_up (va_up (va_up (va_up (fun _ => none) 0 (some ge5)) 1 (some ge5)) 2 (some ge5)) 3 (some ge5))))))), (h2, .inl (k1, 5, .inl (upd (upd (upd (upd (upd (fun _ => 0) 0 l1) 1 l2) 2 3) 3 l4) 4 l5))), (q102, .inr (1, [.ref q103, .int 0, .int 0, .int 0])), (q103, .inl (cq104, 16, .inl (fun _ => 0)))] H := hP
    have hD : va_D A [(h0, .inr (9, [.int 0, .ref h1, .ref z0, .ref z1, .int 0, .int 0, .int 0])), (h1, .inl (k0, 4, .inr (.inr (.inr (.inr (va_up (va_up (va_up (va_up (fun _ => none) 0 (some ge5)) 1 (some ge5)) 2 (some ge5)) 3 (some ge5))))))), (h2, .inl (k1, 5, .inl (upd (upd (upd (upd (upd (fun _ => 0) 0 l1) 1 l2) 2 3) 3 l4) 4 l5))), (q102, .inr (1, [.ref q103, .int 0, .int 0, .int 0])), (q103, .inl (cq104, 16, .inl (fun _ => 0)))] := hD
    refine va_ldcS hx hb hown g_sa dX5_type_103 ?_
    refine lv_iload hx hb dX5_type_105 (lv_at hl 1 rfl) ?_
    have hPc := hP.sub (ws' := []) [] rfl
    have hDc := hD.sub (ws' := []) [] (by decide) rfl
    have hKc := hK.sub (tys' := []) [] rfl
    have hFc := va_free (wc := []) hD hS hA [] rfl
    refine va_calli (va_runV (As := [.int 3]) (rest := [.ref q102]) ⟨hx, hb, hml, hown, hts⟩ (kx_J0_charAt_5068e_3 l dC dI ge5 gea gv5 gva gde gic gi0 H.size) (cwV 1 hts gX5_type_J0_charAt_5068e rfl rfl rfl (by decide +kernel) ⟨Nat.le_of_ble_eq_true rfl, Nat.le_of_ble_eq_true rfl⟩) ⟨fun a U g mk q => by obtain ⟨q0, q1, qP, qK, qD, qG⟩ := q; exact ⟨q0, q1, qP, va_K.moved (u := U) (U := U.calling g mk a) (Vm.Alike.refl U.vm) qK, qD, gv.fb qG⟩, (by obtain ⟨cell, k1, k2, k3, -⟩ := g_oa.kept hS.2.1; exact ⟨cell, k1, k2, k3⟩), fun U hU hW => ⟨rfl, by rw [hU], by rw [hU]; exact hPc, va_K.moved hW.alike hKc, hDc.weaken (fun _ _ _ _ => trivial), gv.pass hW hU hS hFc hG⟩⟩ rfl rfl hl.1 rfl (lv_room (Nat.le_of_ble_eq_true rfl)) dX5_type_107 ⟨Nat.le_of_ble_eq_true rfl, Nat.le_of_ble_eq_true rfl⟩) hS (fun q _ h => hFc q h) hFc (fun r9 u t H1 locs ht hvm hw hB hz1 hk1 hS => ?_)
    obtain rfl := hw
    obtain ⟨hP1, hK1, hD1⟩ := hB
    rw [ht] at hP1
    have hK1 := va_K.moved hvm.symm hK1
    obtain ⟨hP, hD⟩ := va_join (wr := [(h0, .inr (9, [.int 0, .ref h1, .ref z0, .ref z1, .int 0, .int 0, .int 0])), (h1, .inl (k0, 4, .inr (.inr (.inr (.inr (va_up (va_up (va_up (va_up (fun _ => none) 0 (some ge5)) 1 (some ge5)) 2 (some ge5)) 3 (some ge5))))))), (h2, .inl (k1, 5, .inl (upd (upd (upd (upd (upd (fun _ => 0) 0 l1) 1 l2) 2 3) 3 l4) 4 l5))), (q102, .inr (1, [.ref q103, .int 0, .int 0, .int 0])), (q103, .inl (cq104, 16, .inl (fun _ => 0)))]) (w1 := []) hP hD [] [0, 1, 2, 3, 4] rfl rfl (by decide) (by decide) hk1 hFc hP1 hD1
    generalize H1 = H at hP hS ⊢
    have hP : va_P (dC, dI) vwCl [(h0, .inr (9, [.int 0, .ref h1, .ref z0, .ref z1, .int 0, .int 0, .int 0])), (h1, .inl (k0, 4, .inr (.inr (.inr (.inr (va_up (va_up (va_up (va_up (fun _ => none) 0 (some ge5)) 1 (some ge5)) 2 (some ge5)) 3 (some ge5))))))), (h2, .inl (k1, 5, .inl (upd (upd (upd (upd (upd (fun _ => 0) 0 l1) 1 l2) 2 3) 3 l4) 4 l5))), (q102, .inr (1, [.ref q103, .int 0, .int 0, .int 0])), (q103, .inl (cq104, 16, .inl (fun _ => 0)))] H := hP
    have hD : va_D A [(h0, .inr (9, [.int 0, .ref h1, .ref z0, .ref z1, .int 0, .int 0, .int 0])), (h1, .inl (k0, 4, .inr (.inr (.inr (.inr (va_up (va_up (va_up (va_up (fun _ => none) 0 (some ge5)) 1 (some ge5)) 2 (some ge5)) 3 (some ge5))))))), (h2, .inl (k1, 5, .inl (upd (upd (upd (upd (upd (fun _ => 0) 0 l1) 1 l2) 2 3) 3 l4) 4 l5))), (q102, .inr (1, [.ref q103, .int 0, .int 0, .int 0])), (q103, .inl (cq104, 16, .inl (fun _ => 0)))] := hD
    have hPc := hP.sub (ws' := [(q102, .inr (1, [.ref q103, .int 0, .int 0, .int 0])), (q103, .inl (cq104, 16, .inl (fun _ => 0)))]) [3, 4] rfl
    have hDc := hD.sub (ws' := [(q102, .inr (1, [.ref q103, .int 0, .int 0, .int 0])), (q103, .inl (cq104, 16, .inl (fun _ => 0)))]) [3, 4] (by decide) rfl
    have hKc := hK.sub (tys' := [(cq104, .byte)]) [2] rfl
    have hFc := va_free (wc := [(q102, .inr (1, [.ref q103, .int 0, .int 0, .int 0])), (q103, .inl (cq104, 16, .inl (fun _ => 0)))]) hD hS hA [3, 4] rfl
    refine va_callr (va_runV (As := [.int 100]) (rest := []) ⟨hx, hb, hml, hown, hts⟩ (kx_J4_append_cf468_3 l dC dI ge5 gea gv5 gva gde gic gi0 q102 q103 cq104 H.size) (cwV 1 hts gX5_type_J4_append_cf468 rfl rfl rfl (by decide +kernel) ⟨Nat.le_of_ble_eq_true rfl, Nat.le_of_ble_eq_true rfl⟩) ⟨fun a U g mk q => by obtain ⟨q0, q1, qP, qK, qD, qG⟩ := q; exact ⟨q0, q1, qP, va_K.moved (u := U) (U := U.calling g mk a) (Vm.Alike.refl U.vm) qK, qD, gv.fb qG⟩, va_recv hKc hPc (ci := 1) (q0 := 0) rfl rfl, fun U hU hW => ⟨rfl, by rw [hU], by rw [hU]; exact hPc, va_K.moved hW.alike hKc, hDc.weaken (fun _ _ _ _ => trivial), gv.pass hW hU hS hFc hG⟩⟩ rfl rfl hl.1 rfl (lv_room (Nat.le_of_ble_eq_true rfl)) dX5_type_110 ⟨Nat.le_of_ble_eq_true rfl, Nat.le_of_ble_eq_true rfl⟩) hS (fun q _ h => hFc q h) hFc (fun u ra t H1 locs ht hvm hw hB hz1 hk1 hS => ?_)
    obtain ⟨f105, f105_t, hra, hP1, hK1, hD1⟩ := hB
    rw [hra]
    rw [ht] at hP1
    have hK1 := va_K.moved hvm.symm hK1
    obtain ⟨hP, hD⟩ := va_join (wr := [(h0, .inr (9, [.int 0, .ref h1, .ref z0, .ref z1, .int 0, .int 0, .int 0])), (h1, .inl (k0, 4, .inr (.inr (.inr (.inr (va_up (va_up (va_up (va_up (fun _ => none) 0 (some ge5)) 1 (some ge5)) 2 (some ge5)) 3 (some ge5))))))), (h2, .inl (k1, 5, .inl (upd (upd (upd (upd (upd (fun _ => 0) 0 l1) 1 l2) 2 3) 3 l4) 4 l5)))]) (w1 := [(q102, .inr (1, [.ref q103, .int 0, .int 0, .int 1])), (q103, .inl (cq104, 16, .inl f105))]) hP hD [3, 4] [0, 1, 2] rfl rfl (by decide) (by decide) hk1 hFc hP1 hD1
    generalize H1 = H at hP hS ⊢
    have hP : va_P (dC, dI) vwCl [(h0, .inr (9, [.int 0, .ref h1, .ref z0, .ref z1, .int 0, .int 0, .int 0])), (h1, .inl (k0, 4, .inr (.inr (.inr (.inr (va_up (va_up (va_up (va_up (fun _ => none) 0 (some ge5)) 1 (some ge5)) 2 (some ge5)) 3 (some ge5))))))), (h2, .inl (k1, 5, .inl (upd (upd (upd (upd (upd (fun _ => 0) 0 l1) 1 l2) 2 3) 3 l4) 4 l5))), (q102, .inr (1, [.ref q103, .int 0, .int 0, .int 1])), (q103, .inl (cq104, 16, .inl f105))] H := hP
    have hD : va_D A [(h0, .inr (9, [.int 0, .ref h1, .ref z0, .ref z1, .int 0, .int 0, .int 0])), (h1, .inl (k0, 4, .inr (.inr (.inr (.inr (va_up (va_up (va_up (va_up (fun _ => none) 0 (some ge5)) 1 (some ge5)) 2 (some ge5)) 3 (some ge5))))))), (h2, .inl (k1, 5, .inl (upd (upd (upd (upd (upd (fun _ => 0) 0 l1) 1 l2) 2 3) 3 l4) 4 l5))), (q102, .inr (1, [.ref q103, .int 0, .int 0, .int 1])), (q103, .inl (cq104, 16, .inl f105))] := hD
    have hPc := hP.sub (ws' := [(q102, .inr (1, [.ref q103, .int 0, .int 0, .int 1])), (q103, .inl (cq104, 16, .inl f105))]) [3, 4] rfl
    have hDc := hD.sub (ws' := [(q102, .inr (1, [.ref q103, .int 0, .int 0, .int 1])), (q103, .inl (cq104, 16, .inl f105))]) [3, 4] (by decide) rfl
    have hKc := hK.sub (tys' := [(cq104, .byte)]) [2] rfl
    have hFc := va_free (wc := [(q102, .inr (1, [.ref q103, .int 0, .int 0, .int 1])), (q103, .inl (cq104, 16, .inl f105))]) hD hS hA [3, 4] rfl
    refine va_callr (va_runV (As := []) (rest := []) ⟨hx, hb, hml, hown, hts⟩ (kx_J4_toString_0e30d_1 l dC dI ge5 gea gv5 gva gde gic gi0 q102 q103 cq104 H.size f105 f105_t) (cwV 0 hts gX5_type_J4_toString_0e30d rfl rfl rfl (by decide +kernel) ⟨Nat.le_of_ble_eq_true rfl, Nat.le_of_ble_eq_true rfl⟩) ⟨fun a U g mk q => by obtain ⟨q0, q1, qP, qK, qD, qG⟩ := q; exact ⟨q0, q1, qP, va_K.moved (u := U) (U := U.calling g mk a) (Vm.Alike.refl U.vm) qK, qD, gv.fb qG⟩, va_recv hKc hPc (ci := 1) (q0 := 0) rfl rfl, fun U hU hW => ⟨rfl, by rw [hU], by rw [hU]; exact hPc, va_K.moved hW.alike hKc, hDc.weaken (fun _ _ _ _ => trivial), gv.pass hW hU hS hFc hG⟩⟩ rfl rfl hl.1 rfl (lv_room (Nat.le_of_ble_eq_true rfl)) dX5_type_113 ⟨Nat.le_of_ble_eq_true rfl, Nat.le_of_ble_eq_true rfl⟩) hS (fun q _ h => hFc q h) hFc (fun u ra t H1 locs ht hvm hw hB hz1 hk1 hS => ?_)
    obtain ⟨q106, q107, cq108, f109, f109_t, hra, hP1, hK1, hD1⟩ := hB
    rw [hra]
    rw [ht] at hP1
    have hK1 := va_K.moved hvm.symm hK1
    obtain ⟨hP, hD⟩ := va_join (wr := [(h0, .inr (9, [.int 0, .ref h1, .ref z0, .ref z1, .int 0, .int 0, .int 0])), (h1, .inl (k0, 4, .inr (.inr (.inr (.inr (va_up (va_up (va_up (va_up (fun _ => none) 0 (some ge5)) 1 (some ge5)) 2 (some ge5)) 3 (some ge5))))))), (h2, .inl (k1, 5, .inl (upd (upd (upd (upd (upd (fun _ => 0) 0 l1) 1 l2) 2 3) 3 l4) 4 l5)))]) (w1 := [(q102, .inr (1, [.ref q103, .int 0, .int 0, .int 1])), (q103, .inl (cq104, 16, .inl f105)), (q106, .inr (0, [.ref q107, .int 0, .int 0, .int 0])), (q107, .inl (cq108, 1, .inl f109))]) hP hD [3, 4] [0, 1, 2] rfl rfl (by decide) (by decide) hk1 hFc hP1 hD1
    have hK := hK.app (hK1.sub (tys' := [(cq108, .byte)]) [1] rfl)
    generalize H1 = H at hP hS ⊢
    have hK : va_K (dC, dI) vwCl [(k0, .object "java/lang/String"), (k1, .int), (cq104, .byte), (cq108, .byte)] s := hK
    have hP : va_P (dC, dI) vwCl [(h0, .inr (9, [.int 0, .ref h1, .ref z0, .ref z1, .int 0, .int 0, .int 0])), (h1, .inl (k0, 4, .inr (.inr (.inr (.inr (va_up (va_up (va_up (va_up (fun _ => none) 0 (some ge5)) 1 (some ge5)) 2 (some ge5)) 3 (some ge5))))))), (h2, .inl (k1, 5, .inl (upd (upd (upd (upd (upd (fun _ => 0) 0 l1) 1 l2) 2 3) 3 l4) 4 l5))), (q102, .inr (1, [.ref q103, .int 0, .int 0, .int 1])), (q103, .inl (cq104, 16, .inl f105)), (q106, .inr (0, [.ref q107, .int 0, .int 0, .int 0])), (q107, .inl (cq108, 1, .inl f109))] H := hP
    have hD : va_D A [(h0, .inr (9, [.int 0, .ref h1, .ref z0, .ref z1, .int 0, .int 0, .int 0])), (h1, .inl (k0, 4, .inr (.inr (.inr (.inr (va_up (va_up (va_up (va_up (fun _ => none) 0 (some ge5)) 1 (some ge5)) 2 (some ge5)) 3 (some ge5))))))), (h2, .inl (k1, 5, .inl (upd (upd (upd (upd (upd (fun _ => 0) 0 l1) 1 l2) 2 3) 3 l4) 4 l5))), (q102, .inr (1, [.ref q103, .int 0, .int 0, .int 1])), (q103, .inl (cq104, 16, .inl f105)), (q106, .inr (0, [.ref q107, .int 0, .int 0, .int 0])), (q107, .inl (cq108, 1, .inl f109))] := hD
    refine W.widen (k := 5) (n := 30) (by omega) (by omega) ?_
    refine lv_astore (lv' := [(9, .ref q106), (8, .int 1), (13, .int 3), (0, .ref h0), (1, .int rp), (7, .ref h2), (10, .ref h2), (11, .int 5), (12, .int 2)]) hx hb dX5_type_116 hl (by decide) rfl (fun ls hl => ?_)
    refine lv_iinc (v := 3) (lv' := [(12, .int 3), (9, .ref q106), (8, .int 1), (13, .int 3), (0, .ref h0), (1, .int rp), (7, .ref h2), (10, .ref h2), (11, .int 5)]) hx hb dX5_type_118 hl (k := 8) rfl (by decide) (by decide) rfl (fun ls hl => ?_)
    refine lv_goto (tgt := 47) hx hb dX5_type_121 (by decide) ?_
    have hP := hP.sub (ws' := [(h0, .inr (9, [.int 0, .ref h1, .ref z0, .ref z1, .int 0, .int 0, .int 0])), (h1, .inl (k0, 4, .inr (.inr (.inr (.inr (va_up (va_up (va_up (va_up (fun _ => none) 0 (some ge5)) 1 (some ge5)) 2 (some ge5)) 3 (some ge5))))))), (h2, .inl (k1, 5, .inl (upd (upd (upd (upd (upd (fun _ => 0) 0 l1) 1 l2) 2 3) 3 l4) 4 l5))), (q106, .inr (0, [.ref q107, .int 0, .int 0, .int 0])), (q107, .inl (cq108, 1, .inl f109))]) [0, 1, 2, 5, 6] rfl
    have hD := hD.sub (ws' := [(h0, .inr (9, [.int 0, .ref h1, .ref z0, .ref z1, .int 0, .int 0, .int 0])), (h1, .inl (k0, 4, .inr (.inr (.inr (.inr (va_up (va_up (va_up (va_up (fun _ => none) 0 (some ge5)) 1 (some ge5)) 2 (some ge5)) 3 (some ge5))))))), (h2, .inl (k1, 5, .inl (upd (upd (upd (upd (upd (fun _ => 0) 0 l1) 1 l2) 2 3) 3 l4) 4 l5))), (q106, .inr (0, [.ref q107, .int 0, .int 0, .int 0])), (q107, .inl (cq108, 1, .inl f109))]) [0, 1, 2, 5, 6] (by decide) rfl
    have hK := hK.sub (tys' := [(k0, .object "java/lang/String"), (k1, .int), (cq108, .byte)]) [0, 1, 3] rfl
    have hl := lv_sub hl [4, 5, 6, 2, 1, 7, 8, 0] (show lv_pick [(12, .int 3), (9, .ref q106), (8, .int 1), (13, .int 3), (0, .ref h0), (1, .int rp), (7, .ref h2), (10, .ref h2), (11, .int 5)] [4, 5, 6, 2, 1, 7, 8, 0] = [(0, .ref h0), (1, .int rp), (7, .ref h2), (8, .int 1), (9, .ref q106), (10, .ref h2), (11, .int 5), (12, .int 3)] from rfl)
    exact kx_X5_type_h311 f109_t hR hx hb hr hml hown hts hlocks hA hG hS hK hP hD hl
  · have l3_l : (4 : Int) ≤ l3.toInt := by omega
    have l3_u : l3.toInt ≤ (2147483647 : Int) := by omega
    have hR : kz_ty rp 0 1 [l4, l5] = (R, v) := (kz_ty_b (by omega)).symm.trans hR
    refine lv_iload hx hb dX5_type_47 (lv_at hl 7 rfl) ?_
    refine lv_iload hx hb dX5_type_49 (lv_at hl 6 rfl) ?_
    refine lv_icmp_ge (tgt := 124) hx hb dX5_type_51 (by decide) (fun c9 => absurd c9 (by decide)) (fun _ => ?_)
    refine lv_aload hx hb dX5_type_54 (lv_at hl 5 rfl) ?_
    refine lv_iload hx hb dX5_type_56 (lv_at hl 7 rfl) ?_
    refine va_iald (D := (dC, dI)) hx hb hK hP 2 1 rfl rfl (by unfold vp_in; decide) dX5_type_58 ?_
    refine W.eq (g2 := F0 m 59 ls [.int l3]) rfl ?_
    refine lv_istore (lv' := [(13, .int l3), (0, .ref h0), (1, .int rp), (7, .ref h2), (8, .int 1), (9, .ref ge5), (10, .ref h2), (11, .int 5), (12, .int 2)]) hx hb dX5_type_59 hl (by decide) rfl (fun ls hl => ?_)
    refine lv_iload hx hb dX5_type_61 (lv_at hl 4 rfl) ?_
    refine lv_iload hx hb dX5_type_63 (lv_at hl 0 rfl) ?_
    refine lv_iconst (v := (-1)) hx hb dX5_type_65 (by decide) ?_
    refine lv_iconst (v := 3) hx hb dX5_type_66 (by decide) ?_
    have hPc := hP.sub (ws' := []) [] rfl
    have hDc := hD.sub (ws' := []) [] (by decide) rfl
    have hKc := hK.sub (tys' := []) [] rfl
    have hFc := va_free (wc := []) hD hS hA [] rfl
    refine va_calli (va_runS (As := [.int l3, .int (-1), .int 3]) (rest := [.int 1]) ⟨hx, hb, hml, hown, hts⟩ (kx_X5_isIn_15 l dC dI H.size l3 l3_l l3_u) (cwS 3 hts gX5_type_X5_isIn rfl rfl rfl (by decide +kernel) ⟨Nat.le_of_ble_eq_true rfl, Nat.le_of_ble_eq_true rfl⟩) ⟨fun a U g mk q => by obtain ⟨q0, q1, qP, qK, qD⟩ := q; exact ⟨q0, q1, qP, va_K.moved (u := U) (U := U.calling g mk a) (Vm.Alike.refl U.vm) qK, qD⟩, fun U hU hW => ⟨rfl, by rw [hU], by rw [hU]; exact hPc, va_K.moved hW.alike hKc, hDc.weaken (fun _ _ _ _ => trivial)⟩⟩ rfl rfl hl.1 rfl (lv_room (Nat.le_of_ble_eq_true rfl)) dX5_type_67 ⟨Nat.le_of_ble_eq_true rfl, Nat.le_of_ble_eq_true rfl⟩) hS (fun q _ h => hFc q h) hFc (fun r9 u t H1 locs ht hvm hw hB hz1 hk1 hS => ?_)
    obtain rfl := hw
    obtain ⟨hP1, hK1, hD1⟩ := hB
    rw [ht] at hP1
    have hK1 := va_K.moved hvm.symm hK1
    obtain ⟨hP, hD⟩ := va_join (wr := [(h0, .inr (9, [.int 0, .ref h1, .ref z0, .ref z1, .int 0, .int 0, .int 0])), (h1, .inl (k0, 4, .inr (.inr (.inr (.inr (va_up (va_up (va_up (va_up (fun _ => none) 0 (some ge5)) 1 (some ge5)) 2 (some ge5)) 3 (some ge5))))))), (h2, .inl (k1, 5, .inl (upd (upd (upd (upd (upd (fun _ => 0) 0 l1) 1 l2) 2 l3) 3 l4) 4 l5)))]) (w1 := []) hP hD [] [0, 1, 2] rfl rfl (by decide) (by decide) hk1 hFc hP1 hD1
    generalize H1 = H at hP hS ⊢
    have hP : va_P (dC, dI) vwCl [(h0, .inr (9, [.int 0, .ref h1, .ref z0, .ref z1, .int 0, .int 0, .int 0])), (h1, .inl (k0, 4, .inr (.inr (.inr (.inr (va_up (va_up (va_up (va_up (fun _ => none) 0 (some ge5)) 1 (some ge5)) 2 (some ge5)) 3 (some ge5))))))), (h2, .inl (k1, 5, .inl (upd (upd (upd (upd (upd (fun _ => 0) 0 l1) 1 l2) 2 l3) 3 l4) 4 l5)))] H := hP
    have hD : va_D A [(h0, .inr (9, [.int 0, .ref h1, .ref z0, .ref z1, .int 0, .int 0, .int 0])), (h1, .inl (k0, 4, .inr (.inr (.inr (.inr (va_up (va_up (va_up (va_up (fun _ => none) 0 (some ge5)) 1 (some ge5)) 2 (some ge5)) 3 (some ge5))))))), (h2, .inl (k1, 5, .inl (upd (upd (upd (upd (upd (fun _ => 0) 0 l1) 1 l2) 2 l3) 3 l4) 4 l5)))] := hD
    refine lv_if_ne (tgt := 77) hx hb dX5_type_70 (by decide) (fun c9 => absurd (by decide) c9) (fun _ => ?_)
    refine lv_iconst (v := 1) hx hb dX5_type_73 (by decide) ?_
    refine lv_goto (tgt := 78) hx hb dX5_type_74 (by decide) ?_
    refine lv_ior hx hb dX5_type_78 ?_
    refine lv_topi (fun y101 ey101 => ?_)
    obtain rfl : y101 = 1 := ey101.trans (by decide)
    refine lv_istore (lv' := [(8, .int 1), (13, .int l3), (0, .ref h0), (1, .int rp), (7, .ref h2), (9, .ref ge5), (10, .ref h2), (11, .int 5), (12, .int 2)]) hx hb dX5_type_79 hl (by decide) rfl (fun ls hl => ?_)
    refine lv_iload hx hb dX5_type_81 (lv_at hl 1 rfl) ?_
    refine lv_iconst (v := 0) hx hb dX5_type_83 (by decide) ?_
    refine lv_iconst (v := 3) hx hb dX5_type_84 (by decide) ?_
    have hPc := hP.sub (ws' := []) [] rfl
    have hDc := hD.sub (ws' := []) [] (by decide) rfl
    have hKc := hK.sub (tys' := []) [] rfl
    have hFc := va_free (wc := []) hD hS hA [] rfl
    refine va_calli (va_runS (As := [.int l3, .int 0, .int 3]) (rest := []) ⟨hx, hb, hml, hown, hts⟩ (kx_X5_isIn_2 l dC dI H.size l3 l3_l l3_u) (cwS 3 hts gX5_type_X5_isIn rfl rfl rfl (by decide +kernel) ⟨Nat.le_of_ble_eq_true rfl, Nat.le_of_ble_eq_true rfl⟩) ⟨fun a U g mk q => by obtain ⟨q0, q1, qP, qK, qD⟩ := q; exact ⟨q0, q1, qP, va_K.moved (u := U) (U := U.calling g mk a) (Vm.Alike.refl U.vm) qK, qD⟩, fun U hU hW => ⟨rfl, by rw [hU], by rw [hU]; exact hPc, va_K.moved hW.alike hKc, hDc.weaken (fun _ _ _ _ => trivial)⟩⟩ rfl rfl hl.1 rfl (lv_room (Nat.le_of_ble_eq_true rfl)) dX5_type_85 ⟨Nat.le_of_ble_eq_true rfl, Nat.le_of_ble_eq_true rfl⟩) hS (fun q _ h => hFc q h) hFc (fun r9 u t H1 locs ht hvm hw hB hz1 hk1 hS => ?_)
    obtain rfl := hw
    obtain ⟨hP1, hK1, hD1⟩ := hB
    rw [ht] at hP1
    have hK1 := va_K.moved hvm.symm hK1
    obtain ⟨hP, hD⟩ := va_join (wr := [(h0, .inr (9, [.int 0, .ref h1, .ref z0, .ref z1, .int 0, .int 0, .int 0])), (h1, .inl (k0, 4, .inr (.inr (.inr (.inr (va_up (va_up (va_up (va_up (fun _ => none) 0 (some ge5)) 1 (some ge5)) 2 (some ge5)) 3 (some ge5))))))), (h2, .inl (k1, 5, .inl (upd (upd (upd (upd (upd (fun _ => 0) 0 l1) 1 l2) 2 l3) 3 l4) 4 l5)))]) (w1 := []) hP hD [] [0, 1, 2] rfl rfl (by decide) (by decide) hk1 hFc hP1 hD1
    generalize H1 = H at hP hS ⊢
    have hP : va_P (dC, dI) vwCl [(h0, .inr (9, [.int 0, .ref h1, .ref z0, .ref z1, .int 0, .int 0, .int 0])), (h1, .inl (k0, 4, .inr (.inr (.inr (.inr (va_up (va_up (va_up (va_up (fun _ => none) 0 (some ge5)) 1 (some ge5)) 2 (some ge5)) 3 (some ge5))))))), (h2, .inl (k1, 5, .inl (upd (upd (upd (upd (upd (fun _ => 0) 0 l1) 1 l2) 2 l3) 3 l4) 4 l5)))] H := hP
    have hD : va_D A [(h0, .inr (9, [.int 0, .ref h1, .ref z0, .ref z1, .int 0, .int 0, .int 0])), (h1, .inl (k0, 4, .inr (.inr (.inr (.inr (va_up (va_up (va_up (va_up (fun _ => none) 0 (some ge5)) 1 (some ge5)) 2 (some ge5)) 3 (some ge5))))))), (h2, .inl (k1, 5, .inl (upd (upd (upd (upd (upd (fun _ => 0) 0 l1) 1 l2) 2 l3) 3 l4) 4 l5)))] := hD
    refine lv_if_eq (tgt := 118) hx hb dX5_type_88 (by decide) (fun _ => ?_) (fun c9 => absurd (by decide) c9)
    refine lv_iinc (v := 3) (lv' := [(12, .int 3), (8, .int 1), (13, .int l3), (0, .ref h0), (1, .int rp), (7, .ref h2), (9, .ref ge5), (10, .ref h2), (11, .int 5)]) hx hb dX5_type_118 hl (k := 8) rfl (by decide) (by decide) rfl (fun ls hl => ?_)
    refine lv_goto (tgt := 47) hx hb dX5_type_121 (by decide) ?_
    have hP := hP.sub (ws' := [(h0, .inr (9, [.int 0, .ref h1, .ref z0, .ref z1, .int 0, .int 0, .int 0])), (h1, .inl (k0, 4, .inr (.inr (.inr (.inr (va_up (va_up (va_up (va_up (fun _ => none) 0 (some ge5)) 1 (some ge5)) 2 (some ge5)) 3 (some ge5))))))), (h2, .inl (k1, 5, .inl (upd (upd (upd (upd (upd (fun _ => 0) 0 l1) 1 l2) 2 l3) 3 l4) 4 l5)))]) [0, 1, 2] rfl
    have hD := hD.sub (ws' := [(h0, .inr (9, [.int 0, .ref h1, .ref z0, .ref z1, .int 0, .int 0, .int 0])), (h1, .inl (k0, 4, .inr (.inr (.inr (.inr (va_up (va_up (va_up (va_up (fun _ => none) 0 (some ge5)) 1 (some ge5)) 2 (some ge5)) 3 (some ge5))))))), (h2, .inl (k1, 5, .inl (upd (upd (upd (upd (upd (fun _ => 0) 0 l1) 1 l2) 2 l3) 3 l4) 4 l5)))]) [0, 1, 2] (by decide) rfl
    have hK := hK.sub (tys' := [(k0, .object "java/lang/String"), (k1, .int)]) [0, 1] rfl
    have hl := lv_sub hl [3, 4, 5, 1, 6, 7, 8, 0] (show lv_pick [(12, .int 3), (8, .int 1), (13, .int l3), (0, .ref h0), (1, .int rp), (7, .ref h2), (9, .ref ge5), (10, .ref h2), (11, .int 5)] [3, 4, 5, 1, 6, 7, 8, 0] = [(0, .ref h0), (1, .int rp), (7, .ref h2), (8, .int 1), (9, .ref ge5), (10, .ref h2), (11, .int 5), (12, .int 3)] from rfl)
    exact kx_X5_type_h301 hR hx hb hr hml hown hts hlocks hA hG hS hK hP hD hl
set_option maxHeartbeats 8000000 in
set_option maxRecDepth 100000 in
theorem kx_X5_type_h211 {l : Launch} {dC : Nat → ClassId} {dI : Nat → Nat → Nat} {ge5 gea gv5 gva gde gic gi0 : Nat} {h0 h1 h2 h3 h4 z0 z1 : Nat} {k0 k1 k2 : ClassId} {rp l1 l2 l3 l4 l5 R v : Int32} {p : Program} {e : Env} {s : State} {m : MethodId} {args : Array Value} {below : List Frame} {meth : Method} {c : Code} {A : Nat → Prop} {H : Heap} {locs : List Loc} {ls : Array Slot} {f0 : Nat → Int32} (f0_t : sb_Fit f0) (hR : kz_ty rp 1 1 [l3, l4, l5] = (R, v)) (hx : p.tables.exec = Jvm.exec) (hb : c.code = cX5_type) (hr : meth.sig.returnType = some .int) (hml : c.maxLocals = 14) (hown : s.vm.findClass RX5 = some m.cls) (hts : ∀ w ∈ wsX5_type, w.before args s = true) (hlocks : meth.locks = false) (hA : ∀ q : Nat, s.heap.size ≤ q → A q) (hG : gv ge5 gea gv5 gva gde gic gi0 A s s.heap) (hS : va_S A s.heap H locs) (hK : va_K (dC, dI) vwCl [(k0, .object "java/lang/String"), (k1, .int), (k2, .byte)] s) (hP : va_P (dC, dI) vwCl [(h0, .inr (9, [.int 0, .ref h1, .ref z0, .ref z1, .int 0, .int 0, .int 0])), (h1, .inl (k0, 4, .inr (.inr (.inr (.inr (va_up (va_up (va_up (va_up (fun _ => none) 0 (some ge5)) 1 (some ge5)) 2 (some ge5)) 3 (some ge5))))))), (h2, .inl (k1, 5, .inl (upd (upd (upd (upd (upd (fun _ => 0) 0 l1) 1 l2) 2 l3) 3 l4) 4 l5))), (h3, .inr (0, [.ref h4, .int 0, .int 0, .int 0])), (h4, .inl (k2, 1, .inl f0))] H) (hD : va_D A [(h0, .inr (9, [.int 0, .ref h1, .ref z0, .ref z1, .int 0, .int 0, .int 0])), (h1, .inl (k0, 4, .inr (.inr (.inr (.inr (va_up (va_up (va_up (va_up (fun _ => none) 0 (some ge5)) 1 (some ge5)) 2 (some ge5)) 3 (some ge5))))))), (h2, .inl (k1, 5, .inl (upd (upd (upd (upd (upd (fun _ => 0) 0 l1) 1 l2) 2 l3) 3 l4) 4 l5))), (h3, .inr (0, [.ref h4, .int 0, .int 0, .int 0])), (h4, .inl (k2, 1, .inl f0))]) (hl : lv_has ls 14 [(0, .ref h0), (1, .int rp), (7, .ref h2), (8, .int 1), (9, .ref h3), (10, .ref h2), (11, .int 5), (12, .int 2)]) : W p l e (headSpec wsX5_type ({ frames := 6, cells := 25, slots := 169, locals := 171 })).room s m args below meth c H locs 5 30 (MQ below (va_Qi (fun (r : Int32) (_ : Unit) => r = R) (fun (_ : Unit) (t : State) => va_P (dC, dI) vwCl [(h0, .inr (9, [.int v, .ref h1, .ref z0, .ref z1, .int 0, .int 0, .int 0]))] t.heap ∧ va_K (dC, dI) vwCl [(k0, .object "java/lang/String")] t ∧ va_D A [(h0, .inr (9, [.int v, .ref h1, .ref z0, .ref z1, .int 0, .int 0, .int 0]))]) A) args s 25 169 A) (F0 m 47 ls []) := by
  obtain ⟨⟨g_AO_Text, g_AO_String, g_AO_Object, g_nm_RX1_20, g_nm_RX0_17, g_nm_RX3_31, g_nm_RX2_44, g_nm_RL_121, g_nf_RL_13, g_nf_RL_47, g_ca_IO, g_ca_IA, g_ca_IS, g_ca_IntObj, g_ca_StrObj, g_de_RT, g_de_EX, g_de_TH, g_nc_IA_IO, g_nc_IS_IO, g_nc_IS_IA⟩, ⟨g_s3, g_s5, g_sa, g_x278, g_x280, g_x282, g_x284, g_x286, g_x180, g_x238, g_x250⟩, ⟨g_o5, g_c5, g_v5, g_t5, g_oa, g_ca, g_va, g_ta, g_zc, g_zd, g_td, g_zf, g_zU, g_zN, g_zh, g_zk, g_tk, g_oi, g_vi⟩⟩ := id hG
  have a9 := Int32.le_toInt l3
  have b9 := Int32.toInt_lt l3
  rcases kz_cls l3 with r9 | rfl | rfl | rfl | rfl | rfl | r9
  · have l3_l : ((-2147483648) : Int) ≤ l3.toInt := by omega
    have l3_u : l3.toInt ≤ ((-2) : Int) := by omega
    have hR : kz_ty rp 1 1 [l4, l5] = (R, v) := (kz_ty_b (by omega)).symm.trans hR
    refine lv_iload hx hb dX5_type_47 (lv_at hl 7 rfl) ?_
    refine lv_iload hx hb dX5_type_49 (lv_at hl 6 rfl) ?_
    refine lv_icmp_ge (tgt := 124) hx hb dX5_type_51 (by decide) (fun c9 => absurd c9 (by decide)) (fun _ => ?_)
    refine lv_aload hx hb dX5_type_54 (lv_at hl 5 rfl) ?_
    refine lv_iload hx hb dX5_type_56 (lv_at hl 7 rfl) ?_
    refine va_iald (D := (dC, dI)) hx hb hK hP 2 1 rfl rfl (by unfold vp_in; decide) dX5_type_58 ?_
    refine W.eq (g2 := F0 m 59 ls [.int l3]) rfl ?_
    refine lv_istore (lv' := [(13, .int l3), (0, .ref h0), (1, .int rp), (7, .ref h2), (8, .int 1), (9, .ref h3), (10, .ref h2), (11, .int 5), (12, .int 2)]) hx hb dX5_type_59 hl (by decide) rfl (fun ls hl => ?_)
    refine lv_iload hx hb dX5_type_61 (lv_at hl 4 rfl) ?_
    refine lv_iload hx hb dX5_type_63 (lv_at hl 0 rfl) ?_
    refine lv_iconst (v := (-1)) hx hb dX5_type_65 (by decide) ?_
    refine lv_iconst (v := 3) hx hb dX5_type_66 (by decide) ?_
    have hPc := hP.sub (ws' := []) [] rfl
    have hDc := hD.sub (ws' := []) [] (by decide) rfl
    have hKc := hK.sub (tys' := []) [] rfl
    have hFc := va_free (wc := []) hD hS hA [] rfl
    refine va_calli (va_runS (As := [.int l3, .int (-1), .int 3]) (rest := [.int 1]) ⟨hx, hb, hml, hown, hts⟩ (kx_X5_isIn_3 l dC dI H.size l3 l3_l l3_u) (cwS 3 hts gX5_type_X5_isIn rfl rfl rfl (by decide +kernel) ⟨Nat.le_of_ble_eq_true rfl, Nat.le_of_ble_eq_true rfl⟩) ⟨fun a U g mk q => by obtain ⟨q0, q1, qP, qK, qD⟩ := q; exact ⟨q0, q1, qP, va_K.moved (u := U) (U := U.calling g mk a) (Vm.Alike.refl U.vm) qK, qD⟩, fun U hU hW => ⟨rfl, by rw [hU], by rw [hU]; exact hPc, va_K.moved hW.alike hKc, hDc.weaken (fun _ _ _ _ => trivial)⟩⟩ rfl rfl hl.1 rfl (lv_room (Nat.le_of_ble_eq_true rfl)) dX5_type_67 ⟨Nat.le_of_ble_eq_true rfl, Nat.le_of_ble_eq_true rfl⟩) hS (fun q _ h => hFc q h) hFc (fun r9 u t H1 locs ht hvm hw hB hz1 hk1 hS => ?_)
    obtain rfl := hw
    obtain ⟨hP1, hK1, hD1⟩ := hB
    rw [ht] at hP1
    have hK1 := va_K.moved hvm.symm hK1
    obtain ⟨hP, hD⟩ := va_join (wr := [(h0, .inr (9, [.int 0, .ref h1, .ref z0, .ref z1, .int 0, .int 0, .int 0])), (h1, .inl (k0, 4, .inr (.inr (.inr (.inr (va_up (va_up (va_up (va_up (fun _ => none) 0 (some ge5)) 1 (some ge5)) 2 (some ge5)) 3 (some ge5))))))), (h2, .inl (k1, 5, .inl (upd (upd (upd (upd (upd (fun _ => 0) 0 l1) 1 l2) 2 l3) 3 l4) 4 l5))), (h3, .inr (0, [.ref h4, .int 0, .int 0, .int 0])), (h4, .inl (k2, 1, .inl f0))]) (w1 := []) hP hD [] [0, 1, 2, 3, 4] rfl rfl (by decide) (by decide) hk1 hFc hP1 hD1
    generalize H1 = H at hP hS ⊢
    have hP : va_P (dC, dI) vwCl [(h0, .inr (9, [.int 0, .ref h1, .ref z0, .ref z1, .int 0, .int 0, .int 0])), (h1, .inl (k0, 4, .inr (.inr (.inr (.inr (va_up (va_up (va_up (va_up (fun _ => none) 0 (some ge5)) 1 (some ge5)) 2 (some ge5)) 3 (some ge5))))))), (h2, .inl (k1, 5, .inl (upd (upd (upd (upd (upd (fun _ => 0) 0 l1) 1 l2) 2 l3) 3 l4) 4 l5))), (h3, .inr (0, [.ref h4, .int 0, .int 0, .int 0])), (h4, .inl (k2, 1, .inl f0))] H := hP
    have hD : va_D A [(h0, .inr (9, [.int 0, .ref h1, .ref z0, .ref z1, .int 0, .int 0, .int 0])), (h1, .inl (k0, 4, .inr (.inr (.inr (.inr (va_up (va_up (va_up (va_up (fun _ => none) 0 (some ge5)) 1 (some ge5)) 2 (some ge5)) 3 (some ge5))))))), (h2, .inl (k1, 5, .inl (upd (upd (upd (upd (upd (fun _ => 0) 0 l1) 1 l2) 2 l3) 3 l4) 4 l5))), (h3, .inr (0, [.ref h4, .int 0, .int 0, .int 0])), (h4, .inl (k2, 1, .inl f0))] := hD
    refine lv_if_ne (tgt := 77) hx hb dX5_type_70 (by decide) (fun c9 => absurd (by decide) c9) (fun _ => ?_)
    refine lv_iconst (v := 1) hx hb dX5_type_73 (by decide) ?_
    refine lv_goto (tgt := 78) hx hb dX5_type_74 (by decide) ?_
    refine lv_ior hx hb dX5_type_78 ?_
    refine lv_topi (fun y101 ey101 => ?_)
    obtain rfl : y101 = 1 := ey101.trans (by decide)
    refine lv_istore (lv' := [(8, .int 1), (13, .int l3), (0, .ref h0), (1, .int rp), (7, .ref h2), (9, .ref h3), (10, .ref h2), (11, .int 5), (12, .int 2)]) hx hb dX5_type_79 hl (by decide) rfl (fun ls hl => ?_)
    refine lv_iload hx hb dX5_type_81 (lv_at hl 1 rfl) ?_
    refine lv_iconst (v := 0) hx hb dX5_type_83 (by decide) ?_
    refine lv_iconst (v := 3) hx hb dX5_type_84 (by decide) ?_
    have hPc := hP.sub (ws' := []) [] rfl
    have hDc := hD.sub (ws' := []) [] (by decide) rfl
    have hKc := hK.sub (tys' := []) [] rfl
    have hFc := va_free (wc := []) hD hS hA [] rfl
    refine va_calli (va_runS (As := [.int l3, .int 0, .int 3]) (rest := []) ⟨hx, hb, hml, hown, hts⟩ (kx_X5_isIn_4 l dC dI H.size l3 l3_l l3_u) (cwS 3 hts gX5_type_X5_isIn rfl rfl rfl (by decide +kernel) ⟨Nat.le_of_ble_eq_true rfl, Nat.le_of_ble_eq_true rfl⟩) ⟨fun a U g mk q => by obtain ⟨q0, q1, qP, qK, qD⟩ := q; exact ⟨q0, q1, qP, va_K.moved (u := U) (U := U.calling g mk a) (Vm.Alike.refl U.vm) qK, qD⟩, fun U hU hW => ⟨rfl, by rw [hU], by rw [hU]; exact hPc, va_K.moved hW.alike hKc, hDc.weaken (fun _ _ _ _ => trivial)⟩⟩ rfl rfl hl.1 rfl (lv_room (Nat.le_of_ble_eq_true rfl)) dX5_type_85 ⟨Nat.le_of_ble_eq_true rfl, Nat.le_of_ble_eq_true rfl⟩) hS (fun q _ h => hFc q h) hFc (fun r9 u t H1 locs ht hvm hw hB hz1 hk1 hS => ?_)
    obtain rfl := hw
    obtain ⟨hP1, hK1, hD1⟩ := hB
    rw [ht] at hP1
    have hK1 := va_K.moved hvm.symm hK1
    obtain ⟨hP, hD⟩ := va_join (wr := [(h0, .inr (9, [.int 0, .ref h1, .ref z0, .ref z1, .int 0, .int 0, .int 0])), (h1, .inl (k0, 4, .inr (.inr (.inr (.inr (va_up (va_up (va_up (va_up (fun _ => none) 0 (some ge5)) 1 (some ge5)) 2 (some ge5)) 3 (some ge5))))))), (h2, .inl (k1, 5, .inl (upd (upd (upd (upd (upd (fun _ => 0) 0 l1) 1 l2) 2 l3) 3 l4) 4 l5))), (h3, .inr (0, [.ref h4, .int 0, .int 0, .int 0])), (h4, .inl (k2, 1, .inl f0))]) (w1 := []) hP hD [] [0, 1, 2, 3, 4] rfl rfl (by decide) (by decide) hk1 hFc hP1 hD1
    generalize H1 = H at hP hS ⊢
    have hP : va_P (dC, dI) vwCl [(h0, .inr (9, [.int 0, .ref h1, .ref z0, .ref z1, .int 0, .int 0, .int 0])), (h1, .inl (k0, 4, .inr (.inr (.inr (.inr (va_up (va_up (va_up (va_up (fun _ => none) 0 (some ge5)) 1 (some ge5)) 2 (some ge5)) 3 (some ge5))))))), (h2, .inl (k1, 5, .inl (upd (upd (upd (upd (upd (fun _ => 0) 0 l1) 1 l2) 2 l3) 3 l4) 4 l5))), (h3, .inr (0, [.ref h4, .int 0, .int 0, .int 0])), (h4, .inl (k2, 1, .inl f0))] H := hP
    have hD : va_D A [(h0, .inr (9, [.int 0, .ref h1, .ref z0, .ref z1, .int 0, .int 0, .int 0])), (h1, .inl (k0, 4, .inr (.inr (.inr (.inr (va_up (va_up (va_up (va_up (fun _ => none) 0 (some ge5)) 1 (some ge5)) 2 (some ge5)) 3 (some ge5))))))), (h2, .inl (k1, 5, .inl (upd (upd (upd (upd (upd (fun _ => 0) 0 l1) 1 l2) 2 l3) 3 l4) 4 l5))), (h3, .inr (0, [.ref h4, .int 0, .int 0, .int 0])), (h4, .inl (k2, 1, .inl f0))] := hD
    refine lv_if_eq (tgt := 118) hx hb dX5_type_88 (by decide) (fun _ => ?_) (fun c9 => absurd (by decide) c9)
    refine lv_iinc (v := 3) (lv' := [(12, .int 3), (8, .int 1), (13, .int l3), (0, .ref h0), (1, .int rp), (7, .ref h2), (9, .ref h3), (10, .ref h2), (11, .int 5)]) hx hb dX5_type_118 hl (k := 8) rfl (by decide) (by decide) rfl (fun ls hl => ?_)
    refine lv_goto (tgt := 47) hx hb dX5_type_121 (by decide) ?_
    have hP := hP.sub (ws' := [(h0, .inr (9, [.int 0, .ref h1, .ref z0, .ref z1, .int 0, .int 0, .int 0])), (h1, .inl (k0, 4, .inr (.inr (.inr (.inr (va_up (va_up (va_up (va_up (fun _ => none) 0 (some ge5)) 1 (some ge5)) 2 (some ge5)) 3 (some ge5))))))), (h2, .inl (k1, 5, .inl (upd (upd (upd (upd (upd (fun _ => 0) 0 l1) 1 l2) 2 l3) 3 l4) 4 l5))), (h3, .inr (0, [.ref h4, .int 0, .int 0, .int 0])), (h4, .inl (k2, 1, .inl f0))]) [0, 1, 2, 3, 4] rfl
    have hD := hD.sub (ws' := [(h0, .inr (9, [.int 0, .ref h1, .ref z0, .ref z1, .int 0, .int 0, .int 0])), (h1, .inl (k0, 4, .inr (.inr (.inr (.inr (va_up (va_up (va_up (va_up (fun _ => none) 0 (some ge5)) 1 (some ge5)) 2 (some ge5)) 3 (some ge5))))))), (h2, .inl (k1, 5, .inl (upd (upd (upd (upd (upd (fun _ => 0) 0 l1) 1 l2) 2 l3) 3 l4) 4 l5))), (h3, .inr (0, [.ref h4, .int 0, .int 0, .int 0])), (h4, .inl (k2, 1, .inl f0))]) [0, 1, 2, 3, 4] (by decide) rfl
    have hK := hK.sub (tys' := [(k0, .object "java/lang/String"), (k1, .int), (k2, .byte)]) [0, 1, 2] rfl
    have hl := lv_sub hl [3, 4, 5, 1, 6, 7, 8, 0] (show lv_pick [(12, .int 3), (8, .int 1), (13, .int l3), (0, .ref h0), (1, .int rp), (7, .ref h2), (9, .ref h3), (10, .ref h2), (11, .int 5)] [3, 4, 5, 1, 6, 7, 8, 0] = [(0, .ref h0), (1, .int rp), (7, .ref h2), (8, .int 1), (9, .ref h3), (10, .ref h2), (11, .int 5), (12, .int 3)] from rfl)
    exact kx_X5_type_h311 f0_t hR hx hb hr hml hown hts hlocks hA hG hS hK hP hD hl
  · have hR : kz_ty rp 1 1 [l4, l5] = (R, v) := kz_ty_n.symm.trans hR
    refine lv_iload hx hb dX5_type_47 (lv_at hl 7 rfl) ?_
    refine lv_iload hx hb dX5_type_49 (lv_at hl 6 rfl) ?_
    refine lv_icmp_ge (tgt := 124) hx hb dX5_type_51 (by decide) (fun c9 => absurd c9 (by decide)) (fun _ => ?_)
    refine lv_aload hx hb dX5_type_54 (lv_at hl 5 rfl) ?_
    refine lv_iload hx hb dX5_type_56 (lv_at hl 7 rfl) ?_
    refine va_iald (D := (dC, dI)) hx hb hK hP 2 1 rfl rfl (by unfold vp_in; decide) dX5_type_58 ?_
    refine W.eq (g2 := F0 m 59 ls [.int (-1)]) rfl ?_
    refine lv_istore (lv' := [(13, .int (-1)), (0, .ref h0), (1, .int rp), (7, .ref h2), (8, .int 1), (9, .ref h3), (10, .ref h2), (11, .int 5), (12, .int 2)]) hx hb dX5_type_59 hl (by decide) rfl (fun ls hl => ?_)
    refine lv_iload hx hb dX5_type_61 (lv_at hl 4 rfl) ?_
    refine lv_iload hx hb dX5_type_63 (lv_at hl 0 rfl) ?_
    refine lv_iconst (v := (-1)) hx hb dX5_type_65 (by decide) ?_
    refine lv_iconst (v := 3) hx hb dX5_type_66 (by decide) ?_
    have hPc := hP.sub (ws' := []) [] rfl
    have hDc := hD.sub (ws' := []) [] (by decide) rfl
    have hKc := hK.sub (tys' := []) [] rfl
    have hFc := va_free (wc := []) hD hS hA [] rfl
    refine va_calli (va_runS (As := [.int (-1), .int (-1), .int 3]) (rest := [.int 1]) ⟨hx, hb, hml, hown, hts⟩ (kx_X5_isIn_5 l dC dI H.size) (cwS 3 hts gX5_type_X5_isIn rfl rfl rfl (by decide +kernel) ⟨Nat.le_of_ble_eq_true rfl, Nat.le_of_ble_eq_true rfl⟩) ⟨fun a U g mk q => by obtain ⟨q0, q1, qP, qK, qD⟩ := q; exact ⟨q0, q1, qP, va_K.moved (u := U) (U := U.calling g mk a) (Vm.Alike.refl U.vm) qK, qD⟩, fun U hU hW => ⟨rfl, by rw [hU], by rw [hU]; exact hPc, va_K.moved hW.alike hKc, hDc.weaken (fun _ _ _ _ => trivial)⟩⟩ rfl rfl hl.1 rfl (lv_room (Nat.le_of_ble_eq_true rfl)) dX5_type_67 ⟨Nat.le_of_ble_eq_true rfl, Nat.le_of_ble_eq_true rfl⟩) hS (fun q _ h => hFc q h) hFc (fun r9 u t H1 locs ht hvm hw hB hz1 hk1 hS => ?_)
    obtain rfl := hw
    obtain ⟨hP1, hK1, hD1⟩ := hB
    rw [ht] at hP1
    have hK1 := va_K.moved hvm.symm hK1
    obtain ⟨hP, hD⟩ := va_join (wr := [(h0, .inr (9, [.int 0, .ref h1, .ref z0, .ref z1, .int 0, .int 0, .int 0])), (h1, .inl (k0, 4, .inr (.inr (.inr (.inr (va_up (va_up (va_up (va_up (fun _ => none) 0 (some ge5)) 1 (some ge5)) 2 (some ge5)) 3 (some ge5))))))), (h2, .inl (k1, 5, .inl (upd (upd (upd (upd (upd (fun _ => 0) 0 l1) 1 l2) 2 (-1)) 3 l4) 4 l5))), (h3, .inr (0, [.ref h4, .int 0, .int 0, .int 0])), (h4, .inl (k2, 1, .inl f0))]) (w1 := []) hP hD [] [0, 1, 2, 3, 4] rfl rfl (by decide) (by decide) hk1 hFc hP1 hD1
    generalize H1 = H at hP hS ⊢
    have hP : va_P (dC, dI) vwCl [(h0, .inr (9, [.int 0, .ref h1, .ref z0, .ref z1, .int 0, .int 0, .int 0])), (h1, .inl (k0, 4, .inr (.inr (.inr (.inr (va_up (va_up (va_up (va_up (fun _ => none) 0 (some ge5)) 1 (some ge5)) 2 (some ge5)) 3 (some ge5))))))), (h2, .inl (k1, 5, .inl (upd (upd (upd (upd (upd (fun _ => 0) 0 l1) 1 l2) 2 (-1)) 3 l4) 4 l5))), (h3, .inr (0, [.ref h4, .int 0, .int 0, .int 0])), (h4, .inl (k2, 1, .inl f0))] H := hP
    have hD : va_D A [(h0, .inr (9, [.int 0, .ref h1, .ref z0, .ref z1, .int 0, .int 0, .int 0])), (h1, .inl (k0, 4, .inr (.inr (.inr (.inr (va_up (va_up (va_up (va_up (fun _ => none) 0 (some ge5)) 1 (some ge5)) 2 (some ge5)) 3 (some ge5))))))), (h2, .inl (k1, 5, .inl (upd (upd (upd (upd (upd (fun _ => 0) 0 l1) 1 l2) 2 (-1)) 3 l4) 4 l5))), (h3, .inr (0, [.ref h4, .int 0, .int 0, .int 0])), (h4, .inl (k2, 1, .inl f0))] := hD
    refine lv_if_ne (tgt := 77) hx hb dX5_type_70 (by decide) (fun _ => ?_) (fun c9 => absurd c9 (by decide))
    refine lv_iconst (v := 0) hx hb dX5_type_77 (by decide) ?_
    refine lv_ior hx hb dX5_type_78 ?_
    refine lv_topi (fun y101 ey101 => ?_)
    obtain rfl : y101 = 1 := ey101.trans (by decide)
    refine lv_istore (lv' := [(8, .int 1), (13, .int (-1)), (0, .ref h0), (1, .int rp), (7, .ref h2), (9, .ref h3), (10, .ref h2), (11, .int 5), (12, .int 2)]) hx hb dX5_type_79 hl (by decide) rfl (fun ls hl => ?_)
    refine lv_iload hx hb dX5_type_81 (lv_at hl 1 rfl) ?_
    refine lv_iconst (v := 0) hx hb dX5_type_83 (by decide) ?_
    refine lv_iconst (v := 3) hx hb dX5_type_84 (by decide) ?_
    have hPc := hP.sub (ws' := []) [] rfl
    have hDc := hD.sub (ws' := []) [] (by decide) rfl
    have hKc := hK.sub (tys' := []) [] rfl
    have hFc := va_free (wc := []) hD hS hA [] rfl
    refine va_calli (va_runS (As := [.int (-1), .int 0, .int 3]) (rest := []) ⟨hx, hb, hml, hown, hts⟩ (kx_X5_isIn_6 l dC dI H.size) (cwS 3 hts gX5_type_X5_isIn rfl rfl rfl (by decide +kernel) ⟨Nat.le_of_ble_eq_true rfl, Nat.le_of_ble_eq_true rfl⟩) ⟨fun a U g mk q => by obtain ⟨q0, q1, qP, qK, qD⟩ := q; exact ⟨q0, q1, qP, va_K.moved (u := U) (U := U.calling g mk a) (Vm.Alike.refl U.vm) qK, qD⟩, fun U hU hW => ⟨rfl, by rw [hU], by rw [hU]; exact hPc, va_K.moved hW.alike hKc, hDc.weaken (fun _ _ _ _ => trivial)⟩⟩ rfl rfl hl.1 rfl (lv_room (Nat.le_of_ble_eq_true rfl)) dX5_type_85 ⟨Nat.le_of_ble_eq_true rfl, Nat.le_of_ble_eq_true rfl⟩) hS (fun q _ h => hFc q h) hFc (fun r9 u t H1 locs ht hvm hw hB hz1 hk1 hS => ?_)
    obtain rfl := hw
    obtain ⟨hP1, hK1, hD1⟩ := hB
    rw [ht] at hP1
    have hK1 := va_K.moved hvm.symm hK1
    obtain ⟨hP, hD⟩ := va_join (wr := [(h0, .inr (9, [.int 0, .ref h1, .ref z0, .ref z1, .int 0, .int 0, .int 0])), (h1, .inl (k0, 4, .inr (.inr (.inr (.inr (va_up (va_up (va_up (va_up (fun _ => none) 0 (some ge5)) 1 (some ge5)) 2 (some ge5)) 3 (some ge5))))))), (h2, .inl (k1, 5, .inl (upd (upd (upd (upd (upd (fun _ => 0) 0 l1) 1 l2) 2 (-1)) 3 l4) 4 l5))), (h3, .inr (0, [.ref h4, .int 0, .int 0, .int 0])), (h4, .inl (k2, 1, .inl f0))]) (w1 := []) hP hD [] [0, 1, 2, 3, 4] rfl rfl (by decide) (by decide) hk1 hFc hP1 hD1
    generalize H1 = H at hP hS ⊢
    have hP : va_P (dC, dI) vwCl [(h0, .inr (9, [.int 0, .ref h1, .ref z0, .ref z1, .int 0, .int 0, .int 0])), (h1, .inl (k0, 4, .inr (.inr (.inr (.inr (va_up (va_up (va_up (va_up (fun _ => none) 0 (some ge5)) 1 (some ge5)) 2 (some ge5)) 3 (some ge5))))))), (h2, .inl (k1, 5, .inl (upd (upd (upd (upd (upd (fun _ => 0) 0 l1) 1 l2) 2 (-1)) 3 l4) 4 l5))), (h3, .inr (0, [.ref h4, .int 0, .int 0, .int 0])), (h4, .inl (k2, 1, .inl f0))] H := hP
    have hD : va_D A [(h0, .inr (9, [.int 0, .ref h1, .ref z0, .ref z1, .int 0, .int 0, .int 0])), (h1, .inl (k0, 4, .inr (.inr (.inr (.inr (va_up (va_up (va_up (va_up (fun _ => none) 0 (some ge5)) 1 (some ge5)) 2 (some ge5)) 3 (some ge5))))))), (h2, .inl (k1, 5, .inl (upd (upd (upd (upd (upd (fun _ => 0) 0 l1) 1 l2) 2 (-1)) 3 l4) 4 l5))), (h3, .inr (0, [.ref h4, .int 0, .int 0, .int 0])), (h4, .inl (k2, 1, .inl f0))] := hD
    refine lv_if_eq (tgt := 118) hx hb dX5_type_88 (by decide) (fun _ => ?_) (fun c9 => absurd (by decide) c9)
    refine lv_iinc (v := 3) (lv' := [(12, .int 3), (8, .int 1), (13, .int (-1)), (0, .ref h0), (1, .int rp), (7, .ref h2), (9, .ref h3), (10, .ref h2), (11, .int 5)]) hx hb dX5_type_118 hl (k := 8) rfl (by decide) (by decide) rfl (fun ls hl => ?_)
    refine lv_goto (tgt := 47) hx hb dX5_type_121 (by decide) ?_
    have hP := hP.sub (ws' := [(h0, .inr (9, [.int 0, .ref h1, .ref z0, .ref z1, .int 0, .int 0, .int 0])), (h1, .inl (k0, 4, .inr (.inr (.inr (.inr (va_up (va_up (va_up (va_up (fun _ => none) 0 (some ge5)) 1 (some ge5)) 2 (some ge5)) 3 (some ge5))))))), (h2, .inl (k1, 5, .inl (upd (upd (upd (upd (upd (fun _ => 0) 0 l1) 1 l2) 2 (-1)) 3 l4) 4 l5))), (h3, .inr (0, [.ref h4, .int 0, .int 0, .int 0])), (h4, .inl (k2, 1, .inl f0))]) [0, 1, 2, 3, 4] rfl
    have hD := hD.sub (ws' := [(h0, .inr (9, [.int 0, .ref h1, .ref z0, .ref z1, .int 0, .int 0, .int 0])), (h1, .inl (k0, 4, .inr (.inr (.inr (.inr (va_up (va_up (va_up (va_up (fun _ => none) 0 (some ge5)) 1 (some ge5)) 2 (some ge5)) 3 (some ge5))))))), (h2, .inl (k1, 5, .inl (upd (upd (upd (upd (upd (fun _ => 0) 0 l1) 1 l2) 2 (-1)) 3 l4) 4 l5))), (h3, .inr (0, [.ref h4, .int 0, .int 0, .int 0])), (h4, .inl (k2, 1, .inl f0))]) [0, 1, 2, 3, 4] (by decide) rfl
    have hK := hK.sub (tys' := [(k0, .object "java/lang/String"), (k1, .int), (k2, .byte)]) [0, 1, 2] rfl
    have hl := lv_sub hl [3, 4, 5, 1, 6, 7, 8, 0] (show lv_pick [(12, .int 3), (8, .int 1), (13, .int (-1)), (0, .ref h0), (1, .int rp), (7, .ref h2), (9, .ref h3), (10, .ref h2), (11, .int 5)] [3, 4, 5, 1, 6, 7, 8, 0] = [(0, .ref h0), (1, .int rp), (7, .ref h2), (8, .int 1), (9, .ref h3), (10, .ref h2), (11, .int 5), (12, .int 3)] from rfl)
    exact kx_X5_type_h311 f0_t hR hx hb hr hml hown hts hlocks hA hG hS hK hP hD hl
  · have hR : kz_ty rp 2 1 [l4, l5] = (R, v) := (kz_ty_g (by decide) (by decide)).symm.trans hR
    refine lv_iload hx hb dX5_type_47 (lv_at hl 7 rfl) ?_
    refine lv_iload hx hb dX5_type_49 (lv_at hl 6 rfl) ?_
    refine lv_icmp_ge (tgt := 124) hx hb dX5_type_51 (by decide) (fun c9 => absurd c9 (by decide)) (fun _ => ?_)
    refine lv_aload hx hb dX5_type_54 (lv_at hl 5 rfl) ?_
    refine lv_iload hx hb dX5_type_56 (lv_at hl 7 rfl) ?_
    refine va_iald (D := (dC, dI)) hx hb hK hP 2 1 rfl rfl (by unfold vp_in; decide) dX5_type_58 ?_
    refine W.eq (g2 := F0 m 59 ls [.int 0]) rfl ?_
    refine lv_istore (lv' := [(13, .int 0), (0, .ref h0), (1, .int rp), (7, .ref h2), (8, .int 1), (9, .ref h3), (10, .ref h2), (11, .int 5), (12, .int 2)]) hx hb dX5_type_59 hl (by decide) rfl (fun ls hl => ?_)
    refine lv_iload hx hb dX5_type_61 (lv_at hl 4 rfl) ?_
    refine lv_iload hx hb dX5_type_63 (lv_at hl 0 rfl) ?_
    refine lv_iconst (v := (-1)) hx hb dX5_type_65 (by decide) ?_
    refine lv_iconst (v := 3) hx hb dX5_type_66 (by decide) ?_
    have hPc := hP.sub (ws' := []) [] rfl
    have hDc := hD.sub (ws' := []) [] (by decide) rfl
    have hKc := hK.sub (tys' := []) [] rfl
    have hFc := va_free (wc := []) hD hS hA [] rfl
    refine va_calli (va_runS (As := [.int 0, .int (-1), .int 3]) (rest := [.int 1]) ⟨hx, hb, hml, hown, hts⟩ (kx_X5_isIn_7 l dC dI H.size) (cwS 3 hts gX5_type_X5_isIn rfl rfl rfl (by decide +kernel) ⟨Nat.le_of_ble_eq_true rfl, Nat.le_of_ble_eq_true rfl⟩) ⟨fun a U g mk q => by obtain ⟨q0, q1, qP, qK, qD⟩ := q; exact ⟨q0, q1, qP, va_K.moved (u := U) (U := U.calling g mk a) (Vm.Alike.refl U.vm) qK, qD⟩, fun U hU hW => ⟨rfl, by rw [hU], by rw [hU]; exact hPc, va_K.moved hW.alike hKc, hDc.weaken (fun _ _ _ _ => trivial)⟩⟩ rfl rfl hl.1 rfl (lv_room (Nat.le_of_ble_eq_true rfl)) dX5_type_67 ⟨Nat.le_of_ble_eq_true rfl, Nat.le_of_ble_eq_true rfl⟩) hS (fun q _ h => hFc q h) hFc (fun r9 u t H1 locs ht hvm hw hB hz1 hk1 hS => ?_)
    obtain rfl := hw
    obtain ⟨hP1, hK1, hD1⟩ := hB
    rw [ht] at hP1
    have hK1 := va_K.moved hvm.symm hK1
    obtain ⟨hP, hD⟩ := va_join (wr := [(h0, .inr (9, [.int 0, .ref h1, .ref z0, .ref z1, .int 0, .int 0, .int 0])), (h1, .inl (k0, 4, .inr (.inr (.inr (.inr (va_up (va_up (va_up (va_up (fun _ => none) 0 (some ge5)) 1 (some ge5)) 2 (some ge5)) 3 (some ge5))))))), (h2, .inl (k1, 5, .inl (upd (upd (upd (upd (upd (fun _ => 0) 0 l1) 1 l2) 2 0) 3 l4) 4 l5))), (h3, .inr (0, [.ref h4, .int 0, .int 0, .int 0])), (h4, .inl (k2, 1, .inl f0))]) (w1 := []) hP hD [] [0, 1, 2, 3, 4] rfl rfl (by decide) (by decide) hk1 hFc hP1 hD1
    generalize H1 = H at hP hS ⊢
    have hP : va_P (dC, dI) vwCl [(h0, .inr (9, [.int 0, .ref h1, .ref z0, .ref z1, .int 0, .int 0, .int 0])), (h1, .inl (k0, 4, .inr (.inr (.inr (.inr (va_up (va_up (va_up (va_up (fun _ => none) 0 (some ge5)) 1 (some ge5)) 2 (some ge5)) 3 (some ge5))))))), (h2, .inl (k1, 5, .inl (upd (upd (upd (upd (upd (fun _ => 0) 0 l1) 1 l2) 2 0) 3 l4) 4 l5))), (h3, .inr (0, [.ref h4, .int 0, .int 0, .int 0])), (h4, .inl (k2, 1, .inl f0))] H := hP
    have hD : va_D A [(h0, .inr (9, [.int 0, .ref h1, .ref z0, .ref z1, .int 0, .int 0, .int 0])), (h1, .inl (k0, 4, .inr (.inr (.inr (.inr (va_up (va_up (va_up (va_up (fun _ => none) 0 (some ge5)) 1 (some ge5)) 2 (some ge5)) 3 (some ge5))))))), (h2, .inl (k1, 5, .inl (upd (upd (upd (upd (upd (fun _ => 0) 0 l1) 1 l2) 2 0) 3 l4) 4 l5))), (h3, .inr (0, [.ref h4, .int 0, .int 0, .int 0])), (h4, .inl (k2, 1, .inl f0))] := hD
    refine lv_if_ne (tgt := 77) hx hb dX5_type_70 (by decide) (fun _ => ?_) (fun c9 => absurd c9 (by decide))
    refine lv_iconst (v := 0) hx hb dX5_type_77 (by decide) ?_
    refine lv_ior hx hb dX5_type_78 ?_
    refine lv_topi (fun y101 ey101 => ?_)
    obtain rfl : y101 = 1 := ey101.trans (by decide)
    refine lv_istore (lv' := [(8, .int 1), (13, .int 0), (0, .ref h0), (1, .int rp), (7, .ref h2), (9, .ref h3), (10, .ref h2), (11, .int 5), (12, .int 2)]) hx hb dX5_type_79 hl (by decide) rfl (fun ls hl => ?_)
    refine lv_iload hx hb dX5_type_81 (lv_at hl 1 rfl) ?_
    refine lv_iconst (v := 0) hx hb dX5_type_83 (by decide) ?_
    refine lv_iconst (v := 3) hx hb dX5_type_84 (by decide) ?_
    have hPc := hP.sub (ws' := []) [] rfl
    have hDc := hD.sub (ws' := []) [] (by decide) rfl
    have hKc := hK.sub (tys' := []) [] rfl
    have hFc := va_free (wc := []) hD hS hA [] rfl
    refine va_calli (va_runS (As := [.int 0, .int 0, .int 3]) (rest := []) ⟨hx, hb, hml, hown, hts⟩ (kx_X5_isIn_8 l dC dI H.size) (cwS 3 hts gX5_type_X5_isIn rfl rfl rfl (by decide +kernel) ⟨Nat.le_of_ble_eq_true rfl, Nat.le_of_ble_eq_true rfl⟩) ⟨fun a U g mk q => by obtain ⟨q0, q1, qP, qK, qD⟩ := q; exact ⟨q0, q1, qP, va_K.moved (u := U) (U := U.calling g mk a) (Vm.Alike.refl U.vm) qK, qD⟩, fun U hU hW => ⟨rfl, by rw [hU], by rw [hU]; exact hPc, va_K.moved hW.alike hKc, hDc.weaken (fun _ _ _ _ => trivial)⟩⟩ rfl rfl hl.1 rfl (lv_room (Nat.le_of_ble_eq_true rfl)) dX5_type_85 ⟨Nat.le_of_ble_eq_true rfl, Nat.le_of_ble_eq_true rfl⟩) hS (fun q _ h => hFc q h) hFc (fun r9 u t H1 locs ht hvm hw hB hz1 hk1 hS => ?_)
    obtain rfl := hw
    obtain ⟨hP1, hK1, hD1⟩ := hB
    rw [ht] at hP1
    have hK1 := va_K.moved hvm.symm hK1
    obtain ⟨hP, hD⟩ := va_join (wr := [(h0, .inr (9, [.int 0, .ref h1, .ref z0, .ref z1, .int 0, .int 0, .int 0])), (h1, .inl (k0, 4, .inr (.inr (.inr (.inr (va_up (va_up (va_up (va_up (fun _ => none) 0 (some ge5)) 1 (some ge5)) 2 (some ge5)) 3 (some ge5))))))), (h2, .inl (k1, 5, .inl (upd (upd (upd (upd (upd (fun _ => 0) 0 l1) 1 l2) 2 0) 3 l4) 4 l5))), (h3, .inr (0, [.ref h4, .int 0, .int 0, .int 0])), (h4, .inl (k2, 1, .inl f0))]) (w1 := []) hP hD [] [0, 1, 2, 3, 4] rfl rfl (by decide) (by decide) hk1 hFc hP1 hD1
    generalize H1 = H at hP hS ⊢
    have hP : va_P (dC, dI) vwCl [(h0, .inr (9, [.int 0, .ref h1, .ref z0, .ref z1, .int 0, .int 0, .int 0])), (h1, .inl (k0, 4, .inr (.inr (.inr (.inr (va_up (va_up (va_up (va_up (fun _ => none) 0 (some ge5)) 1 (some ge5)) 2 (some ge5)) 3 (some ge5))))))), (h2, .inl (k1, 5, .inl (upd (upd (upd (upd (upd (fun _ => 0) 0 l1) 1 l2) 2 0) 3 l4) 4 l5))), (h3, .inr (0, [.ref h4, .int 0, .int 0, .int 0])), (h4, .inl (k2, 1, .inl f0))] H := hP
    have hD : va_D A [(h0, .inr (9, [.int 0, .ref h1, .ref z0, .ref z1, .int 0, .int 0, .int 0])), (h1, .inl (k0, 4, .inr (.inr (.inr (.inr (va_up (va_up (va_up (va_up (fun _ => none) 0 (some ge5)) 1 (some ge5)) 2 (some ge5)) 3 (some ge5))))))), (h2, .inl (k1, 5, .inl (upd (upd (upd (upd (upd (fun _ => 0) 0 l1) 1 l2) 2 0) 3 l4) 4 l5))), (h3, .inr (0, [.ref h4, .int 0, .int 0, .int 0])), (h4, .inl (k2, 1, .inl f0))] := hD
    refine lv_if_eq (tgt := 118) hx hb dX5_type_88 (by decide) (fun c9 => absurd c9 (by decide)) (fun _ => ?_)
    refine va_new (ci := 1) (fs := [.null, .int 0, .int 0, .int 0]) (C := RJ4) (T := TJ4) (N := 4) hx hb hts (by decide +kernel) tyJ4 tyJ4_ok hown (hts (.classLink RX5 49 RJ4) (by decide +kernel)) (hts (.instantiable RJ4 4) (by decide +kernel)) (hts (.initialized RJ4) (by decide +kernel)) hK hP hD hS hA rfl (fun j hj => by rcases (show j = 0 ∨ j = 1 ∨ j = 2 ∨ j = 3 by omega) with rfl | rfl | rfl | rfl <;> rfl) (Nat.le_of_ble_eq_true rfl) (Nat.le_of_ble_eq_true rfl) dX5_type_91 (fun q102 H hP hD hS => ?_)
    have hP : va_P (dC, dI) vwCl [(h0, .inr (9, [.int 0, .ref h1, .ref z0, .ref z1, .int 0, .int 0, .int 0])), (h1, .inl (k0, 4, .inr (.inr (.inr (.inr (va_up (va_up (va_up (va_up (fun _ => none) 0 (some ge5)) 1 (some ge5)) 2 (some ge5)) 3 (some ge5))))))), (h2, .inl (k1, 5, .inl (upd (upd (upd (upd (upd (fun _ => 0) 0 l1) 1 l2) 2 0) 3 l4) 4 l5))), (h3, .inr (0, [.ref h4, .int 0, .int 0, .int 0])), (h4, .inl (k2, 1, .inl f0)), (q102, .inr (1, [.null, .int 0, .int 0, .int 0]))] H := hP
    have hD : va_D A [(h0, .inr (9, [.int 0, .ref h1, .ref z0, .ref z1, .int 0, .int 0, .int 0])), (h1, .inl (k0, 4, .inr (.inr (.inr (.inr (va_up (va_up (va_up (va_up (fun _ => none) 0 (some ge5)) 1 (some ge5)) 2 (some ge5)) 3 (some ge5))))))), (h2, .inl (k1, 5, .inl (upd (upd (upd (upd (upd (fun _ => 0) 0 l1) 1 l2) 2 0) 3 l4) 4 l5))), (h3, .inr (0, [.ref h4, .int 0, .int 0, .int 0])), (h4, .inl (k2, 1, .inl f0)), (q102, .inr (1, [.null, .int 0, .int 0, .int 0]))] := hD
    refine W.widen (k := 6) (n := 34) (by omega) (by omega) ?_
    refine lv_dup hx hb dX5_type_94 rfl ?_
    have hPc := hP.sub (ws' := [(q102, .inr (1, [.null, .int 0, .int 0, .int 0]))]) [5] rfl
    have hDc := hD.sub (ws' := [(q102, .inr (1, [.null, .int 0, .int 0, .int 0]))]) [5] (by decide) rfl
    have hKc := hK.sub (tys' := []) [] rfl
    have hFc := va_free (wc := [(q102, .inr (1, [.null, .int 0, .int 0, .int 0]))]) hD hS hA [5] rfl
    refine va_callv (va_runI (As := []) (rest := [.ref q102]) ⟨hx, hb, hml, hown, hts⟩ (kx_J4_init_da8c8_0 l dC dI ge5 gea gv5 gva gde gic gi0 q102 H.size) (cwI 0 hts gX5_type_J4_init_da8c8 rfl rfl rfl (hts (.initialized RJ4) (by decide +kernel)) (hts (.methodLink RX5 51 yJ4_init_da8c8) (by decide +kernel)) (hts (.instanceMethod yJ4_init_da8c8) (by decide +kernel)) rfl (by decide +kernel) ⟨Nat.le_of_ble_eq_true rfl, Nat.le_of_ble_eq_true rfl⟩) ⟨fun a U g mk q => by obtain ⟨q0, q1, qP, qK, qD, qG⟩ := q; exact ⟨q0, q1, qP, va_K.moved (u := U) (U := U.calling g mk a) (Vm.Alike.refl U.vm) qK, qD, gv.fb qG⟩, fun U hU hW => ⟨rfl, by rw [hU], by rw [hU]; exact hPc, va_K.moved hW.alike hKc, hDc.weaken (fun _ _ _ _ => trivial), gv.pass hW hU hS hFc hG⟩⟩ rfl rfl hl.1 rfl (lv_room (Nat.le_of_ble_eq_true rfl)) dX5_type_95 ⟨Nat.le_of_ble_eq_true rfl, Nat.le_of_ble_eq_true rfl⟩) hS (fun q _ h => hFc q h) hFc (fun u t H1 locs ht hvm hw hB hz1 hk1 hS => ?_)
    obtain ⟨q103, cq104, hP1, hK1, hD1⟩ := hB
    rw [ht] at hP1
    have hK1 := va_K.moved hvm.symm hK1
    obtain ⟨hP, hD⟩ := va_join (wr := [(h0, .inr (9, [.int 0, .ref h1, .ref z0, .ref z1, .int 0, .int 0, .int 0])), (h1, .inl (k0, 4, .inr (.inr (.inr (.inr (va_up (va_up (va_up (va_up (fun _ => none) 0 (some ge5)) 1 (some ge5)) 2 (some ge5)) 3 (some ge5))))))), (h2, .inl (k1, 5, .inl (upd (upd (upd (upd (upd (fun _ => 0) 0 l1) 1 l2) 2 0) 3 l4) 4 l5))), (h3, .inr (0, [.ref h4, .int 0, .int 0, .int 0])), (h4, .inl (k2, 1, .inl f0))]) (w1 := [(q102, .inr (1, [.ref q103, .int 0, .int 0, .int 0])), (q103, .inl (cq104, 16, .inl (fun _ => 0)))]) hP hD [5] [0, 1, 2, 3, 4] rfl rfl (by decide) (by decide) hk1 hFc hP1 hD1
    have hK := hK.app (hK1.sub (tys' := [(cq104, .byte)]) [0] rfl)
    generalize H1 = H at hP hS ⊢
    have hK : va_K (dC, dI) vwCl [(k0, .object "java/lang/String"), (k1, .int), (k2, .byte), (cq104, .byte)] s := hK
    have hP : va_P (dC, dI) vwCl [(h0, .inr (9, [.int 0, .ref h1, .ref z0, .ref z1, .int 0, .int 0, .int 0])), (h1, .inl (k0, 4, .inr (.inr (.inr (.inr (va_up (va_up (va_up (va_up (fun _ => none) 0 (some ge5)) 1 (some ge5)) 2 (some ge5)) 3 (some ge5))))))), (h2, .inl (k1, 5, .inl (upd (upd (upd (upd (upd (fun _ => 0) 0 l1) 1 l2) 2 0) 3 l4) 4 l5))), (h3, .inr (0, [.ref h4, .int 0, .int 0, .int 0])), (h4, .inl (k2, 1, .inl f0)), (q102, .inr (1, [.ref q103, .int 0, .int 0, .int 0])), (q103, .inl (cq104, 16, .inl (fun _ => 0)))] H := hP
    have hD : va_D A [(h0, .inr (9, [.int 0, .ref h1, .ref z0, .ref z1, .int 0, .int 0, .int 0])), (h1, .inl (k0, 4, .inr (.inr (.inr (.inr (va_up (va_up (va_up (va_up (fun _ => none) 0 (some ge5)) 1 (some ge5)) 2 (some ge5)) 3 (some ge5))))))), (h2, .inl (k1, 5, .inl (upd (upd (upd (upd (upd (fun _ => 0) 0 l1) 1 l2) 2 0) 3 l4) 4 l5))), (h3, .inr (0, [.ref h4, .int 0, .int 0, .int 0])), (h4, .inl (k2, 1, .inl f0)), (q102, .inr (1, [.ref q103, .int 0, .int 0, .int 0])), (q103, .inl (cq104, 16, .inl (fun _ => 0)))] := hD
    refine W.widen (k := 7) (n := 50) (by omega) (by omega) ?_
    refine lv_aload hx hb dX5_type_98 (lv_at hl 5 rfl) ?_
    have hPc := hP.sub (ws' := [(h3, .inr (0, [.ref h4, .int 0, .int 0, .int 0])), (h4, .inl (k2, 1, .inl f0)), (q102, .inr (1, [.ref q103, .int 0, .int 0, .int 0])), (q103, .inl (cq104, 16, .inl (fun _ => 0)))]) [3, 4, 5, 6] rfl
    have hDc := hD.sub (ws' := [(h3, .inr (0, [.ref h4, .int 0, .int 0, .int 0])), (h4, .inl (k2, 1, .inl f0)), (q102, .inr (1, [.ref q103, .int 0, .int 0, .int 0])), (q103, .inl (cq104, 16, .inl (fun _ => 0)))]) [3, 4, 5, 6] (by decide) rfl
    have hKc := hK.sub (tys' := [(k2, .byte), (cq104, .byte)]) [2, 3] rfl
    have hFc := va_free (wc := [(h3, .inr (0, [.ref h4, .int 0, .int 0, .int 0])), (h4, .inl (k2, 1, .inl f0)), (q102, .inr (1, [.ref q103, .int 0, .int 0, .int 0])), (q103, .inl (cq104, 16, .inl (fun _ => 0)))]) hD hS hA [3, 4, 5, 6] rfl
    refine va_callr (va_runV (As := [.ref h3]) (rest := []) ⟨hx, hb, hml, hown, hts⟩ (kx_J4_append_15ec4_1 l dC dI ge5 gea gv5 gva gde gic gi0 h3 h4 q102 q103 k2 cq104 H.size f0 f0_t) (cwV 1 hts gX5_type_J4_append_15ec4 rfl rfl rfl (by decide +kernel) ⟨Nat.le_of_ble_eq_true rfl, Nat.le_of_ble_eq_true rfl⟩) ⟨fun a U g mk q => by obtain ⟨q0, q1, qP, qK, qD, qG⟩ := q; exact ⟨q0, q1, qP, va_K.moved (u := U) (U := U.calling g mk a) (Vm.Alike.refl U.vm) qK, qD, gv.fb qG⟩, va_recv hKc hPc (ci := 1) (q0 := 2) rfl rfl, fun U hU hW => ⟨rfl, by rw [hU], by rw [hU]; exact hPc, va_K.moved hW.alike hKc, hDc.weaken (fun _ _ _ _ => trivial), gv.pass hW hU hS hFc hG⟩⟩ rfl rfl hl.1 rfl (lv_room (Nat.le_of_ble_eq_true rfl)) dX5_type_100 ⟨Nat.le_of_ble_eq_true rfl, Nat.le_of_ble_eq_true rfl⟩) hS (fun q _ h => hFc q h) hFc (fun u ra t H1 locs ht hvm hw hB hz1 hk1 hS => ?_)
    obtain ⟨f105, f105_t, hra, hP1, hK1, hD1⟩ := hB
    rw [hra]
    rw [ht] at hP1
    have hK1 := va_K.moved hvm.symm hK1
    obtain ⟨hP, hD⟩ := va_join (wr := [(h0, .inr (9, [.int 0, .ref h1, .ref z0, .ref z1, .int 0, .int 0, .int 0])), (h1, .inl (k0, 4, .inr (.inr (.inr (.inr (va_up (va_up (va_up (va_up (fun _ => none) 0 (some ge5)) 1 (some ge5)) 2 (some ge5)) 3 (some ge5))))))), (h2, .inl (k1, 5, .inl (upd (upd (upd (upd (upd (fun _ => 0) 0 l1) 1 l2) 2 0) 3 l4) 4 l5)))]) (w1 := [(h3, .inr (0, [.ref h4, .int 0, .int 0, .int 0])), (h4, .inl (k2, 1, .inl f0)), (q102, .inr (1, [.ref q103, .int 0, .int 0, .int 1])), (q103, .inl (cq104, 16, .inl f105))]) hP hD [3, 4, 5, 6] [0, 1, 2] rfl rfl (by decide) (by decide) hk1 hFc hP1 hD1
    generalize H1 = H at hP hS ⊢
    have hP : va_P (dC, dI) vwCl [(h0, .inr (9, [.int 0, .ref h1, .ref z0, .ref z1, .int 0, .int 0, .int 0])), (h1, .inl (k0, 4, .inr (.inr (.inr (.inr (va_up (va_up (va_up (va_up (fun _ => none) 0 (some ge5)) 1 (some ge5)) 2 (some ge5)) 3 (some ge5))))))), (h2, .inl (k1, 5, .inl (upd (upd (upd (upd (upd (fun _ => 0) 0 l1) 1 l2) 2 0) 3 l4) 4 l5))), (h3, .inr (0, [.ref h4, .int 0, .int 0, .int 0])), (h4, .inl (k2, 1, .inl f0)), (q102, .inr (1, [.ref q103, .int 0, .int 0, .int 1])), (q103, .inl (cq104, 16, .inl f105))] H := hP
    have hD : va_D A [(h0, .inr (9, [.int 0, .ref h1, .ref z0, .ref z1, .int 0, .int 0, .int 0])), (h1, .inl (k0, 4, .inr (.inr (.inr (.inr (va_up (va_up (va_up (va_up (fun _ => none) 0 (some ge5)) 1 (some ge5)) 2 (some ge5)) 3 (some ge5))))))), (h2, .inl (k1, 5, .inl (upd (upd (upd (upd (upd (fun _ => 0) 0 l1) 1 l2) 2 0) 3 l4) 4 l5))), (h3, .inr (0, [.ref h4, .int 0, .int 0, .int 0])), (h4, .inl (k2, 1, .inl f0)), (q102, .inr (1, [.ref q103, .int 0, .int 0, .int 1])), (q103, .inl (cq104, 16, .inl f105))] := hD
    refine va_ldcS hx hb hown g_sa dX5_type_103 ?_
    refine lv_iload hx hb dX5_type_105 (lv_at hl 1 rfl) ?_
    have hPc := hP.sub (ws' := []) [] rfl
    have hDc := hD.sub (ws' := []) [] (by decide) rfl
    have hKc := hK.sub (tys' := []) [] rfl
    have hFc := va_free (wc := []) hD hS hA [] rfl
    refine va_calli (va_runV (As := [.int 0]) (rest := [.ref q102]) ⟨hx, hb, hml, hown, hts⟩ (kx_J0_charAt_5068e_0 l dC dI ge5 gea gv5 gva gde gic gi0 H.size) (cwV 1 hts gX5_type_J0_charAt_5068e rfl rfl rfl (by decide +kernel) ⟨Nat.le_of_ble_eq_true rfl, Nat.le_of_ble_eq_true rfl⟩) ⟨fun a U g mk q => by obtain ⟨q0, q1, qP, qK, qD, qG⟩ := q; exact ⟨q0, q1, qP, va_K.moved (u := U) (U := U.calling g mk a) (Vm.Alike.refl U.vm) qK, qD, gv.fb qG⟩, (by obtain ⟨cell, k1, k2, k3, -⟩ := g_oa.kept hS.2.1; exact ⟨cell, k1, k2, k3⟩), fun U hU hW => ⟨rfl, by rw [hU], by rw [hU]; exact hPc, va_K.moved hW.alike hKc, hDc.weaken (fun _ _ _ _ => trivial), gv.pass hW hU hS hFc hG⟩⟩ rfl rfl hl.1 rfl (lv_room (Nat.le_of_ble_eq_true rfl)) dX5_type_107 ⟨Nat.le_of_ble_eq_true rfl, Nat.le_of_ble_eq_true rfl⟩) hS (fun q _ h => hFc q h) hFc (fun r9 u t H1 locs ht hvm hw hB hz1 hk1 hS => ?_)
    obtain rfl := hw
    obtain ⟨hP1, hK1, hD1⟩ := hB
    rw [ht] at hP1
    have hK1 := va_K.moved hvm.symm hK1
    obtain ⟨hP, hD⟩ := va_join (wr := [(h0, .inr (9, [.int 0, .ref h1, .ref z0, .ref z1, .int 0, .int 0, .int 0])), (h1, .inl (k0, 4, .inr (.inr (.inr (.inr (va_up (va_up (va_up (va_up (fun _ => none) 0 (some ge5)) 1 (some ge5)) 2 (some ge5)) 3 (some ge5))))))), (h2, .inl (k1, 5, .inl (upd (upd (upd (upd (upd (fun _ => 0) 0 l1) 1 l2) 2 0) 3 l4) 4 l5))), (h3, .inr (0, [.ref h4, .int 0, .int 0, .int 0])), (h4, .inl (k2, 1, .inl f0)), (q102, .inr (1, [.ref q103, .int 0, .int 0, .int 1])), (q103, .inl (cq104, 16, .inl f105))]) (w1 := []) hP hD [] [0, 1, 2, 3, 4, 5, 6] rfl rfl (by decide) (by decide) hk1 hFc hP1 hD1
    generalize H1 = H at hP hS ⊢
    have hP : va_P (dC, dI) vwCl [(h0, .inr (9, [.int 0, .ref h1, .ref z0, .ref z1, .int 0, .int 0, .int 0])), (h1, .inl (k0, 4, .inr (.inr (.inr (.inr (va_up (va_up (va_up (va_up (fun _ => none) 0 (some ge5)) 1 (some ge5)) 2 (some ge5)) 3 (some ge5))))))), (h2, .inl (k1, 5, .inl (upd (upd (upd (upd (upd (fun _ => 0) 0 l1) 1 l2) 2 0) 3 l4) 4 l5))), (h3, .inr (0, [.ref h4, .int 0, .int 0, .int 0])), (h4, .inl (k2, 1, .inl f0)), (q102, .inr (1, [.ref q103, .int 0, .int 0, .int 1])), (q103, .inl (cq104, 16, .inl f105))] H := hP
    have hD : va_D A [(h0, .inr (9, [.int 0, .ref h1, .ref z0, .ref z1, .int 0, .int 0, .int 0])), (h1, .inl (k0, 4, .inr (.inr (.inr (.inr (va_up (va_up (va_up (va_up (fun _ => none) 0 (some ge5)) 1 (some ge5)) 2 (some ge5)) 3 (some ge5))))))), (h2, .inl (k1, 5, .inl (upd (upd (upd (upd (upd (fun _ => 0) 0 l1) 1 l2) 2 0) 3 l4) 4 l5))), (h3, .inr (0, [.ref h4, .int 0, .int 0, .int 0])), (h4, .inl (k2, 1, .inl f0)), (q102, .inr (1, [.ref q103, .int 0, .int 0, .int 1])), (q103, .inl (cq104, 16, .inl f105))] := hD
    have hPc := hP.sub (ws' := [(q102, .inr (1, [.ref q103, .int 0, .int 0, .int 1])), (q103, .inl (cq104, 16, .inl f105))]) [5, 6] rfl
    have hDc := hD.sub (ws' := [(q102, .inr (1, [.ref q103, .int 0, .int 0, .int 1])), (q103, .inl (cq104, 16, .inl f105))]) [5, 6] (by decide) rfl
    have hKc := hK.sub (tys' := [(cq104, .byte)]) [3] rfl
    have hFc := va_free (wc := [(q102, .inr (1, [.ref q103, .int 0, .int 0, .int 1])), (q103, .inl (cq104, 16, .inl f105))]) hD hS hA [5, 6] rfl
    refine va_callr (va_runV (As := [.int 97]) (rest := []) ⟨hx, hb, hml, hown, hts⟩ (kx_J4_append_cf468_4 l dC dI ge5 gea gv5 gva gde gic gi0 q102 q103 cq104 H.size f105 f105_t) (cwV 1 hts gX5_type_J4_append_cf468 rfl rfl rfl (by decide +kernel) ⟨Nat.le_of_ble_eq_true rfl, Nat.le_of_ble_eq_true rfl⟩) ⟨fun a U g mk q => by obtain ⟨q0, q1, qP, qK, qD, qG⟩ := q; exact ⟨q0, q1, qP, va_K.moved (u := U) (U := U.calling g mk a) (Vm.Alike.refl U.vm) qK, qD, gv.fb qG⟩, va_recv hKc hPc (ci := 1) (q0 := 0) rfl rfl, fun U hU hW => ⟨rfl, by rw [hU], by rw [hU]; exact hPc, va_K.moved hW.alike hKc, hDc.weaken (fun _ _ _ _ => trivial), gv.pass hW hU hS hFc hG⟩⟩ rfl rfl hl.1 rfl (lv_room (Nat.le_of_ble_eq_true rfl)) dX5_type_110 ⟨Nat.le_of_ble_eq_true rfl, Nat.le_of_ble_eq_true rfl⟩) hS (fun q _ h => hFc q h) hFc (fun u ra t H1 locs ht hvm hw hB hz1 hk1 hS => ?_)
    obtain ⟨f106, f106_t, hra, hP1, hK1, hD1⟩ := hB
    rw [hra]
    rw [ht] at hP1
    have hK1 := va_K.moved hvm.symm hK1
    obtain ⟨hP, hD⟩ := va_join (wr := [(h0, .inr (9, [.int 0, .ref h1, .ref z0, .ref z1, .int 0, .int 0, .int 0])), (h1, .inl (k0, 4, .inr (.inr (.inr (.inr (va_up (va_up (va_up (va_up (fun _ => none) 0 (some ge5)) 1 (some ge5)) 2 (some ge5)) 3 (some ge5))))))), (h2, .inl (k1, 5, .inl (upd (upd (upd (upd (upd (fun _ => 0) 0 l1) 1 l2) 2 0) 3 l4) 4 l5))), (h3, .inr (0, [.ref h4, .int 0, .int 0, .int 0])), (h4, .inl (k2, 1, .inl f0))]) (w1 := [(q102, .inr (1, [.ref q103, .int 0, .int 0, .int 2])), (q103, .inl (cq104, 16, .inl f106))]) hP hD [5, 6] [0, 1, 2, 3, 4] rfl rfl (by decide) (by decide) hk1 hFc hP1 hD1
    generalize H1 = H at hP hS ⊢
    have hP : va_P (dC, dI) vwCl [(h0, .inr (9, [.int 0, .ref h1, .ref z0, .ref z1, .int 0, .int 0, .int 0])), (h1, .inl (k0, 4, .inr (.inr (.inr (.inr (va_up (va_up (va_up (va_up (fun _ => none) 0 (some ge5)) 1 (some ge5)) 2 (some ge5)) 3 (some ge5))))))), (h2, .inl (k1, 5, .inl (upd (upd (upd (upd (upd (fun _ => 0) 0 l1) 1 l2) 2 0) 3 l4) 4 l5))), (h3, .inr (0, [.ref h4, .int 0, .int 0, .int 0])), (h4, .inl (k2, 1, .inl f0)), (q102, .inr (1, [.ref q103, .int 0, .int 0, .int 2])), (q103, .inl (cq104, 16, .inl f106))] H := hP
    have hD : va_D A [(h0, .inr (9, [.int 0, .ref h1, .ref z0, .ref z1, .int 0, .int 0, .int 0])), (h1, .inl (k0, 4, .inr (.inr (.inr (.inr (va_up (va_up (va_up (va_up (fun _ => none) 0 (some ge5)) 1 (some ge5)) 2 (some ge5)) 3 (some ge5))))))), (h2, .inl (k1, 5, .inl (upd (upd (upd (upd (upd (fun _ => 0) 0 l1) 1 l2) 2 0) 3 l4) 4 l5))), (h3, .inr (0, [.ref h4, .int 0, .int 0, .int 0])), (h4, .inl (k2, 1, .inl f0)), (q102, .inr (1, [.ref q103, .int 0, .int 0, .int 2])), (q103, .inl (cq104, 16, .inl f106))] := hD
    have hPc := hP.sub (ws' := [(q102, .inr (1, [.ref q103, .int 0, .int 0, .int 2])), (q103, .inl (cq104, 16, .inl f106))]) [5, 6] rfl
    have hDc := hD.sub (ws' := [(q102, .inr (1, [.ref q103, .int 0, .int 0, .int 2])), (q103, .inl (cq104, 16, .inl f106))]) [5, 6] (by decide) rfl
    have hKc := hK.sub (tys' := [(cq104, .byte)]) [3] rfl
    have hFc := va_free (wc := [(q102, .inr (1, [.ref q103, .int 0, .int 0, .int 2])), (q103, .inl (cq104, 16, .inl f106))]) hD hS hA [5, 6] rfl
    refine va_callr (va_runV (As := []) (rest := []) ⟨hx, hb, hml, hown, hts⟩ (kx_J4_toString_0e30d_2 l dC dI ge5 gea gv5 gva gde gic gi0 q102 q103 cq104 H.size f106 f106_t) (cwV 0 hts gX5_type_J4_toString_0e30d rfl rfl rfl (by decide +kernel) ⟨Nat.le_of_ble_eq_true rfl, Nat.le_of_ble_eq_true rfl⟩) ⟨fun a U g mk q => by obtain ⟨q0, q1, qP, qK, qD, qG⟩ := q; exact ⟨q0, q1, qP, va_K.moved (u := U) (U := U.calling g mk a) (Vm.Alike.refl U.vm) qK, qD, gv.fb qG⟩, va_recv hKc hPc (ci := 1) (q0 := 0) rfl rfl, fun U hU hW => ⟨rfl, by rw [hU], by rw [hU]; exact hPc, va_K.moved hW.alike hKc, hDc.weaken (fun _ _ _ _ => trivial), gv.pass hW hU hS hFc hG⟩⟩ rfl rfl hl.1 rfl (lv_room (Nat.le_of_ble_eq_true rfl)) dX5_type_113 ⟨Nat.le_of_ble_eq_true rfl, Nat.le_of_ble_eq_true rfl⟩) hS (fun q _ h => hFc q h) hFc (fun u ra t H1 locs ht hvm hw hB hz1 hk1 hS => ?_)
    obtain ⟨q107, q108, cq109, f110, f110_t, hra, hP1, hK1, hD1⟩ := hB
    rw [hra]
    rw [ht] at hP1
    have hK1 := va_K.moved hvm.symm hK1
    obtain ⟨hP, hD⟩ := va_join (wr := [(h0, .inr (9, [.int 0, .ref h1, .ref z0, .ref z1, .int 0, .int 0, .int 0])), (h1, .inl (k0, 4, .inr (.inr (.inr (.inr (va_up (va_up (va_up (va_up (fun _ => none) 0 (some ge5)) 1 (some ge5)) 2 (some ge5)) 3 (some ge5))))))), (h2, .inl (k1, 5, .inl (upd (upd (upd (upd (upd (fun _ => 0) 0 l1) 1 l2) 2 0) 3 l4) 4 l5))), (h3, .inr (0, [.ref h4, .int 0, .int 0, .int 0])), (h4, .inl (k2, 1, .inl f0))]) (w1 := [(q102, .inr (1, [.ref q103, .int 0, .int 0, .int 2])), (q103, .inl (cq104, 16, .inl f106)), (q107, .inr (0, [.ref q108, .int 0, .int 0, .int 0])), (q108, .inl (cq109, 2, .inl f110))]) hP hD [5, 6] [0, 1, 2, 3, 4] rfl rfl (by decide) (by decide) hk1 hFc hP1 hD1
    have hK := hK.app (hK1.sub (tys' := [(cq109, .byte)]) [1] rfl)
    generalize H1 = H at hP hS ⊢
    have hK : va_K (dC, dI) vwCl [(k0, .object "java/lang/String"), (k1, .int), (k2, .byte), (cq104, .byte), (cq109, .byte)] s := hK
    have hP : va_P (dC, dI) vwCl [(h0, .inr (9, [.int 0, .ref h1, .ref z0, .ref z1, .int 0, .int 0, .int 0])), (h1, .inl (k0, 4, .inr (.inr (.inr (.inr (va_up (va_up (va_up (va_up (fun _ => none) 0 (some ge5)) 1 (some ge5)) 2 (some ge5)) 3 (some ge5))))))), (h2, .inl (k1, 5, .inl (upd (upd (upd (upd (upd (fun _ => 0) 0 l1) 1 l2) 2 0) 3 l4) 4 l5))), (h3, .inr (0, [.ref h4, .int 0, .int 0, .int 0])), (h4, .inl (k2, 1, .inl f0)), (q102, .inr (1, [.ref q103, .int 0, .int 0, .int 2])), (q103, .inl (cq104, 16, .inl f106)), (q107, .inr (0, [.ref q108, .int 0, .int 0, .int 0])), (q108, .inl (cq109, 2, .inl f110))] H := hP
    have hD : va_D A [(h0, .inr (9, [.int 0, .ref h1, .ref z0, .ref z1, .int 0, .int 0, .int 0])), (h1, .inl (k0, 4, .inr (.inr (.inr (.inr (va_up (va_up (va_up (va_up (fun _ => none) 0 (some ge5)) 1 (some ge5)) 2 (some ge5)) 3 (some ge5))))))), (h2, .inl (k1, 5, .inl (upd (upd (upd (upd (upd (fun _ => 0) 0 l1) 1 l2) 2 0) 3 l4) 4 l5))), (h3, .inr (0, [.ref h4, .int 0, .int 0, .int 0])), (h4, .inl (k2, 1, .inl f0)), (q102, .inr (1, [.ref q103, .int 0, .int 0, .int 2])), (q103, .inl (cq104, 16, .inl f106)), (q107, .inr (0, [.ref q108, .int 0, .int 0, .int 0])), (q108, .inl (cq109, 2, .inl f110))] := hD
    refine W.widen (k := 9) (n := 56) (by omega) (by omega) ?_
    refine lv_astore (lv' := [(9, .ref q107), (8, .int 1), (13, .int 0), (0, .ref h0), (1, .int rp), (7, .ref h2), (10, .ref h2), (11, .int 5), (12, .int 2)]) hx hb dX5_type_116 hl (by decide) rfl (fun ls hl => ?_)
    refine lv_iinc (v := 3) (lv' := [(12, .int 3), (9, .ref q107), (8, .int 1), (13, .int 0), (0, .ref h0), (1, .int rp), (7, .ref h2), (10, .ref h2), (11, .int 5)]) hx hb dX5_type_118 hl (k := 8) rfl (by decide) (by decide) rfl (fun ls hl => ?_)
    refine lv_goto (tgt := 47) hx hb dX5_type_121 (by decide) ?_
    have hP := hP.sub (ws' := [(h0, .inr (9, [.int 0, .ref h1, .ref z0, .ref z1, .int 0, .int 0, .int 0])), (h1, .inl (k0, 4, .inr (.inr (.inr (.inr (va_up (va_up (va_up (va_up (fun _ => none) 0 (some ge5)) 1 (some ge5)) 2 (some ge5)) 3 (some ge5))))))), (h2, .inl (k1, 5, .inl (upd (upd (upd (upd (upd (fun _ => 0) 0 l1) 1 l2) 2 0) 3 l4) 4 l5))), (q107, .inr (0, [.ref q108, .int 0, .int 0, .int 0])), (q108, .inl (cq109, 2, .inl f110))]) [0, 1, 2, 7, 8] rfl
    have hD := hD.sub (ws' := [(h0, .inr (9, [.int 0, .ref h1, .ref z0, .ref z1, .int 0, .int 0, .int 0])), (h1, .inl (k0, 4, .inr (.inr (.inr (.inr (va_up (va_up (va_up (va_up (fun _ => none) 0 (some ge5)) 1 (some ge5)) 2 (some ge5)) 3 (some ge5))))))), (h2, .inl (k1, 5, .inl (upd (upd (upd (upd (upd (fun _ => 0) 0 l1) 1 l2) 2 0) 3 l4) 4 l5))), (q107, .inr (0, [.ref q108, .int 0, .int 0, .int 0])), (q108, .inl (cq109, 2, .inl f110))]) [0, 1, 2, 7, 8] (by decide) rfl
    have hK := hK.sub (tys' := [(k0, .object "java/lang/String"), (k1, .int), (cq109, .byte)]) [0, 1, 4] rfl
    have hl := lv_sub hl [4, 5, 6, 2, 1, 7, 8, 0] (show lv_pick [(12, .int 3), (9, .ref q107), (8, .int 1), (13, .int 0), (0, .ref h0), (1, .int rp), (7, .ref h2), (10, .ref h2), (11, .int 5)] [4, 5, 6, 2, 1, 7, 8, 0] = [(0, .ref h0), (1, .int rp), (7, .ref h2), (8, .int 1), (9, .ref q107), (10, .ref h2), (11, .int 5), (12, .int 3)] from rfl)
    exact kx_X5_type_h321 f110_t hR hx hb hr hml hown hts hlocks hA hG hS hK hP hD hl
  · have hR : kz_ty rp 2 1 [l4, l5] = (R, v) := (kz_ty_g (by decide) (by decide)).symm.trans hR
    refine lv_iload hx hb dX5_type_47 (lv_at hl 7 rfl) ?_
    refine lv_iload hx hb dX5_type_49 (lv_at hl 6 rfl) ?_
    refine lv_icmp_ge (tgt := 124) hx hb dX5_type_51 (by decide) (fun c9 => absurd c9 (by decide)) (fun _ => ?_)
    refine lv_aload hx hb dX5_type_54 (lv_at hl 5 rfl) ?_
    refine lv_iload hx hb dX5_type_56 (lv_at hl 7 rfl) ?_
    refine va_iald (D := (dC, dI)) hx hb hK hP 2 1 rfl rfl (by unfold vp_in; decide) dX5_type_58 ?_
    refine W.eq (g2 := F0 m 59 ls [.int 1]) rfl ?_
    refine lv_istore (lv' := [(13, .int 1), (0, .ref h0), (1, .int rp), (7, .ref h2), (8, .int 1), (9, .ref h3), (10, .ref h2), (11, .int 5), (12, .int 2)]) hx hb dX5_type_59 hl (by decide) rfl (fun ls hl => ?_)
    refine lv_iload hx hb dX5_type_61 (lv_at hl 4 rfl) ?_
    refine lv_iload hx hb dX5_type_63 (lv_at hl 0 rfl) ?_
    refine lv_iconst (v := (-1)) hx hb dX5_type_65 (by decide) ?_
    refine lv_iconst (v := 3) hx hb dX5_type_66 (by decide) ?_
    have hPc := hP.sub (ws' := []) [] rfl
    have hDc := hD.sub (ws' := []) [] (by decide) rfl
    have hKc := hK.sub (tys' := []) [] rfl
    have hFc := va_free (wc := []) hD hS hA [] rfl
    refine va_calli (va_runS (As := [.int 1, .int (-1), .int 3]) (rest := [.int 1]) ⟨hx, hb, hml, hown, hts⟩ (kx_X5_isIn_9 l dC dI H.size) (cwS 3 hts gX5_type_X5_isIn rfl rfl rfl (by decide +kernel) ⟨Nat.le_of_ble_eq_true rfl, Nat.le_of_ble_eq_true rfl⟩) ⟨fun a U g mk q => by obtain ⟨q0, q1, qP, qK, qD⟩ := q; exact ⟨q0, q1, qP, va_K.moved (u := U) (U := U.calling g mk a) (Vm.Alike.refl U.vm) qK, qD⟩, fun U hU hW => ⟨rfl, by rw [hU], by rw [hU]; exact hPc, va_K.moved hW.alike hKc, hDc.weaken (fun _ _ _ _ => trivial)⟩⟩ rfl rfl hl.1 rfl (lv_room (Nat.le_of_ble_eq_true rfl)) dX5_type_67 ⟨Nat.le_of_ble_eq_true rfl, Nat.le_of_ble_eq_true rfl⟩) hS (fun q _ h => hFc q h) hFc (fun r9 u t H1 locs ht hvm hw hB hz1 hk1 hS => ?_)
    obtain rfl := hw
    obtain ⟨hP1, hK1, hD1⟩ := hB
    rw [ht] at hP1
    have hK1 := va_K.moved hvm.symm hK1
    obtain ⟨hP, hD⟩ := va_join (wr := [(h0, .inr (9, [.int 0, .ref h1, .ref z0, .ref z1, .int 0, .int 0, .int 0])), (h1, .inl (k0, 4, .inr (.inr (.inr (.inr (va_up (va_up (va_up (va_up (fun _ => none) 0 (some ge5)) 1 (some ge5)) 2 (some ge5)) 3 (some ge5))))))), (h2, .inl (k1, 5, .inl (upd (upd (upd (upd (upd (fun _ => 0) 0 l1) 1 l2) 2 1) 3 l4) 4 l5))), (h3, .inr (0, [.ref h4, .int 0, .int 0, .int 0])), (h4, .inl (k2, 1, .inl f0))]) (w1 := []) hP hD [] [0, 1, 2, 3, 4] rfl rfl (by decide) (by decide) hk1 hFc hP1 hD1
    generalize H1 = H at hP hS ⊢
    have hP : va_P (dC, dI) vwCl [(h0, .inr (9, [.int 0, .ref h1, .ref z0, .ref z1, .int 0, .int 0, .int 0])), (h1, .inl (k0, 4, .inr (.inr (.inr (.inr (va_up (va_up (va_up (va_up (fun _ => none) 0 (some ge5)) 1 (some ge5)) 2 (some ge5)) 3 (some ge5))))))), (h2, .inl (k1, 5, .inl (upd (upd (upd (upd (upd (fun _ => 0) 0 l1) 1 l2) 2 1) 3 l4) 4 l5))), (h3, .inr (0, [.ref h4, .int 0, .int 0, .int 0])), (h4, .inl (k2, 1, .inl f0))] H := hP
    have hD : va_D A [(h0, .inr (9, [.int 0, .ref h1, .ref z0, .ref z1, .int 0, .int 0, .int 0])), (h1, .inl (k0, 4, .inr (.inr (.inr (.inr (va_up (va_up (va_up (va_up (fun _ => none) 0 (some ge5)) 1 (some ge5)) 2 (some ge5)) 3 (some ge5))))))), (h2, .inl (k1, 5, .inl (upd (upd (upd (upd (upd (fun _ => 0) 0 l1) 1 l2) 2 1) 3 l4) 4 l5))), (h3, .inr (0, [.ref h4, .int 0, .int 0, .int 0])), (h4, .inl (k2, 1, .inl f0))] := hD
    refine lv_if_ne (tgt := 77) hx hb dX5_type_70 (by decide) (fun _ => ?_) (fun c9 => absurd c9 (by decide))
    refine lv_iconst (v := 0) hx hb dX5_type_77 (by decide) ?_
    refine lv_ior hx hb dX5_type_78 ?_
    refine lv_topi (fun y101 ey101 => ?_)
    obtain rfl : y101 = 1 := ey101.trans (by decide)
    refine lv_istore (lv' := [(8, .int 1), (13, .int 1), (0, .ref h0), (1, .int rp), (7, .ref h2), (9, .ref h3), (10, .ref h2), (11, .int 5), (12, .int 2)]) hx hb dX5_type_79 hl (by decide) rfl (fun ls hl => ?_)
    refine lv_iload hx hb dX5_type_81 (lv_at hl 1 rfl) ?_
    refine lv_iconst (v := 0) hx hb dX5_type_83 (by decide) ?_
    refine lv_iconst (v := 3) hx hb dX5_type_84 (by decide) ?_
    have hPc := hP.sub (ws' := []) [] rfl
    have hDc := hD.sub (ws' := []) [] (by decide) rfl
    have hKc := hK.sub (tys' := []) [] rfl
    have hFc := va_free (wc := []) hD hS hA [] rfl
    refine va_calli (va_runS (As := [.int 1, .int 0, .int 3]) (rest := []) ⟨hx, hb, hml, hown, hts⟩ (kx_X5_isIn_10 l dC dI H.size) (cwS 3 hts gX5_type_X5_isIn rfl rfl rfl (by decide +kernel) ⟨Nat.le_of_ble_eq_true rfl, Nat.le_of_ble_eq_true rfl⟩) ⟨fun a U g mk q => by obtain ⟨q0, q1, qP, qK, qD⟩ := q; exact ⟨q0, q1, qP, va_K.moved (u := U) (U := U.calling g mk a) (Vm.Alike.refl U.vm) qK, qD⟩, fun U hU hW => ⟨rfl, by rw [hU], by rw [hU]; exact hPc, va_K.moved hW.alike hKc, hDc.weaken (fun _ _ _ _ => trivial)⟩⟩ rfl rfl hl.1 rfl (lv_room (Nat.le_of_ble_eq_true rfl)) dX5_type_85 ⟨Nat.le_of_ble_eq_true rfl, Nat.le_of_ble_eq_true rfl⟩) hS (fun q _ h => hFc q h) hFc (fun r9 u t H1 locs ht hvm hw hB hz1 hk1 hS => ?_)
    obtain rfl := hw
    obtain ⟨hP1, hK1, hD1⟩ := hB
    rw [ht] at hP1
    have hK1 := va_K.moved hvm.symm hK1
    obtain ⟨hP, hD⟩ := va_join (wr := [(h0, .inr (9, [.int 0, .ref h1, .ref z0, .ref z1, .int 0, .int 0, .int 0])), (h1, .inl (k0, 4, .inr (.inr (.inr (.inr (va_up (va_up (va_up (va_up (fun _ => none) 0 (some ge5)) 1 (some ge5)) 2 (some ge5)) 3 (some ge5))))))), (h2, .inl (k1, 5, .inl (upd (upd (upd (upd (upd (fun _ => 0) 0 l1) 1 l2) 2 1) 3 l4) 4 l5))), (h3, .inr (0, [.ref h4, .int 0, .int 0, .int 0])), (h4, .inl (k2, 1, .inl f0))]) (w1 := []) hP hD [] [0, 1, 2, 3, 4] rfl rfl (by decide) (by decide) hk1 hFc hP1 hD1
    generalize H1 = H at hP hS ⊢
    have hP : va_P (dC, dI) vwCl [(h0, .inr (9, [.int 0, .ref h1, .ref z0, .ref z1, .int 0, .int 0, .int 0])), (h1, .inl (k0, 4, .inr (.inr (.inr (.inr (va_up (va_up (va_up (va_up (fun _ => none) 0 (some ge5)) 1 (some ge5)) 2 (some ge5)) 3 (some ge5))))))), (h2, .inl (k1, 5, .inl (upd (upd (upd (upd (upd (fun _ => 0) 0 l1) 1 l2) 2 1) 3 l4) 4 l5))), (h3, .inr (0, [.ref h4, .int 0, .int 0, .int 0])), (h4, .inl (k2, 1, .inl f0))] H := hP
    have hD : va_D A [(h0, .inr (9, [.int 0, .ref h1, .ref z0, .ref z1, .int 0, .int 0, .int 0])), (h1, .inl (k0, 4, .inr (.inr (.inr (.inr (va_up (va_up (va_up (va_up (fun _ => none) 0 (some ge5)) 1 (some ge5)) 2 (some ge5)) 3 (some ge5))))))), (h2, .inl (k1, 5, .inl (upd (upd (upd (upd (upd (fun _ => 0) 0 l1) 1 l2) 2 1) 3 l4) 4 l5))), (h3, .inr (0, [.ref h4, .int 0, .int 0, .int 0])), (h4, .inl (k2, 1, .inl f0))] := hD
    refine lv_if_eq (tgt := 118) hx hb dX5_type_88 (by decide) (fun c9 => absurd c9 (by decide)) (fun _ => ?_)
    refine va_new (ci := 1) (fs := [.null, .int 0, .int 0, .int 0]) (C := RJ4) (T := TJ4) (N := 4) hx hb hts (by decide +kernel) tyJ4 tyJ4_ok hown (hts (.classLink RX5 49 RJ4) (by decide +kernel)) (hts (.instantiable RJ4 4) (by decide +kernel)) (hts (.initialized RJ4) (by decide +kernel)) hK hP hD hS hA rfl (fun j hj => by rcases (show j = 0 ∨ j = 1 ∨ j = 2 ∨ j = 3 by omega) with rfl | rfl | rfl | rfl <;> rfl) (Nat.le_of_ble_eq_true rfl) (Nat.le_of_ble_eq_true rfl) dX5_type_91 (fun q102 H hP hD hS => ?_)
    have hP : va_P (dC, dI) vwCl [(h0, .inr (9, [.int 0, .ref h1, .ref z0, .ref z1, .int 0, .int 0, .int 0])), (h1, .inl (k0, 4, .inr (.inr (.inr (.inr (va_up (va_up (va_up (va_up (fun _ => none) 0 (some ge5)) 1 (some ge5)) 2 (some ge5)) 3 (some ge5))))))), (h2, .inl (k1, 5, .inl (upd (upd (upd (upd (upd (fun _ => 0) 0 l1) 1 l2) 2 1) 3 l4) 4 l5))), (h3, .inr (0, [.ref h4, .int 0, .int 0, .int 0])), (h4, .inl (k2, 1, .inl f0)), (q102, .inr (1, [.null, .int 0, .int 0, .int 0]))] H := hP
    have hD : va_D A [(h0, .inr (9, [.int 0, .ref h1, .ref z0, .ref z1, .int 0, .int 0, .int 0])), (h1, .inl (k0, 4, .inr (.inr (.inr (.inr (va_up (va_up (va_up (va_up (fun _ => none) 0 (some ge5)) 1 (some ge5)) 2 (some ge5)) 3 (some ge5))))))), (h2, .inl (k1, 5, .inl (upd (upd (upd (upd (upd (fun _ => 0) 0 l1) 1 l2) 2 1) 3 l4) 4 l5))), (h3, .inr (0, [.ref h4, .int 0, .int 0, .int 0])), (h4, .inl (k2, 1, .inl f0)), (q102, .inr (1, [.null, .int 0, .int 0, .int 0]))] := hD
    refine W.widen (k := 6) (n := 34) (by omega) (by omega) ?_
    refine lv_dup hx hb dX5_type_94 rfl ?_
    have hPc := hP.sub (ws' := [(q102, .inr (1, [.null, .int 0, .int 0, .int 0]))]) [5] rfl
    have hDc := hD.sub (ws' := [(q102, .inr (1, [.null, .int 0, .int 0, .int 0]))]) [5] (by decide) rfl
    have hKc := hK.sub (tys' := []) [] rfl
    have hFc := va_free (wc := [(q102, .inr (1, [.null, .int 0, .int 0, .int 0]))]) hD hS hA [5] rfl
    refine va_callv (va_runI (As := []) (rest := [.ref q102]) ⟨hx, hb, hml, hown, hts⟩ (kx_J4_init_da8c8_0 l dC dI ge5 gea gv5 gva gde gic gi0 q102 H.size) (cwI 0 hts gX5_type_J4_init_da8c8 rfl rfl rfl (hts (.initialized RJ4) (by decide +kernel)) (hts (.methodLink RX5 51 yJ4_init_da8c8) (by decide +kernel)) (hts (.instanceMethod yJ4_init_da8c8) (by decide +kernel)) rfl (by decide +kernel) ⟨Nat.le_of_ble_eq_true rfl, Nat.le_of_ble_eq_true rfl⟩) ⟨fun a U g mk q => by obtain ⟨q0, q1, qP, qK, qD, qG⟩ := q; exact ⟨q0, q1, qP, va_K.moved (u := U) (U := U.calling g mk a) (Vm.Alike.refl U.vm) qK, qD, gv.fb qG⟩, fun U hU hW => ⟨rfl, by rw [hU], by rw [hU]; exact hPc, va_K.moved hW.alike hKc, hDc.weaken (fun _ _ _ _ => trivial), gv.pass hW hU hS hFc hG⟩⟩ rfl rfl hl.1 rfl (lv_room (Nat.le_of_ble_eq_true rfl)) dX5_type_95 ⟨Nat.le_of_ble_eq_true rfl, Nat.le_of_ble_eq_true rfl⟩) hS (fun q _ h => hFc q h) hFc (fun u t H1 locs ht hvm hw hB hz1 hk1 hS => ?_)
    obtain ⟨q103, cq104, hP1, hK1, hD1⟩ := hB
    rw [ht] at hP1
    have hK1 := va_K.moved hvm.symm hK1
    obtain ⟨hP, hD⟩ := va_join (wr := [(h0, .inr (9, [.int 0, .ref h1, .ref z0, .ref z1, .int 0, .int 0, .int 0])), (h1, .inl (k0, 4, .inr (.inr (.inr (.inr (va_up (va_up (va_up (va_up (fun _ => none) 0 (some ge5)) 1 (some ge5)) 2 (some ge5)) 3 (some ge5))))))), (h2, .inl (k1, 5, .inl (upd (upd (upd (upd (upd (fun _ => 0) 0 l1) 1 l2) 2 1) 3 l4) 4 l5))), (h3, .inr (0, [.ref h4, .int 0, .int 0, .int 0])), (h4, .inl (k2, 1, .inl f0))]) (w1 := [(q102, .inr (1, [.ref q103, .int 0, .int 0, .int 0])), (q103, .inl (cq104, 16, .inl (fun _ => 0)))]) hP hD [5] [0, 1, 2, 3, 4] rfl rfl (by decide) (by decide) hk1 hFc hP1 hD1
    have hK := hK.app (hK1.sub (tys' := [(cq104, .byte)]) [0] rfl)
    generalize H1 = H at hP hS ⊢
    have hK : va_K (dC, dI) vwCl [(k0, .object "java/lang/String"), (k1, .int), (k2, .byte), (cq104, .byte)] s := hK
    have hP : va_P (dC, dI) vwCl [(h0, .inr (9, [.int 0, .ref h1, .ref z0, .ref z1, .int 0, .int 0, .int 0])), (h1, .inl (k0, 4, .inr (.inr (.inr (.inr (va_up (va_up (va_up (va_up (fun _ => none) 0 (some ge5)) 1 (some ge5)) 2 (some ge5)) 3 (some ge5))))))), (h2, .inl (k1, 5, .inl (upd (upd (upd (upd (upd (fun _ => 0) 0 l1) 1 l2) 2 1) 3 l4) 4 l5))), (h3, .inr (0, [.ref h4, .int 0, .int 0, .int 0])), (h4, .inl (k2, 1, .inl f0)), (q102, .inr (1, [.ref q103, .int 0, .int 0, .int 0])), (q103, .inl (cq104, 16, .inl (fun _ => 0)))] H := hP
    have hD : va_D A [(h0, .inr (9, [.int 0, .ref h1, .ref z0, .ref z1, .int 0, .int 0, .int 0])), (h1, .inl (k0, 4, .inr (.inr (.inr (.inr (va_up (va_up (va_up (va_up (fun _ => none) 0 (some ge5)) 1 (some ge5)) 2 (some ge5)) 3 (some ge5))))))), (h2, .inl (k1, 5, .inl (upd (upd (upd (upd (upd (fun _ => 0) 0 l1) 1 l2) 2 1) 3 l4) 4 l5))), (h3, .inr (0, [.ref h4, .int 0, .int 0, .int 0])), (h4, .inl (k2, 1, .inl f0)), (q102, .inr (1, [.ref q103, .int 0, .int 0, .int 0])), (q103, .inl (cq104, 16, .inl (fun _ => 0)))] := hD
    refine W.widen (k := 7) (n := 50) (by omega) (by omega) ?_
    refine lv_aload hx hb dX5_type_98 (lv_at hl 5 rfl) ?_
    have hPc := hP.sub (ws' := [(h3, .inr (0, [.ref h4, .int 0, .int 0, .int 0])), (h4, .inl (k2, 1, .inl f0)), (q102, .inr (1, [.ref q103, .int 0, .int 0, .int 0])), (q103, .inl (cq104, 16, .inl (fun _ => 0)))]) [3, 4, 5, 6] rfl
    have hDc := hD.sub (ws' := [(h3, .inr (0, [.ref h4, .int 0, .int 0, .int 0])), (h4, .inl (k2, 1, .inl f0)), (q102, .inr (1, [.ref q103, .int 0, .int 0, .int 0])), (q103, .inl (cq104, 16, .inl (fun _ => 0)))]) [3, 4, 5, 6] (by decide) rfl
    have hKc := hK.sub (tys' := [(k2, .byte), (cq104, .byte)]) [2, 3] rfl
    have hFc := va_free (wc := [(h3, .inr (0, [.ref h4, .int 0, .int 0, .int 0])), (h4, .inl (k2, 1, .inl f0)), (q102, .inr (1, [.ref q103, .int 0, .int 0, .int 0])), (q103, .inl (cq104, 16, .inl (fun _ => 0)))]) hD hS hA [3, 4, 5, 6] rfl
    refine va_callr (va_runV (As := [.ref h3]) (rest := []) ⟨hx, hb, hml, hown, hts⟩ (kx_J4_append_15ec4_1 l dC dI ge5 gea gv5 gva gde gic gi0 h3 h4 q102 q103 k2 cq104 H.size f0 f0_t) (cwV 1 hts gX5_type_J4_append_15ec4 rfl rfl rfl (by decide +kernel) ⟨Nat.le_of_ble_eq_true rfl, Nat.le_of_ble_eq_true rfl⟩) ⟨fun a U g mk q => by obtain ⟨q0, q1, qP, qK, qD, qG⟩ := q; exact ⟨q0, q1, qP, va_K.moved (u := U) (U := U.calling g mk a) (Vm.Alike.refl U.vm) qK, qD, gv.fb qG⟩, va_recv hKc hPc (ci := 1) (q0 := 2) rfl rfl, fun U hU hW => ⟨rfl, by rw [hU], by rw [hU]; exact hPc, va_K.moved hW.alike hKc, hDc.weaken (fun _ _ _ _ => trivial), gv.pass hW hU hS hFc hG⟩⟩ rfl rfl hl.1 rfl (lv_room (Nat.le_of_ble_eq_true rfl)) dX5_type_100 ⟨Nat.le_of_ble_eq_true rfl, Nat.le_of_ble_eq_true rfl⟩) hS (fun q _ h => hFc q h) hFc (fun u ra t H1 locs ht hvm hw hB hz1 hk1 hS => ?_)
    obtain ⟨f105, f105_t, hra, hP1, hK1, hD1⟩ := hB
    rw [hra]
    rw [ht] at hP1
    have hK1 := va_K.moved hvm.symm hK1
    obtain ⟨hP, hD⟩ := va_join (wr := [(h0, .inr (9, [.int 0, .ref h1, .ref z0, .ref z1, .int 0, .int 0, .int 0])), (h1, .inl (k0, 4, .inr (.inr (.inr (.inr (va_up (va_up (va_up (va_up (fun _ => none) 0 (some ge5)) 1 (some ge5)) 2 (some ge5)) 3 (some ge5))))))), (h2, .inl (k1, 5, .inl (upd (upd (upd (upd (upd (fun _ => 0) 0 l1) 1 l2) 2 1) 3 l4) 4 l5)))]) (w1 := [(h3, .inr (0, [.ref h4, .int 0, .int 0, .int 0])), (h4, .inl (k2, 1, .inl f0)), (q102, .inr (1, [.ref q103, .int 0, .int 0, .int 1])), (q103, .inl (cq104, 16, .inl f105))]) hP hD [3, 4, 5, 6] [0, 1, 2] rfl rfl (by decide) (by decide) hk1 hFc hP1 hD1
    generalize H1 = H at hP hS ⊢
    have hP : va_P (dC, dI) vwCl [(h0, .inr (9, [.int 0, .ref h1, .ref z0, .ref z1, .int 0, .int 0, .int 0])), (h1, .inl (k0, 4, .inr (.inr (.inr (.inr (va_up (va_up (va_up (va_up (fun _ => none) 0 (some ge5)) 1 (some ge5)) 2 (some ge5)) 3 (some ge5))))))), (h2, .inl (k1, 5, .inl (upd (upd (upd (upd (upd (fun _ => 0) 0 l1) 1 l2) 2 1) 3 l4) 4 l5))), (h3, .inr (0, [.ref h4, .int 0, .int 0, .int 0])), (h4, .inl (k2, 1, .inl f0)), (q102, .inr (1, [.ref q103, .int 0, .int 0, .int 1])), (q103, .inl (cq104, 16, .inl f105))] H := hP
    have hD : va_D A [(h0, .inr (9, [.int 0, .ref h1, .ref z0, .ref z1, .int 0, .int 0, .int 0])), (h1, .inl (k0, 4, .inr (.inr (.inr (.inr (va_up (va_up (va_up (va_up (fun _ => none) 0 (some ge5)) 1 (some ge5)) 2 (some ge5)) 3 (some ge5))))))), (h2, .inl (k1, 5, .inl (upd (upd (upd (upd (upd (fun _ => 0) 0 l1) 1 l2) 2 1) 3 l4) 4 l5))), (h3, .inr (0, [.ref h4, .int 0, .int 0, .int 0])), (h4, .inl (k2, 1, .inl f0)), (q102, .inr (1, [.ref q103, .int 0, .int 0, .int 1])), (q103, .inl (cq104, 16, .inl f105))] := hD
    refine va_ldcS hx hb hown g_sa dX5_type_103 ?_
    refine lv_iload hx hb dX5_type_105 (lv_at hl 1 rfl) ?_
    have hPc := hP.sub (ws' := []) [] rfl
    have hDc := hD.sub (ws' := []) [] (by decide) rfl
    have hKc := hK.sub (tys' := []) [] rfl
    have hFc := va_free (wc := []) hD hS hA [] rfl
    refine va_calli (va_runV (As := [.int 1]) (rest := [.ref q102]) ⟨hx, hb, hml, hown, hts⟩ (kx_J0_charAt_5068e_1 l dC dI ge5 gea gv5 gva gde gic gi0 H.size) (cwV 1 hts gX5_type_J0_charAt_5068e rfl rfl rfl (by decide +kernel) ⟨Nat.le_of_ble_eq_true rfl, Nat.le_of_ble_eq_true rfl⟩) ⟨fun a U g mk q => by obtain ⟨q0, q1, qP, qK, qD, qG⟩ := q; exact ⟨q0, q1, qP, va_K.moved (u := U) (U := U.calling g mk a) (Vm.Alike.refl U.vm) qK, qD, gv.fb qG⟩, (by obtain ⟨cell, k1, k2, k3, -⟩ := g_oa.kept hS.2.1; exact ⟨cell, k1, k2, k3⟩), fun U hU hW => ⟨rfl, by rw [hU], by rw [hU]; exact hPc, va_K.moved hW.alike hKc, hDc.weaken (fun _ _ _ _ => trivial), gv.pass hW hU hS hFc hG⟩⟩ rfl rfl hl.1 rfl (lv_room (Nat.le_of_ble_eq_true rfl)) dX5_type_107 ⟨Nat.le_of_ble_eq_true rfl, Nat.le_of_ble_eq_true rfl⟩) hS (fun q _ h => hFc q h) hFc (fun r9 u t H1 locs ht hvm hw hB hz1 hk1 hS => ?_)
    obtain rfl := hw
    obtain ⟨hP1, hK1, hD1⟩ := hB
    rw [ht] at hP1
    have hK1 := va_K.moved hvm.symm hK1
    obtain ⟨hP, hD⟩ := va_join (wr := [(h0, .inr (9, [.int 0, .ref h1, .ref z0, .ref z1, .int 0, .int 0, .int 0])), (h1, .inl (k0, 4, .inr (.inr (.inr (.inr (va_up (va_up (va_up (va_up (fun _ => none) 0 (some ge5)) 1 (some ge5)) 2 (some ge5)) 3 (some ge5))))))), (h2, .inl (k1, 5, .inl (upd (upd (upd (upd (upd (fun _ => 0) 0 l1) 1 l2) 2 1) 3 l4) 4 l5))), (h3, .inr (0, [.ref h4, .int 0, .int 0, .int 0])), (h4, .inl (k2, 1, .inl f0)), (q102, .inr (1, [.ref q103, .int 0, .int 0, .int 1])), (q103, .inl (cq104, 16, .inl f105))]) (w1 := []) hP hD [] [0, 1, 2, 3, 4, 5, 6] rfl rfl (by decide) (by decide) hk1 hFc hP1 hD1
    generalize H1 = H at hP hS ⊢
    have hP : va_P (dC, dI) vwCl [(h0, .inr (9, [.int 0, .ref h1, .ref z0, .ref z1, .int 0, .int 0, .int 0])), (h1, .inl (k0, 4, .inr (.inr (.inr (.inr (va_up (va_up (va_up (va_up (fun _ => none) 0 (some ge5)) 1 (some ge5)) 2 (some ge5)) 3 (some ge5))))))), (h2, .inl (k1, 5, .inl (upd (upd (upd (upd (upd (fun _ => 0) 0 l1) 1 l2) 2 1) 3 l4) 4 l5))), (h3, .inr (0, [.ref h4, .int 0, .int 0, .int 0])), (h4, .inl (k2, 1, .inl f0)), (q102, .inr (1, [.ref q103, .int 0, .int 0, .int 1])), (q103, .inl (cq104, 16, .inl f105))] H := hP
    have hD : va_D A [(h0, .inr (9, [.int 0, .ref h1, .ref z0, .ref z1, .int 0, .int 0, .int 0])), (h1, .inl (k0, 4, .inr (.inr (.inr (.inr (va_up (va_up (va_up (va_up (fun _ => none) 0 (some ge5)) 1 (some ge5)) 2 (some ge5)) 3 (some ge5))))))), (h2, .inl (k1, 5, .inl (upd (upd (upd (upd (upd (fun _ => 0) 0 l1) 1 l2) 2 1) 3 l4) 4 l5))), (h3, .inr (0, [.ref h4, .int 0, .int 0, .int 0])), (h4, .inl (k2, 1, .inl f0)), (q102, .inr (1, [.ref q103, .int 0, .int 0, .int 1])), (q103, .inl (cq104, 16, .inl f105))] := hD
    have hPc := hP.sub (ws' := [(q102, .inr (1, [.ref q103, .int 0, .int 0, .int 1])), (q103, .inl (cq104, 16, .inl f105))]) [5, 6] rfl
    have hDc := hD.sub (ws' := [(q102, .inr (1, [.ref q103, .int 0, .int 0, .int 1])), (q103, .inl (cq104, 16, .inl f105))]) [5, 6] (by decide) rfl
    have hKc := hK.sub (tys' := [(cq104, .byte)]) [3] rfl
    have hFc := va_free (wc := [(q102, .inr (1, [.ref q103, .int 0, .int 0, .int 1])), (q103, .inl (cq104, 16, .inl f105))]) hD hS hA [5, 6] rfl
    refine va_callr (va_runV (As := [.int 98]) (rest := []) ⟨hx, hb, hml, hown, hts⟩ (kx_J4_append_cf468_5 l dC dI ge5 gea gv5 gva gde gic gi0 q102 q103 cq104 H.size f105 f105_t) (cwV 1 hts gX5_type_J4_append_cf468 rfl rfl rfl (by decide +kernel) ⟨Nat.le_of_ble_eq_true rfl, Nat.le_of_ble_eq_true rfl⟩) ⟨fun a U g mk q => by obtain ⟨q0, q1, qP, qK, qD, qG⟩ := q; exact ⟨q0, q1, qP, va_K.moved (u := U) (U := U.calling g mk a) (Vm.Alike.refl U.vm) qK, qD, gv.fb qG⟩, va_recv hKc hPc (ci := 1) (q0 := 0) rfl rfl, fun U hU hW => ⟨rfl, by rw [hU], by rw [hU]; exact hPc, va_K.moved hW.alike hKc, hDc.weaken (fun _ _ _ _ => trivial), gv.pass hW hU hS hFc hG⟩⟩ rfl rfl hl.1 rfl (lv_room (Nat.le_of_ble_eq_true rfl)) dX5_type_110 ⟨Nat.le_of_ble_eq_true rfl, Nat.le_of_ble_eq_true rfl⟩) hS (fun q _ h => hFc q h) hFc (fun u ra t H1 locs ht hvm hw hB hz1 hk1 hS => ?_)
    obtain ⟨f106, f106_t, hra, hP1, hK1, hD1⟩ := hB
    rw [hra]
    rw [ht] at hP1
    have hK1 := va_K.moved hvm.symm hK1
    obtain ⟨hP, hD⟩ := va_join (wr := [(h0, .inr (9, [.int 0, .ref h1, .ref z0, .ref z1, .int 0, .int 0, .int 0])), (h1, .inl (k0, 4, .inr (.inr (.inr (.inr (va_up (va_up (va_up (va_up (fun _ => none) 0 (some ge5)) 1 (some ge5)) 2 (some ge5)) 3 (some ge5))))))), (h2, .inl (k1, 5, .inl (upd (upd (upd (upd (upd (fun _ => 0) 0 l1) 1 l2) 2 1) 3 l4) 4 l5))), (h3, .inr (0, [.ref h4, .int 0, .int 0, .int 0])), (h4, .inl (k2, 1, .inl f0))]) (w1 := [(q102, .inr (1, [.ref q103, .int 0, .int 0, .int 2])), (q103, .inl (cq104, 16, .inl f106))]) hP hD [5, 6] [0, 1, 2, 3, 4] rfl rfl (by decide) (by decide) hk1 hFc hP1 hD1
    generalize H1 = H at hP hS ⊢
    have hP : va_P (dC, dI) vwCl [(h0, .inr (9, [.int 0, .ref h1, .ref z0, .ref z1, .int 0, .int 0, .int 0])), (h1, .inl (k0, 4, .inr (.inr (.inr (.inr (va_up (va_up (va_up (va_up (fun _ => none) 0 (some ge5)) 1 (some ge5)) 2 (some ge5)) 3 (some ge5))))))), (h2, .inl (k1, 5, .inl (upd (upd (upd (upd (upd (fun _ => 0) 0 l1) 1 l2) 2 1) 3 l4) 4 l5))), (h3, .inr (0, [.ref h4, .int 0, .int 0, .int 0])), (h4, .inl (k2, 1, .inl f0)), (q102, .inr (1, [.ref q103, .int 0, .int 0, .int 2])), (q103, .inl (cq104, 16, .inl f106))] H := hP
    have hD : va_D A [(h0, .inr (9, [.int 0, .ref h1, .ref z0, .ref z1, .int 0, .int 0, .int 0])), (h1, .inl (k0, 4, .inr (.inr (.inr (.inr (va_up (va_up (va_up (va_up (fun _ => none) 0 (some ge5)) 1 (some ge5)) 2 (some ge5)) 3 (some ge5))))))), (h2, .inl (k1, 5, .inl (upd (upd (upd (upd (upd (fun _ => 0) 0 l1) 1 l2) 2 1) 3 l4) 4 l5))), (h3, .inr (0, [.ref h4, .int 0, .int 0, .int 0])), (h4, .inl (k2, 1, .inl f0)), (q102, .inr (1, [.ref q103, .int 0, .int 0, .int 2])), (q103, .inl (cq104, 16, .inl f106))] := hD
    have hPc := hP.sub (ws' := [(q102, .inr (1, [.ref q103, .int 0, .int 0, .int 2])), (q103, .inl (cq104, 16, .inl f106))]) [5, 6] rfl
    have hDc := hD.sub (ws' := [(q102, .inr (1, [.ref q103, .int 0, .int 0, .int 2])), (q103, .inl (cq104, 16, .inl f106))]) [5, 6] (by decide) rfl
    have hKc := hK.sub (tys' := [(cq104, .byte)]) [3] rfl
    have hFc := va_free (wc := [(q102, .inr (1, [.ref q103, .int 0, .int 0, .int 2])), (q103, .inl (cq104, 16, .inl f106))]) hD hS hA [5, 6] rfl
    refine va_callr (va_runV (As := []) (rest := []) ⟨hx, hb, hml, hown, hts⟩ (kx_J4_toString_0e30d_2 l dC dI ge5 gea gv5 gva gde gic gi0 q102 q103 cq104 H.size f106 f106_t) (cwV 0 hts gX5_type_J4_toString_0e30d rfl rfl rfl (by decide +kernel) ⟨Nat.le_of_ble_eq_true rfl, Nat.le_of_ble_eq_true rfl⟩) ⟨fun a U g mk q => by obtain ⟨q0, q1, qP, qK, qD, qG⟩ := q; exact ⟨q0, q1, qP, va_K.moved (u := U) (U := U.calling g mk a) (Vm.Alike.refl U.vm) qK, qD, gv.fb qG⟩, va_recv hKc hPc (ci := 1) (q0 := 0) rfl rfl, fun U hU hW => ⟨rfl, by rw [hU], by rw [hU]; exact hPc, va_K.moved hW.alike hKc, hDc.weaken (fun _ _ _ _ => trivial), gv.pass hW hU hS hFc hG⟩⟩ rfl rfl hl.1 rfl (lv_room (Nat.le_of_ble_eq_true rfl)) dX5_type_113 ⟨Nat.le_of_ble_eq_true rfl, Nat.le_of_ble_eq_true rfl⟩) hS (fun q _ h => hFc q h) hFc (fun u ra t H1 locs ht hvm hw hB hz1 hk1 hS => ?_)
    obtain ⟨q107, q108, cq109, f110, f110_t, hra, hP1, hK1, hD1⟩ := hB
    rw [hra]
    rw [ht] at hP1
    have hK1 := va_K.moved hvm.symm hK1
    obtain ⟨hP, hD⟩ := va_join (wr := [(h0, .inr (9, [.int 0, .ref h1, .ref z0, .ref z1, .int 0, .int 0, .int 0])), (h1, .inl (k0, 4, .inr (.inr (.inr (.inr (va_up (va_up (va_up (va_up (fun _ => none) 0 (some ge5)) 1 (some ge5)) 2 (some ge5)) 3 (some ge5))))))), (h2, .inl (k1, 5, .inl (upd (upd (upd (upd (upd (fun _ => 0) 0 l1) 1 l2) 2 1) 3 l4) 4 l5))), (h3, .inr (0, [.ref h4, .int 0, .int 0, .int 0])), (h4, .inl (k2, 1, .inl f0))]) (w1 := [(q102, .inr (1, [.ref q103, .int 0, .int 0, .int 2])), (q103, .inl (cq104, 16, .inl f106)), (q107, .inr (0, [.ref q108, .int 0, .int 0, .int 0])), (q108, .inl (cq109, 2, .inl f110))]) hP hD [5, 6] [0, 1, 2, 3, 4] rfl rfl (by decide) (by decide) hk1 hFc hP1 hD1
    have hK := hK.app (hK1.sub (tys' := [(cq109, .byte)]) [1] rfl)
    generalize H1 = H at hP hS ⊢
    have hK : va_K (dC, dI) vwCl [(k0, .object "java/lang/String"), (k1, .int), (k2, .byte), (cq104, .byte), (cq109, .byte)] s := hK
    have hP : va_P (dC, dI) vwCl [(h0, .inr (9, [.int 0, .ref h1, .ref z0, .ref z1, .int 0, .int 0, .int 0])), (h1, .inl (k0, 4, .inr (.inr (.inr (.inr (va_up (va_up (va_up (va_up (fun _ => none) 0 (some ge5)) 1 (some ge5)) 2 (some ge5)) 3 (some ge5))))))), (h2, .inl (k1, 5, .inl (upd (upd (upd (upd (upd (fun _ => 0) 0 l1) 1 l2) 2 1) 3 l4) 4 l5))), (h3, .inr (0, [.ref h4, .int 0, .int 0, .int 0])), (h4, .inl (k2, 1, .inl f0)), (q102, .inr (1, [.ref q103, .int 0, .int 0, .int 2])), (q103, .inl (cq104, 16, .inl f106)), (q107, .inr (0, [.ref q108, .int 0, .int 0, .int 0])), (q108, .inl (cq109, 2, .inl f110))] H := hP
    have hD : va_D A [(h0, .inr (9, [.int 0, .ref h1, .ref z0, .ref z1, .int 0, .int 0, .int 0])), (h1, .inl (k0, 4, .inr (.inr (.inr (.inr (va_up (va_up (va_up (va_up (fun _ => none) 0 (some ge5)) 1 (some ge5)) 2 (some ge5)) 3 (some ge5))))))), (h2, .inl (k1, 5, .inl (upd (upd (upd (upd (upd (fun _ => 0) 0 l1) 1 l2) 2 1) 3 l4) 4 l5))), (h3, .inr (0, [.ref h4, .int 0, .int 0, .int 0])), (h4, .inl (k2, 1, .inl f0)), (q102, .inr (1, [.ref q103, .int 0, .int 0, .int 2])), (q103, .inl (cq104, 16, .inl f106)), (q107, .inr (0, [.ref q108, .int 0, .int 0, .int 0])), (q108, .inl (cq109, 2, .inl f110))] := hD
    refine W.widen (k := 9) (n := 56) (by omega) (by omega) ?_
    refine lv_astore (lv' := [(9, .ref q107), (8, .int 1), (13, .int 1), (0, .ref h0), (1, .int rp), (7, .ref h2), (10, .ref h2), (11, .int 5), (12, .int 2)]) hx hb dX5_type_116 hl (by decide) rfl (fun ls hl => ?_)
    refine lv_iinc (v := 3) (lv' := [(12, .int 3), (9, .ref q107), (8, .int 1), (13, .int 1), (0, .ref h0), (1, .int rp), (7, .ref h2), (10, .ref h2), (11, .int 5)]) hx hb dX5_type_118 hl (k := 8) rfl (by decide) (by decide) rfl (fun ls hl => ?_)
    refine lv_goto (tgt := 47) hx hb dX5_type_121 (by decide) ?_
    have hP := hP.sub (ws' := [(h0, .inr (9, [.int 0, .ref h1, .ref z0, .ref z1, .int 0, .int 0, .int 0])), (h1, .inl (k0, 4, .inr (.inr (.inr (.inr (va_up (va_up (va_up (va_up (fun _ => none) 0 (some ge5)) 1 (some ge5)) 2 (some ge5)) 3 (some ge5))))))), (h2, .inl (k1, 5, .inl (upd (upd (upd (upd (upd (fun _ => 0) 0 l1) 1 l2) 2 1) 3 l4) 4 l5))), (q107, .inr (0, [.ref q108, .int 0, .int 0, .int 0])), (q108, .inl (cq109, 2, .inl f110))]) [0, 1, 2, 7, 8] rfl
    have hD := hD.sub (ws' := [(h0, .inr (9, [.int 0, .ref h1, .ref z0, .ref z1, .int 0, .int 0, .int 0])), (h1, .inl (k0, 4, .inr (.inr (.inr (.inr (va_up (va_up (va_up (va_up (fun _ => none) 0 (some ge5)) 1 (some ge5)) 2 (some ge5)) 3 (some ge5))))))), (h2, .inl (k1, 5, .inl (upd (upd (upd (upd (upd (fun _ => 0) 0 l1) 1 l2) 2 1) 3 l4) 4 l5))), (q107, .inr (0, [.ref q108, .int 0, .int 0, .int 0])), (q108, .inl (cq109, 2, .inl f110))]) [0, 1, 2, 7, 8] (by decide) rfl
    have hK := hK.sub (tys' := [(k0, .object "java/lang/String"), (k1, .int), (cq109, .byte)]) [0, 1, 4] rfl
    have hl := lv_sub hl [4, 5, 6, 2, 1, 7, 8, 0] (show lv_pick [(12, .int 3), (9, .ref q107), (8, .int 1), (13, .int 1), (0, .ref h0), (1, .int rp), (7, .ref h2), (10, .ref h2), (11, .int 5)] [4, 5, 6, 2, 1, 7, 8, 0] = [(0, .ref h0), (1, .int rp), (7, .ref h2), (8, .int 1), (9, .ref q107), (10, .ref h2), (11, .int 5), (12, .int 3)] from rfl)
    exact kx_X5_type_h321 f110_t hR hx hb hr hml hown hts hlocks hA hG hS hK hP hD hl
  · have hR : kz_ty rp 2 1 [l4, l5] = (R, v) := (kz_ty_g (by decide) (by decide)).symm.trans hR
    refine lv_iload hx hb dX5_type_47 (lv_at hl 7 rfl) ?_
    refine lv_iload hx hb dX5_type_49 (lv_at hl 6 rfl) ?_
    refine lv_icmp_ge (tgt := 124) hx hb dX5_type_51 (by decide) (fun c9 => absurd c9 (by decide)) (fun _ => ?_)
    refine lv_aload hx hb dX5_type_54 (lv_at hl 5 rfl) ?_
    refine lv_iload hx hb dX5_type_56 (lv_at hl 7 rfl) ?_
    refine va_iald (D := (dC, dI)) hx hb hK hP 2 1 rfl rfl (by unfold vp_in; decide) dX5_type_58 ?_
    refine W.eq (g2 := F0 m 59 ls [.int 2]) rfl ?_
    refine lv_istore (lv' := [(13, .int 2), (0, .ref h0), (1, .int rp), (7, .ref h2), (8, .int 1), (9, .ref h3), (10, .ref h2), (11, .int 5), (12, .int 2)]) hx hb dX5_type_59 hl (by decide) rfl (fun ls hl => ?_)
    refine lv_iload hx hb dX5_type_61 (lv_at hl 4 rfl) ?_
    refine lv_iload hx hb dX5_type_63 (lv_at hl 0 rfl) ?_
    refine lv_iconst (v := (-1)) hx hb dX5_type_65 (by decide) ?_
    refine lv_iconst (v := 3) hx hb dX5_type_66 (by decide) ?_
    have hPc := hP.sub (ws' := []) [] rfl
    have hDc := hD.sub (ws' := []) [] (by decide) rfl
    have hKc := hK.sub (tys' := []) [] rfl
    have hFc := va_free (wc := []) hD hS hA [] rfl
    refine va_calli (va_runS (As := [.int 2, .int (-1), .int 3]) (rest := [.int 1]) ⟨hx, hb, hml, hown, hts⟩ (kx_X5_isIn_11 l dC dI H.size) (cwS 3 hts gX5_type_X5_isIn rfl rfl rfl (by decide +kernel) ⟨Nat.le_of_ble_eq_true rfl, Nat.le_of_ble_eq_true rfl⟩) ⟨fun a U g mk q => by obtain ⟨q0, q1, qP, qK, qD⟩ := q; exact ⟨q0, q1, qP, va_K.moved (u := U) (U := U.calling g mk a) (Vm.Alike.refl U.vm) qK, qD⟩, fun U hU hW => ⟨rfl, by rw [hU], by rw [hU]; exact hPc, va_K.moved hW.alike hKc, hDc.weaken (fun _ _ _ _ => trivial)⟩⟩ rfl rfl hl.1 rfl (lv_room (Nat.le_of_ble_eq_true rfl)) dX5_type_67 ⟨Nat.le_of_ble_eq_true rfl, Nat.le_of_ble_eq_true rfl⟩) hS (fun q _ h => hFc q h) hFc (fun r9 u t H1 locs ht hvm hw hB hz1 hk1 hS => ?_)
    obtain rfl := hw
    obtain ⟨hP1, hK1, hD1⟩ := hB
    rw [ht] at hP1
    have hK1 := va_K.moved hvm.symm hK1
    obtain ⟨hP, hD⟩ := va_join (wr := [(h0, .inr (9, [.int 0, .ref h1, .ref z0, .ref z1, .int 0, .int 0, .int 0])), (h1, .inl (k0, 4, .inr (.inr (.inr (.inr (va_up (va_up (va_up (va_up (fun _ => none) 0 (some ge5)) 1 (some ge5)) 2 (some ge5)) 3 (some ge5))))))), (h2, .inl (k1, 5, .inl (upd (upd (upd (upd (upd (fun _ => 0) 0 l1) 1 l2) 2 2) 3 l4) 4 l5))), (h3, .inr (0, [.ref h4, .int 0, .int 0, .int 0])), (h4, .inl (k2, 1, .inl f0))]) (w1 := []) hP hD [] [0, 1, 2, 3, 4] rfl rfl (by decide) (by decide) hk1 hFc hP1 hD1
    generalize H1 = H at hP hS ⊢
    have hP : va_P (dC, dI) vwCl [(h0, .inr (9, [.int 0, .ref h1, .ref z0, .ref z1, .int 0, .int 0, .int 0])), (h1, .inl (k0, 4, .inr (.inr (.inr (.inr (va_up (va_up (va_up (va_up (fun _ => none) 0 (some ge5)) 1 (some ge5)) 2 (some ge5)) 3 (some ge5))))))), (h2, .inl (k1, 5, .inl (upd (upd (upd (upd (upd (fun _ => 0) 0 l1) 1 l2) 2 2) 3 l4) 4 l5))), (h3, .inr (0, [.ref h4, .int 0, .int 0, .int 0])), (h4, .inl (k2, 1, .inl f0))] H := hP
    have hD : va_D A [(h0, .inr (9, [.int 0, .ref h1, .ref z0, .ref z1, .int 0, .int 0, .int 0])), (h1, .inl (k0, 4, .inr (.inr (.inr (.inr (va_up (va_up (va_up (va_up (fun _ => none) 0 (some ge5)) 1 (some ge5)) 2 (some ge5)) 3 (some ge5))))))), (h2, .inl (k1, 5, .inl (upd (upd (upd (upd (upd (fun _ => 0) 0 l1) 1 l2) 2 2) 3 l4) 4 l5))), (h3, .inr (0, [.ref h4, .int 0, .int 0, .int 0])), (h4, .inl (k2, 1, .inl f0))] := hD
    refine lv_if_ne (tgt := 77) hx hb dX5_type_70 (by decide) (fun _ => ?_) (fun c9 => absurd c9 (by decide))
    refine lv_iconst (v := 0) hx hb dX5_type_77 (by decide) ?_
    refine lv_ior hx hb dX5_type_78 ?_
    refine lv_topi (fun y101 ey101 => ?_)
    obtain rfl : y101 = 1 := ey101.trans (by decide)
    refine lv_istore (lv' := [(8, .int 1), (13, .int 2), (0, .ref h0), (1, .int rp), (7, .ref h2), (9, .ref h3), (10, .ref h2), (11, .int 5), (12, .int 2)]) hx hb dX5_type_79 hl (by decide) rfl (fun ls hl => ?_)
    refine lv_iload hx hb dX5_type_81 (lv_at hl 1 rfl) ?_
    refine lv_iconst (v := 0) hx hb dX5_type_83 (by decide) ?_
    refine lv_iconst (v := 3) hx hb dX5_type_84 (by decide) ?_
    have hPc := hP.sub (ws' := []) [] rfl
    have hDc := hD.sub (ws' := []) [] (by decide) rfl
    have hKc := hK.sub (tys' := []) [] rfl
    have hFc := va_free (wc := []) hD hS hA [] rfl
    refine va_calli (va_runS (As := [.int 2, .int 0, .int 3]) (rest := []) ⟨hx, hb, hml, hown, hts⟩ (kx_X5_isIn_12 l dC dI H.size) (cwS 3 hts gX5_type_X5_isIn rfl rfl rfl (by decide +kernel) ⟨Nat.le_of_ble_eq_true rfl, Nat.le_of_ble_eq_true rfl⟩) ⟨fun a U g mk q => by obtain ⟨q0, q1, qP, qK, qD⟩ := q; exact ⟨q0, q1, qP, va_K.moved (u := U) (U := U.calling g mk a) (Vm.Alike.refl U.vm) qK, qD⟩, fun U hU hW => ⟨rfl, by rw [hU], by rw [hU]; exact hPc, va_K.moved hW.alike hKc, hDc.weaken (fun _ _ _ _ => trivial)⟩⟩ rfl rfl hl.1 rfl (lv_room (Nat.le_of_ble_eq_true rfl)) dX5_type_85 ⟨Nat.le_of_ble_eq_true rfl, Nat.le_of_ble_eq_true rfl⟩) hS (fun q _ h => hFc q h) hFc (fun r9 u t H1 locs ht hvm hw hB hz1 hk1 hS => ?_)
    obtain rfl := hw
    obtain ⟨hP1, hK1, hD1⟩ := hB
    rw [ht] at hP1
    have hK1 := va_K.moved hvm.symm hK1
    obtain ⟨hP, hD⟩ := va_join (wr := [(h0, .inr (9, [.int 0, .ref h1, .ref z0, .ref z1, .int 0, .int 0, .int 0])), (h1, .inl (k0, 4, .inr (.inr (.inr (.inr (va_up (va_up (va_up (va_up (fun _ => none) 0 (some ge5)) 1 (some ge5)) 2 (some ge5)) 3 (some ge5))))))), (h2, .inl (k1, 5, .inl (upd (upd (upd (upd (upd (fun _ => 0) 0 l1) 1 l2) 2 2) 3 l4) 4 l5))), (h3, .inr (0, [.ref h4, .int 0, .int 0, .int 0])), (h4, .inl (k2, 1, .inl f0))]) (w1 := []) hP hD [] [0, 1, 2, 3, 4] rfl rfl (by decide) (by decide) hk1 hFc hP1 hD1
    generalize H1 = H at hP hS ⊢
    have hP : va_P (dC, dI) vwCl [(h0, .inr (9, [.int 0, .ref h1, .ref z0, .ref z1, .int 0, .int 0, .int 0])), (h1, .inl (k0, 4, .inr (.inr (.inr (.inr (va_up (va_up (va_up (va_up (fun _ => none) 0 (some ge5)) 1 (some ge5)) 2 (some ge5)) 3 (some ge5))))))), (h2, .inl (k1, 5, .inl (upd (upd (upd (upd (upd (fun _ => 0) 0 l1) 1 l2) 2 2) 3 l4) 4 l5))), (h3, .inr (0, [.ref h4, .int 0, .int 0, .int 0])), (h4, .inl (k2, 1, .inl f0))] H := hP
    have hD : va_D A [(h0, .inr (9, [.int 0, .ref h1, .ref z0, .ref z1, .int 0, .int 0, .int 0])), (h1, .inl (k0, 4, .inr (.inr (.inr (.inr (va_up (va_up (va_up (va_up (fun _ => none) 0 (some ge5)) 1 (some ge5)) 2 (some ge5)) 3 (some ge5))))))), (h2, .inl (k1, 5, .inl (upd (upd (upd (upd (upd (fun _ => 0) 0 l1) 1 l2) 2 2) 3 l4) 4 l5))), (h3, .inr (0, [.ref h4, .int 0, .int 0, .int 0])), (h4, .inl (k2, 1, .inl f0))] := hD
    refine lv_if_eq (tgt := 118) hx hb dX5_type_88 (by decide) (fun c9 => absurd c9 (by decide)) (fun _ => ?_)
    refine va_new (ci := 1) (fs := [.null, .int 0, .int 0, .int 0]) (C := RJ4) (T := TJ4) (N := 4) hx hb hts (by decide +kernel) tyJ4 tyJ4_ok hown (hts (.classLink RX5 49 RJ4) (by decide +kernel)) (hts (.instantiable RJ4 4) (by decide +kernel)) (hts (.initialized RJ4) (by decide +kernel)) hK hP hD hS hA rfl (fun j hj => by rcases (show j = 0 ∨ j = 1 ∨ j = 2 ∨ j = 3 by omega) with rfl | rfl | rfl | rfl <;> rfl) (Nat.le_of_ble_eq_true rfl) (Nat.le_of_ble_eq_true rfl) dX5_type_91 (fun q102 H hP hD hS => ?_)
    have hP : va_P (dC, dI) vwCl [(h0, .inr (9, [.int 0, .ref h1, .ref z0, .ref z1, .int 0, .int 0, .int 0])), (h1, .inl (k0, 4, .inr (.inr (.inr (.inr (va_up (va_up (va_up (va_up (fun _ => none) 0 (some ge5)) 1 (some ge5)) 2 (some ge5)) 3 (some ge5))))))), (h2, .inl (k1, 5, .inl (upd (upd (upd (upd (upd (fun _ => 0) 0 l1) 1 l2) 2 2) 3 l4) 4 l5))), (h3, .inr (0, [.ref h4, .int 0, .int 0, .int 0])), (h4, .inl (k2, 1, .inl f0)), (q102, .inr (1, [.null, .int 0, .int 0, .int 0]))] H := hP
    have hD : va_D A [(h0, .inr (9, [.int 0, .ref h1, .ref z0, .ref z1, .int 0, .int 0, .int 0])), (h1, .inl (k0, 4, .inr (.inr (.inr (.inr (va_up (va_up (va_up (va_up (fun _ => none) 0 (some ge5)) 1 (some ge5)) 2 (some ge5)) 3 (some ge5))))))), (h2, .inl (k1, 5, .inl (upd (upd (upd (upd (upd (fun _ => 0) 0 l1) 1 l2) 2 2) 3 l4) 4 l5))), (h3, .inr (0, [.ref h4, .int 0, .int 0, .int 0])), (h4, .inl (k2, 1, .inl f0)), (q102, .inr (1, [.null, .int 0, .int 0, .int 0]))] := hD
    refine W.widen (k := 6) (n := 34) (by omega) (by omega) ?_
    refine lv_dup hx hb dX5_type_94 rfl ?_
    have hPc := hP.sub (ws' := [(q102, .inr (1, [.null, .int 0, .int 0, .int 0]))]) [5] rfl
    have hDc := hD.sub (ws' := [(q102, .inr (1, [.null, .int 0, .int 0, .int 0]))]) [5] (by decide) rfl
    have hKc := hK.sub (tys' := []) [] rfl
    have hFc := va_free (wc := [(q102, .inr (1, [.null, .int 0, .int 0, .int 0]))]) hD hS hA [5] rfl
    refine va_callv (va_runI (As := []) (rest := [.ref q102]) ⟨hx, hb, hml, hown, hts⟩ (kx_J4_init_da8c8_0 l dC dI ge5 gea gv5 gva gde gic gi0 q102 H.size) (cwI 0 hts gX5_type_J4_init_da8c8 rfl rfl rfl (hts (.initialized RJ4) (by decide +kernel)) (hts (.methodLink RX5 51 yJ4_init_da8c8) (by decide +kernel)) (hts (.instanceMethod yJ4_init_da8c8) (by decide +kernel)) rfl (by decide +kernel) ⟨Nat.le_of_ble_eq_true rfl, Nat.le_of_ble_eq_true rfl⟩) ⟨fun a U g mk q => by obtain ⟨q0, q1, qP, qK, qD, qG⟩ := q; exact ⟨q0, q1, qP, va_K.moved (u := U) (U := U.calling g mk a) (Vm.Alike.refl U.vm) qK, qD, gv.fb qG⟩, fun U hU hW => ⟨rfl, by rw [hU], by rw [hU]; exact hPc, va_K.moved hW.alike hKc, hDc.weaken (fun _ _ _ _ => trivial), gv.pass hW hU hS hFc hG⟩⟩ rfl rfl hl.1 rfl (lv_room (Nat.le_of_ble_eq_true rfl)) dX5_type_95 ⟨Nat.le_of_ble_eq_true rfl, Nat.le_of_ble_eq_true rfl⟩) hS (fun q _ h => hFc q h) hFc (fun u t H1 locs ht hvm hw hB hz1 hk1 hS => ?_)
    obtain ⟨q103, cq104, hP1, hK1, hD1⟩ := hB
    rw [ht] at hP1
    have hK1 := va_K.moved hvm.symm hK1
    obtain ⟨hP, hD⟩ := va_join (wr := [(h0, .inr (9, [.int 0, .ref h1, .ref z0, .ref z1, .int 0, .int 0, .int 0])), (h1, .inl (k0, 4, .inr (.inr (.inr (.inr (va_up (va_up (va_up (va_up (fun _ => none) 0 (some ge5)) 1 (some ge5)) 2 (some ge5)) 3 (some ge5))))))), (h2, .inl (k1, 5, .inl (upd (upd (upd (upd (upd (fun _ => 0) 0 l1) 1 l2) 2 2) 3 l4) 4 l5))), (h3, .inr (0, [.ref h4, .int 0, .int 0, .int 0])), (h4, .inl (k2, 1, .inl f0))]) (w1 := [(q102, .inr (1, [.ref q103, .int 0, .int 0, .int 0])), (q103, .inl (cq104, 16, .inl (fun _ => 0)))]) hP hD [5] [0, 1, 2, 3, 4] rfl rfl (by decide) (by decide) hk1 hFc hP1 hD1
    have hK := hK.app (hK1.sub (tys' := [(cq104, .byte)]) [0] rfl)
    generalize H1 = H at hP hS ⊢
    have hK : va_K (dC, dI) vwCl [(k0, .object "java/lang/String"), (k1, .int), (k2, .byte), (cq104, .byte)] s := hK
    have hP : va_P (dC, dI) vwCl [(h0, .inr (9, [.int 0, .ref h1, .ref z0, .ref z1, .int 0, .int 0, .int 0])), (h1, .inl (k0, 4, .inr (.inr (.inr (.inr (va_up (va_up (va_up (va_up (fun _ => none) 0 (some ge5)) 1 (some ge5)) 2 (some ge5)) 3 (some ge5))))))), (h2, .inl (k1, 5, .inl (upd (upd (upd (upd (upd (fun _ => 0) 0 l1) 1 l2) 2 2) 3 l4) 4 l5))), (h3, .inr (0, [.ref h4, .int 0, .int 0, .int 0])), (h4, .inl (k2, 1, .inl f0)), (q102, .inr (1, [.ref q103, .int 0, .int 0, .int 0])), (q103, .inl (cq104, 16, .inl (fun _ => 0)))] H := hP
    have hD : va_D A [(h0, .inr (9, [.int 0, .ref h1, .ref z0, .ref z1, .int 0, .int 0, .int 0])), (h1, .inl (k0, 4, .inr (.inr (.inr (.inr (va_up (va_up (va_up (va_up (fun _ => none) 0 (some ge5)) 1 (some ge5)) 2 (some ge5)) 3 (some ge5))))))), (h2, .inl (k1, 5, .inl (upd (upd (upd (upd (upd (fun _ => 0) 0 l1) 1 l2) 2 2) 3 l4) 4 l5))), (h3, .inr (0, [.ref h4, .int 0, .int 0, .int 0])), (h4, .inl (k2, 1, .inl f0)), (q102, .inr (1, [.ref q103, .int 0, .int 0, .int 0])), (q103, .inl (cq104, 16, .inl (fun _ => 0)))] := hD
    refine W.widen (k := 7) (n := 50) (by omega) (by omega) ?_
    refine lv_aload hx hb dX5_type_98 (lv_at hl 5 rfl) ?_
    have hPc := hP.sub (ws' := [(h3, .inr (0, [.ref h4, .int 0, .int 0, .int 0])), (h4, .inl (k2, 1, .inl f0)), (q102, .inr (1, [.ref q103, .int 0, .int 0, .int 0])), (q103, .inl (cq104, 16, .inl (fun _ => 0)))]) [3, 4, 5, 6] rfl
    have hDc := hD.sub (ws' := [(h3, .inr (0, [.ref h4, .int 0, .int 0, .int 0])), (h4, .inl (k2, 1, .inl f0)), (q102, .inr (1, [.ref q103, .int 0, .int 0, .int 0])), (q103, .inl (cq104, 16, .inl (fun _ => 0)))]) [3, 4, 5, 6] (by decide) rfl
    have hKc := hK.sub (tys' := [(k2, .byte), (cq104, .byte)]) [2, 3] rfl
    have hFc := va_free (wc := [(h3, .inr (0, [.ref h4, .int 0, .int 0, .int 0])), (h4, .inl (k2, 1, .inl f0)), (q102, .inr (1, [.ref q103, .int 0, .int 0, .int 0])), (q103, .inl (cq104, 16, .inl (fun _ => 0)))]) hD hS hA [3, 4, 5, 6] rfl
    refine va_callr (va_runV (As := [.ref h3]) (rest := []) ⟨hx, hb, hml, hown, hts⟩ (kx_J4_append_15ec4_1 l dC dI ge5 gea gv5 gva gde gic gi0 h3 h4 q102 q103 k2 cq104 H.size f0 f0_t) (cwV 1 hts gX5_type_J4_append_15ec4 rfl rfl rfl (by decide +kernel) ⟨Nat.le_of_ble_eq_true rfl, Nat.le_of_ble_eq_true rfl⟩) ⟨fun a U g mk q => by obtain ⟨q0, q1, qP, qK, qD, qG⟩ := q; exact ⟨q0, q1, qP, va_K.moved (u := U) (U := U.calling g mk a) (Vm.Alike.refl U.vm) qK, qD, gv.fb qG⟩, va_recv hKc hPc (ci := 1) (q0 := 2) rfl rfl, fun U hU hW => ⟨rfl, by rw [hU], by rw [hU]; exact hPc, va_K.moved hW.alike hKc, hDc.weaken (fun _ _ _ _ => trivial), gv.pass hW hU hS hFc hG⟩⟩ rfl rfl hl.1 rfl (lv_room (Nat.le_of_ble_eq_true rfl)) dX5_type_100 ⟨Nat.le_of_ble_eq_true rfl, Nat.le_of_ble_eq_true rfl⟩) hS (fun q _ h => hFc q h) hFc (fun u ra t H1 locs ht hvm hw hB hz1 hk1 hS => ?_)
    obtain ⟨f105, f105_t, hra, hP1, hK1, hD1⟩ := hB
    rw [hra]
    rw [ht] at hP1
    have hK1 := va_K.moved hvm.symm hK1
    obtain ⟨hP, hD⟩ := va_join (wr := [(h0, .inr (9, [.int 0, .ref h1, .ref z0, .ref z1, .int 0, .int 0, .int 0])), (h1, .inl (k0, 4, .inr (.inr (.inr (.inr (va_up (va_up (va_up (va_up (fun _ => none) 0 (some ge5)) 1 (some ge5)) 2 (some ge5)) 3 (some ge5))))))), (h2, .inl (k1, 5, .inl (upd (upd (upd (upd (upd (fun _ => 0) 0 l1) 1 l2) 2 2) 3 l4) 4 l5)))]) (w1 := [(h3, .inr (0, [.ref h4, .int 0, .int 0, .int 0])), (h4, .inl (k2, 1, .inl f0)), (q102, .inr (1, [.ref q103, .int 0, .int 0, .int 1])), (q103, .inl (cq104, 16, .inl f105))]) hP hD [3, 4, 5, 6] [0, 1, 2] rfl rfl (by decide) (by decide) hk1 hFc hP1 hD1
    generalize H1 = H at hP hS ⊢
    have hP : va_P (dC, dI) vwCl [(h0, .inr (9, [.int 0, .ref h1, .ref z0, .ref z1, .int 0, .int 0, .int 0])), (h1, .inl (k0, 4, .inr (.inr (.inr (.inr (va_up (va_up (va_up (va_up (fun _ => none) 0 (some ge5)) 1 (some ge5)) 2 (some ge5)) 3 (some ge5))))))), (h2, .inl (k1, 5, .inl (upd (upd (upd (upd (upd (fun _ => 0) 0 l1) 1 l2) 2 2) 3 l4) 4 l5))), (h3, .inr (0, [.ref h4, .int 0, .int 0, .int 0])), (h4, .inl (k2, 1, .inl f0)), (q102, .inr (1, [.ref q103, .int 0, .int 0, .int 1])), (q103, .inl (cq104, 16, .inl f105))] H := hP
    have hD : va_D A [(h0, .inr (9, [.int 0, .ref h1, .ref z0, .ref z1, .int 0, .int 0, .int 0])), (h1, .inl (k0, 4, .inr (.inr (.inr (.inr (va_up (va_up (va_up (va_up (fun _ => none) 0 (some ge5)) 1 (some ge5)) 2 (some ge5)) 3 (some ge5))))))), (h2, .inl (k1, 5, .inl (upd (upd (upd (upd (upd (fun _ => 0) 0 l1) 1 l2) 2 2) 3 l4) 4 l5))), (h3, .inr (0, [.ref h4, .int 0, .int 0, .int 0])), (h4, .inl (k2, 1, .inl f0)), (q102, .inr (1, [.ref q103, .int 0, .int 0, .int 1])), (q103, .inl (cq104, 16, .inl f105))] := hD
    refine va_ldcS hx hb hown g_sa dX5_type_103 ?_
    refine lv_iload hx hb dX5_type_105 (lv_at hl 1 rfl) ?_
    have hPc := hP.sub (ws' := []) [] rfl
    have hDc := hD.sub (ws' := []) [] (by decide) rfl
    have hKc := hK.sub (tys' := []) [] rfl
    have hFc := va_free (wc := []) hD hS hA [] rfl
    refine va_calli (va_runV (As := [.int 2]) (rest := [.ref q102]) ⟨hx, hb, hml, hown, hts⟩ (kx_J0_charAt_5068e_2 l dC dI ge5 gea gv5 gva gde gic gi0 H.size) (cwV 1 hts gX5_type_J0_charAt_5068e rfl rfl rfl (by decide +kernel) ⟨Nat.le_of_ble_eq_true rfl, Nat.le_of_ble_eq_true rfl⟩) ⟨fun a U g mk q => by obtain ⟨q0, q1, qP, qK, qD, qG⟩ := q; exact ⟨q0, q1, qP, va_K.moved (u := U) (U := U.calling g mk a) (Vm.Alike.refl U.vm) qK, qD, gv.fb qG⟩, (by obtain ⟨cell, k1, k2, k3, -⟩ := g_oa.kept hS.2.1; exact ⟨cell, k1, k2, k3⟩), fun U hU hW => ⟨rfl, by rw [hU], by rw [hU]; exact hPc, va_K.moved hW.alike hKc, hDc.weaken (fun _ _ _ _ => trivial), gv.pass hW hU hS hFc hG⟩⟩ rfl rfl hl.1 rfl (lv_room (Nat.le_of_ble_eq_true rfl)) dX5_type_107 ⟨Nat.le_of_ble_eq_true rfl, Nat.le_of_ble_eq_true rfl⟩) hS (fun q _ h => hFc q h) hFc (fun r9 u t H1 locs ht hvm hw hB hz1 hk1 hS => ?_)
    obtain rfl := hw
    obtain ⟨hP1, hK1, hD1⟩ := hB
    rw [ht] at hP1
    have hK1 := va_K.moved hvm.symm hK1
    obtain ⟨hP, hD⟩ := va_join (wr := [(h0, .inr (9, [.int 0, .ref h1, .ref z0, .ref z1, .int 0, .int 0, .int 0])), (h1, .inl (k0, 4, .inr (.inr (.inr (.inr (va_up (va_up (va_up (va_up (fun _ => none) 0 (some ge5)) 1 (some ge5)) 2 (some ge5)) 3 (some ge5))))))), (h2, .inl (k1, 5, .inl (upd (upd (upd (upd (upd (fun _ => 0) 0 l1) 1 l2) 2 2) 3 l4) 4 l5))), (h3, .inr (0, [.ref h4, .int 0, .int 0, .int 0])), (h4, .inl (k2, 1, .inl f0)), (q102, .inr (1, [.ref q103, .int 0, .int 0, .int 1])), (q103, .inl (cq104, 16, .inl f105))]) (w1 := []) hP hD [] [0, 1, 2, 3, 4, 5, 6] rfl rfl (by decide) (by decide) hk1 hFc hP1 hD1
    generalize H1 = H at hP hS ⊢
    have hP : va_P (dC, dI) vwCl [(h0, .inr (9, [.int 0, .ref h1, .ref z0, .ref z1, .int 0, .int 0, .int 0])), (h1, .inl (k0, 4, .inr (.inr (.inr (.inr (va_up (va_up (va_up (va_up (fun _ => none) 0 (some ge5)) 1 (some ge5)) 2 (some ge5)) 3 (some ge5))))))), (h2, .inl (k1, 5, .inl (upd (upd (upd (upd (upd (fun _ => 0) 0 l1) 1 l2) 2 2) 3 l4) 4 l5))), (h3, .inr (0, [.ref h4, .int 0, .int 0, .int 0])), (h4, .inl (k2, 1, .inl f0)), (q102, .inr (1, [.ref q103, .int 0, .int 0, .int 1])), (q103, .inl (cq104, 16, .inl f105))] H := hP
    have hD : va_D A [(h0, .inr (9, [.int 0, .ref h1, .ref z0, .ref z1, .int 0, .int 0, .int 0])), (h1, .inl (k0, 4, .inr (.inr (.inr (.inr (va_up (va_up (va_up (va_up (fun _ => none) 0 (some ge5)) 1 (some ge5)) 2 (some ge5)) 3 (some ge5))))))), (h2, .inl (k1, 5, .inl (upd (upd (upd (upd (upd (fun _ => 0) 0 l1) 1 l2) 2 2) 3 l4) 4 l5))), (h3, .inr (0, [.ref h4, .int 0, .int 0, .int 0])), (h4, .inl (k2, 1, .inl f0)), (q102, .inr (1, [.ref q103, .int 0, .int 0, .int 1])), (q103, .inl (cq104, 16, .inl f105))] := hD
    have hPc := hP.sub (ws' := [(q102, .inr (1, [.ref q103, .int 0, .int 0, .int 1])), (q103, .inl (cq104, 16, .inl f105))]) [5, 6] rfl
    have hDc := hD.sub (ws' := [(q102, .inr (1, [.ref q103, .int 0, .int 0, .int 1])), (q103, .inl (cq104, 16, .inl f105))]) [5, 6] (by decide) rfl
    have hKc := hK.sub (tys' := [(cq104, .byte)]) [3] rfl
    have hFc := va_free (wc := [(q102, .inr (1, [.ref q103, .int 0, .int 0, .int 1])), (q103, .inl (cq104, 16, .inl f105))]) hD hS hA [5, 6] rfl
    refine va_callr (va_runV (As := [.int 99]) (rest := []) ⟨hx, hb, hml, hown, hts⟩ (kx_J4_append_cf468_6 l dC dI ge5 gea gv5 gva gde gic gi0 q102 q103 cq104 H.size f105 f105_t) (cwV 1 hts gX5_type_J4_append_cf468 rfl rfl rfl (by decide +kernel) ⟨Nat.le_of_ble_eq_true rfl, Nat.le_of_ble_eq_true rfl⟩) ⟨fun a U g mk q => by obtain ⟨q0, q1, qP, qK, qD, qG⟩ := q; exact ⟨q0, q1, qP, va_K.moved (u := U) (U := U.calling g mk a) (Vm.Alike.refl U.vm) qK, qD, gv.fb qG⟩, va_recv hKc hPc (ci := 1) (q0 := 0) rfl rfl, fun U hU hW => ⟨rfl, by rw [hU], by rw [hU]; exact hPc, va_K.moved hW.alike hKc, hDc.weaken (fun _ _ _ _ => trivial), gv.pass hW hU hS hFc hG⟩⟩ rfl rfl hl.1 rfl (lv_room (Nat.le_of_ble_eq_true rfl)) dX5_type_110 ⟨Nat.le_of_ble_eq_true rfl, Nat.le_of_ble_eq_true rfl⟩) hS (fun q _ h => hFc q h) hFc (fun u ra t H1 locs ht hvm hw hB hz1 hk1 hS => ?_)
    obtain ⟨f106, f106_t, hra, hP1, hK1, hD1⟩ := hB
    rw [hra]
    rw [ht] at hP1
    have hK1 := va_K.moved hvm.symm hK1
    obtain ⟨hP, hD⟩ := va_join (wr := [(h0, .inr (9, [.int 0, .ref h1, .ref z0, .ref z1, .int 0, .int 0, .int 0])), (h1, .inl (k0, 4, .inr (.inr (.inr (.inr (va_up (va_up (va_up (va_up (fun _ => none) 0 (some ge5)) 1 (some ge5)) 2 (some ge5)) 3 (some ge5))))))), (h2, .inl (k1, 5, .inl (upd (upd (upd (upd (upd (fun _ => 0) 0 l1) 1 l2) 2 2) 3 l4) 4 l5))), (h3, .inr (0, [.ref h4, .int 0, .int 0, .int 0])), (h4, .inl (k2, 1, .inl f0))]) (w1 := [(q102, .inr (1, [.ref q103, .int 0, .int 0, .int 2])), (q103, .inl (cq104, 16, .inl f106))]) hP hD [5, 6] [0, 1, 2, 3, 4] rfl rfl (by decide) (by decide) hk1 hFc hP1 hD1
    generalize H1 = H at hP hS ⊢
    have hP : va_P (dC, dI) vwCl [(h0, .inr (9, [.int 0, .ref h1, .ref z0, .ref z1, .int 0, .int 0, .int 0])), (h1, .inl (k0, 4, .inr (.inr (.inr (.inr (va_up (va_up (va_up (va_up (fun _ => none) 0 (some ge5)) 1 (some ge5)) 2 (some ge5)) 3 (some ge5))))))), (h2, .inl (k1, 5, .inl (upd (upd (upd (upd (upd (fun _ => 0) 0 l1) 1 l2) 2 2) 3 l4) 4 l5))), (h3, .inr (0, [.ref h4, .int 0, .int 0, .int 0])), (h4, .inl (k2, 1, .inl f0)), (q102, .inr (1, [.ref q103, .int 0, .int 0, .int 2])), (q103, .inl (cq104, 16, .inl f106))] H := hP
    have hD : va_D A [(h0, .inr (9, [.int 0, .ref h1, .ref z0, .ref z1, .int 0, .int 0, .int 0])), (h1, .inl (k0, 4, .inr (.inr (.inr (.inr (va_up (va_up (va_up (va_up (fun _ => none) 0 (some ge5)) 1 (some ge5)) 2 (some ge5)) 3 (some ge5))))))), (h2, .inl (k1, 5, .inl (upd (upd (upd (upd (upd (fun _ => 0) 0 l1) 1 l2) 2 2) 3 l4) 4 l5))), (h3, .inr (0, [.ref h4, .int 0, .int 0, .int 0])), (h4, .inl (k2, 1, .inl f0)), (q102, .inr (1, [.ref q103, .int 0, .int 0, .int 2])), (q103, .inl (cq104, 16, .inl f106))] := hD
    have hPc := hP.sub (ws' := [(q102, .inr (1, [.ref q103, .int 0, .int 0, .int 2])), (q103, .inl (cq104, 16, .inl f106))]) [5, 6] rfl
    have hDc := hD.sub (ws' := [(q102, .inr (1, [.ref q103, .int 0, .int 0, .int 2])), (q103, .inl (cq104, 16, .inl f106))]) [5, 6] (by decide) rfl
    have hKc := hK.sub (tys' := [(cq104, .byte)]) [3] rfl
    have hFc := va_free (wc := [(q102, .inr (1, [.ref q103, .int 0, .int 0, .int 2])), (q103, .inl (cq104, 16, .inl f106))]) hD hS hA [5, 6] rfl
    refine va_callr (va_runV (As := []) (rest := []) ⟨hx, hb, hml, hown, hts⟩ (kx_J4_toString_0e30d_2 l dC dI ge5 gea gv5 gva gde gic gi0 q102 q103 cq104 H.size f106 f106_t) (cwV 0 hts gX5_type_J4_toString_0e30d rfl rfl rfl (by decide +kernel) ⟨Nat.le_of_ble_eq_true rfl, Nat.le_of_ble_eq_true rfl⟩) ⟨fun a U g mk q => by obtain ⟨q0, q1, qP, qK, qD, qG⟩ := q; exact ⟨q0, q1, qP, va_K.moved (u := U) (U := U.calling g mk a) (Vm.Alike.refl U.vm) qK, qD, gv.fb qG⟩, va_recv hKc hPc (ci := 1) (q0 := 0) rfl rfl, fun U hU hW => ⟨rfl, by rw [hU], by rw [hU]; exact hPc, va_K.moved hW.alike hKc, hDc.weaken (fun _ _ _ _ => trivial), gv.pass hW hU hS hFc hG⟩⟩ rfl rfl hl.1 rfl (lv_room (Nat.le_of_ble_eq_true rfl)) dX5_type_113 ⟨Nat.le_of_ble_eq_true rfl, Nat.le_of_ble_eq_true rfl⟩) hS (fun q _ h => hFc q h) hFc (fun u ra t H1 locs ht hvm hw hB hz1 hk1 hS => ?_)
    obtain ⟨q107, q108, cq109, f110, f110_t, hra, hP1, hK1, hD1⟩ := hB
    rw [hra]
    rw [ht] at hP1
    have hK1 := va_K.moved hvm.symm hK1
    obtain ⟨hP, hD⟩ := va_join (wr := [(h0, .inr (9, [.int 0, .ref h1, .ref z0, .ref z1, .int 0, .int 0, .int 0])), (h1, .inl (k0, 4, .inr (.inr (.inr (.inr (va_up (va_up (va_up (va_up (fun _ => none) 0 (some ge5)) 1 (some ge5)) 2 (some ge5)) 3 (some ge5))))))), (h2, .inl (k1, 5, .inl (upd (upd (upd (upd (upd (fun _ => 0) 0 l1) 1 l2) 2 2) 3 l4) 4 l5))), (h3, .inr (0, [.ref h4, .int 0, .int 0, .int 0])), (h4, .inl (k2, 1, .inl f0))]) (w1 := [(q102, .inr (1, [.ref q103, .int 0, .int 0, .int 2])), (q103, .inl (cq104, 16, .inl f106)), (q107, .inr (0, [.ref q108, .int 0, .int 0, .int 0])), (q108, .inl (cq109, 2, .inl f110))]) hP hD [5, 6] [0, 1, 2, 3, 4] rfl rfl (by decide) (by decide) hk1 hFc hP1 hD1
    have hK := hK.app (hK1.sub (tys' := [(cq109, .byte)]) [1] rfl)
    generalize H1 = H at hP hS ⊢
    have hK : va_K (dC, dI) vwCl [(k0, .object "java/lang/String"), (k1, .int), (k2, .byte), (cq104, .byte), (cq109, .byte)] s := hK
    have hP : va_P (dC, dI) vwCl [(h0, .inr (9, [.int 0, .ref h1, .ref z0, .ref z1, .int 0, .int 0, .int 0])), (h1, .inl (k0, 4, .inr (.inr (.inr (.inr (va_up (va_up (va_up (va_up (fun _ => none) 0 (some ge5)) 1 (some ge5)) 2 (some ge5)) 3 (some ge5))))))), (h2, .inl (k1, 5, .inl (upd (upd (upd (upd (upd (fun _ => 0) 0 l1) 1 l2) 2 2) 3 l4) 4 l5))), (h3, .inr (0, [.ref h4, .int 0, .int 0, .int 0])), (h4, .inl (k2, 1, .inl f0)), (q102, .inr (1, [.ref q103, .int 0, .int 0, .int 2])), (q103, .inl (cq104, 16, .inl f106)), (q107, .inr (0, [.ref q108, .int 0, .int 0, .int 0])), (q108, .inl (cq109, 2, .inl f110))] H := hP
    have hD : va_D A [(h0, .inr (9, [.int 0, .ref h1, .ref z0, .ref z1, .int 0, .int 0, .int 0])), (h1, .inl (k0, 4, .inr (.inr (.inr (.inr (va_up (va_up (va_up (va_up (fun _ => none) 0 (some ge5)) 1 (some ge5)) 2 (some ge5)) 3 (some ge5))))))), (h2, .inl (k1, 5, .inl (upd (upd (upd (upd (upd (fun _ => 0) 0 l1) 1 l2) 2 2) 3 l4) 4 l5))), (h3, .inr (0, [.ref h4, .int 0, .int 0, .int 0])), (h4, .inl (k2, 1, .inl f0)), (q102, .inr (1, [.ref q103, .int 0, .int 0, .int 2])), (q103, .inl (cq104, 16, .inl f106)), (q107, .inr (0, [.ref q108, .int 0, .int 0, .int 0])), (q108, .inl (cq109, 2, .inl f110))] := hD
    refine W.widen (k := 9) (n := 56) (by omega) (by omega) ?_
    refine lv_astore (lv' := [(9, .ref q107), (8, .int 1), (13, .int 2), (0, .ref h0), (1, .int rp), (7, .ref h2), (10, .ref h2), (11, .int 5), (12, .int 2)]) hx hb dX5_type_116 hl (by decide) rfl (fun ls hl => ?_)
    refine lv_iinc (v := 3) (lv' := [(12, .int 3), (9, .ref q107), (8, .int 1), (13, .int 2), (0, .ref h0), (1, .int rp), (7, .ref h2), (10, .ref h2), (11, .int 5)]) hx hb dX5_type_118 hl (k := 8) rfl (by decide) (by decide) rfl (fun ls hl => ?_)
    refine lv_goto (tgt := 47) hx hb dX5_type_121 (by decide) ?_
    have hP := hP.sub (ws' := [(h0, .inr (9, [.int 0, .ref h1, .ref z0, .ref z1, .int 0, .int 0, .int 0])), (h1, .inl (k0, 4, .inr (.inr (.inr (.inr (va_up (va_up (va_up (va_up (fun _ => none) 0 (some ge5)) 1 (some ge5)) 2 (some ge5)) 3 (some ge5))))))), (h2, .inl (k1, 5, .inl (upd (upd (upd (upd (upd (fun _ => 0) 0 l1) 1 l2) 2 2) 3 l4) 4 l5))), (q107, .inr (0, [.ref q108, .int 0, .int 0, .int 0])), (q108, .inl (cq109, 2, .inl f110))]) [0, 1, 2, 7, 8] rfl
    have hD := hD.sub (ws' := [(h0, .inr (9, [.int 0, .ref h1, .ref z0, .ref z1, .int 0, .int 0, .int 0])), (h1, .inl (k0, 4, .inr (.inr (.inr (.inr (va_up (va_up (va_up (va_up (fun _ => none) 0 (some ge5)) 1 (some ge5)) 2 (some ge5)) 3 (some ge5))))))), (h2, .inl (k1, 5, .inl (upd (upd (upd (upd (upd (fun _ => 0) 0 l1) 1 l2) 2 2) 3 l4) 4 l5))), (q107, .inr (0, [.ref q108, .int 0, .int 0, .int 0])), (q108, .inl (cq109, 2, .inl f110))]) [0, 1, 2, 7, 8] (by decide) rfl
    have hK := hK.sub (tys' := [(k0, .object "java/lang/String"), (k1, .int), (cq109, .byte)]) [0, 1, 4] rfl
    have hl := lv_sub hl [4, 5, 6, 2, 1, 7, 8, 0] (show lv_pick [(12, .int 3), (9, .ref q107), (8, .int 1), (13, .int 2), (0, .ref h0), (1, .int rp), (7, .ref h2), (10, .ref h2), (11, .int 5)] [4, 5, 6, 2, 1, 7, 8, 0] = [(0, .ref h0), (1, .int rp), (7, .ref h2), (8, .int 1), (9, .ref q107), (10, .ref h2), (11, .int 5), (12, .int 3)] from rfl)
    exact kx_X5_type_h321 f110_t hR hx hb hr hml hown hts hlocks hA hG hS hK hP hD hl
  · have hR : kz_ty rp 2 1 [l4, l5] = (R, v) := (kz_ty_g (by decide) (by decide)).symm.trans hR
    refine lv_iload hx hb dX5_type_47 (lv_at hl 7 rfl) ?_
    refine lv_iload hx hb dX5_type_49 (lv_at hl 6 rfl) ?_
    refine lv_icmp_ge (tgt := 124) hx hb dX5_type_51 (by decide) (fun c9 => absurd c9 (by decide)) (fun _ => ?_)
    refine lv_aload hx hb dX5_type_54 (lv_at hl 5 rfl) ?_
    refine lv_iload hx hb dX5_type_56 (lv_at hl 7 rfl) ?_
    refine va_iald (D := (dC, dI)) hx hb hK hP 2 1 rfl rfl (by unfold vp_in; decide) dX5_type_58 ?_
    refine W.eq (g2 := F0 m 59 ls [.int 3]) rfl ?_
    refine lv_istore (lv' := [(13, .int 3), (0, .ref h0), (1, .int rp), (7, .ref h2), (8, .int 1), (9, .ref h3), (10, .ref h2), (11, .int 5), (12, .int 2)]) hx hb dX5_type_59 hl (by decide) rfl (fun ls hl => ?_)
    refine lv_iload hx hb dX5_type_61 (lv_at hl 4 rfl) ?_
    refine lv_iload hx hb dX5_type_63 (lv_at hl 0 rfl) ?_
    refine lv_iconst (v := (-1)) hx hb dX5_type_65 (by decide) ?_
    refine lv_iconst (v := 3) hx hb dX5_type_66 (by decide) ?_
    have hPc := hP.sub (ws' := []) [] rfl
    have hDc := hD.sub (ws' := []) [] (by decide) rfl
    have hKc := hK.sub (tys' := []) [] rfl
    have hFc := va_free (wc := []) hD hS hA [] rfl
    refine va_calli (va_runS (As := [.int 3, .int (-1), .int 3]) (rest := [.int 1]) ⟨hx, hb, hml, hown, hts⟩ (kx_X5_isIn_13 l dC dI H.size) (cwS 3 hts gX5_type_X5_isIn rfl rfl rfl (by decide +kernel) ⟨Nat.le_of_ble_eq_true rfl, Nat.le_of_ble_eq_true rfl⟩) ⟨fun a U g mk q => by obtain ⟨q0, q1, qP, qK, qD⟩ := q; exact ⟨q0, q1, qP, va_K.moved (u := U) (U := U.calling g mk a) (Vm.Alike.refl U.vm) qK, qD⟩, fun U hU hW => ⟨rfl, by rw [hU], by rw [hU]; exact hPc, va_K.moved hW.alike hKc, hDc.weaken (fun _ _ _ _ => trivial)⟩⟩ rfl rfl hl.1 rfl (lv_room (Nat.le_of_ble_eq_true rfl)) dX5_type_67 ⟨Nat.le_of_ble_eq_true rfl, Nat.le_of_ble_eq_true rfl⟩) hS (fun q _ h => hFc q h) hFc (fun r9 u t H1 locs ht hvm hw hB hz1 hk1 hS => ?_)
    obtain rfl := hw
    obtain ⟨hP1, hK1, hD1⟩ := hB
    rw [ht] at hP1
    have hK1 := va_K.moved hvm.symm hK1
    obtain ⟨hP, hD⟩ := va_join (wr := [(h0, .inr (9, [.int 0, .ref h1, .ref z0, .ref z1, .int 0, .int 0, .int 0])), (h1, .inl (k0, 4, .inr (.inr (.inr (.inr (va_up (va_up (va_up (va_up (fun _ => none) 0 (some ge5)) 1 (some ge5)) 2 (some ge5)) 3 (some ge5))))))), (h2, .inl (k1, 5, .inl (upd (upd (upd (upd (upd (fun _ => 0) 0 l1) 1 l2) 2 3) 3 l4) 4 l5))), (h3, .inr (0, [.ref h4, .int 0, .int 0, .int 0])), (h4, .inl (k2, 1, .inl f0))]) (w1 := []) hP hD [] [0, 1, 2, 3, 4] rfl rfl (by decide) (by decide) hk1 hFc hP1 hD1
    generalize H1 = H at hP hS ⊢
    have hP : va_P (dC, dI) vwCl [(h0, .inr (9, [.int 0, .ref h1, .ref z0, .ref z1, .int 0, .int 0, .int 0])), (h1, .inl (k0, 4, .inr (.inr (.inr (.inr (va_up (va_up (va_up (va_up (fun _ => none) 0 (some ge5)) 1 (some ge5)) 2 (some ge5)) 3 (some ge5))))))), (h2, .inl (k1, 5, .inl (upd (upd (upd (upd (upd (fun _ => 0) 0 l1) 1 l2) 2 3) 3 l4) 4 l5))), (h3, .inr (0, [.ref h4, .int 0, .int 0, .int 0])), (h4, .inl (k2, 1, .inl f0))] H := hP
    have hD : va_D A [(h0, .inr (9, [.int 0, .ref h1, .ref z0, .ref z1, .int 0, .int 0, .int 0])), (h1, .inl (k0, 4, .inr (.inr (.inr (.inr (va_up (va_up (va_up (va_up (fun _ => none) 0 (some ge5)) 1 (some ge5)) 2 (some ge5)) 3 (some ge5))))))), (h2, .inl (k1, 5, .inl (upd (upd (upd (upd (upd (fun _ => 0) 0 l1) 1 l2) 2 3) 3 l4) 4 l5))), (h3, .inr (0, [.ref h4, .int 0, .int 0, .int 0])), (h4, .inl (k2, 1, .inl f0))] := hD
    refine lv_if_ne (tgt := 77) hx hb dX5_type_70 (by decide) (fun _ => ?_) (fun c9 => absurd c9 (by decide))
    refine lv_iconst (v := 0) hx hb dX5_type_77 (by decide) ?_
    refine lv_ior hx hb dX5_type_78 ?_
    refine lv_topi (fun y101 ey101 => ?_)
    obtain rfl : y101 = 1 := ey101.trans (by decide)
    refine lv_istore (lv' := [(8, .int 1), (13, .int 3), (0, .ref h0), (1, .int rp), (7, .ref h2), (9, .ref h3), (10, .ref h2), (11, .int 5), (12, .int 2)]) hx hb dX5_type_79 hl (by decide) rfl (fun ls hl => ?_)
    refine lv_iload hx hb dX5_type_81 (lv_at hl 1 rfl) ?_
    refine lv_iconst (v := 0) hx hb dX5_type_83 (by decide) ?_
    refine lv_iconst (v := 3) hx hb dX5_type_84 (by decide) ?_
    have hPc := hP.sub (ws' := []) [] rfl
    have hDc := hD.sub (ws' := []) [] (by decide) rfl
    have hKc := hK.sub (tys' := []) [] rfl
    have hFc := va_free (wc := []) hD hS hA [] rfl
    refine va_calli (va_runS (As := [.int 3, .int 0, .int 3]) (rest := []) ⟨hx, hb, hml, hown, hts⟩ (kx_X5_isIn_14 l dC dI H.size) (cwS 3 hts gX5_type_X5_isIn rfl rfl rfl (by decide +kernel) ⟨Nat.le_of_ble_eq_true rfl, Nat.le_of_ble_eq_true rfl⟩) ⟨fun a U g mk q => by obtain ⟨q0, q1, qP, qK, qD⟩ := q; exact ⟨q0, q1, qP, va_K.moved (u := U) (U := U.calling g mk a) (Vm.Alike.refl U.vm) qK, qD⟩, fun U hU hW => ⟨rfl, by rw [hU], by rw [hU]; exact hPc, va_K.moved hW.alike hKc, hDc.weaken (fun _ _ _ _ => trivial)⟩⟩ rfl rfl hl.1 rfl (lv_room (Nat.le_of_ble_eq_true rfl)) dX5_type_85 ⟨Nat.le_of_ble_eq_true rfl, Nat.le_of_ble_eq_true rfl⟩) hS (fun q _ h => hFc q h) hFc (fun r9 u t H1 locs ht hvm hw hB hz1 hk1 hS => ?_)
    obtain rfl := hw
    obtain ⟨hP1, hK1, hD1⟩ := hB
    rw [ht] at hP1
    have hK1 := va_K.moved hvm.symm hK1
    obtain ⟨hP, hD⟩ := va_join (wr := [(h0, .inr (9, [.int 0, .ref h1, .ref z0, .ref z1, .int 0, .int 0, .int 0])), (h1, .inl (k0, 4, .inr (.inr (.inr (.inr (va_up (va_up (va_up (va_up (fun _ => none) 0 (some ge5)) 1 (some ge5)) 2 (some ge5)) 3 (some ge5))))))), (h2, .inl (k1, 5, .inl (upd (upd (upd (upd (upd (fun _ => 0) 0 l1) 1 l2) 2 3) 3 l4) 4 l5))), (h3, .inr (0, [.ref h4, .int 0, .int 0, .int 0])), (h4, .inl (k2, 1, .inl f0))]) (w1 := []) hP hD [] [0, 1, 2, 3, 4] rfl rfl (by decide) (by decide) hk1 hFc hP1 hD1
    generalize H1 = H at hP hS ⊢
    have hP : va_P (dC, dI) vwCl [(h0, .inr (9, [.int 0, .ref h1, .ref z0, .ref z1, .int 0, .int 0, .int 0])), (h1, .inl (k0, 4, .inr (.inr (.inr (.inr (va_up (va_up (va_up (va_up (fun _ => none) 0 (some ge5)) 1 (some ge5)) 2 (some ge5)) 3 (some ge5))))))), (h2, .inl (k1, 5, .inl (upd (upd (upd (upd (upd (fun _ => 0) 0 l1) 1 l2) 2 3) 3 l4) 4 l5))), (h3, .inr (0, [.ref h4, .int 0, .int 0, .int 0])), (h4, .inl (k2, 1, .inl f0))] H := hP
    have hD : va_D A [(h0, .inr (9, [.int 0, .ref h1, .ref z0, .ref z1, .int 0, .int 0, .int 0])), (h1, .inl (k0, 4, .inr (.inr (.inr (.inr (va_up (va_up (va_up (va_up (fun _ => none) 0 (some ge5)) 1 (some ge5)) 2 (some ge5)) 3 (some ge5))))))), (h2, .inl (k1, 5, .inl (upd (upd (upd (upd (upd (fun _ => 0) 0 l1) 1 l2) 2 3) 3 l4) 4 l5))), (h3, .inr (0, [.ref h4, .int 0, .int 0, .int 0])), (h4, .inl (k2, 1, .inl f0))] := hD
    refine lv_if_eq (tgt := 118) hx hb dX5_type_88 (by decide) (fun c9 => absurd c9 (by decide)) (fun _ => ?_)
    refine va_new (ci := 1) (fs := [.null, .int 0, .int 0, .int 0]) (C := RJ4) (T := TJ4) (N := 4) hx hb hts (by decide +kernel) tyJ4 tyJ4_ok hown (hts (.classLink RX5 49 RJ4) (by decide +kernel)) (hts (.instantiable RJ4 4) (by decide +kernel)) (hts (.initialized RJ4) (by decide +kernel)) hK hP hD hS hA rfl (fun j hj => by rcases (show j = 0 ∨ j = 1 ∨ j = 2 ∨ j = 3 by omega) with rfl | rfl | rfl | rfl <;> rfl) (Nat.le_of_ble_eq_true rfl) (Nat.le_of_ble_eq_true rfl) dX5_type_91 (fun q102 H hP hD hS => ?_)
    have hP : va_P (dC, dI) vwCl [(h0, .inr (9, [.int 0, .ref h1, .ref z0, .ref z1, .int 0, .int 0, .int 0])), (h1, .inl (k0, 4, .inr (.inr (.inr (.inr (va_up (va_up (va_up (va_up (fun _ => none) 0 (some ge5)) 1 (some ge5)) 2 (some ge5)) 3 (some ge5))))))), (h2, .inl (k1, 5, .inl (upd (upd (upd (upd (upd (fun _ => 0) 0 l1) 1 l2) 2 3) 3 l4) 4 l5))), (h3, .inr (0, [.ref h4, .int 0, .int 0, .int 0])), (h4, .inl (k2, 1, .inl f0)), (q102, .inr (1, [.null, .int 0, .int 0, .int 0]))] H := hP
    have hD : va_D A [(h0, .inr (9, [.int 0, .ref h1, .ref z0, .ref z1, .int 0, .int 0, .int 0])), (h1, .inl (k0, 4, .inr (.inr (.inr (.inr (va_up (va_up (va_up (va_up (fun _ => none) 0 (some ge5)) 1 (some ge5)) 2 (some ge5)) 3 (some ge5))))))), (h2, .inl (k1, 5, .inl (upd (upd (upd (upd (upd (fun _ => 0) 0 l1) 1 l2) 2 3) 3 l4) 4 l5))), (h3, .inr (0, [.ref h4, .int 0, .int 0, .int 0])), (h4, .inl (k2, 1, .inl f0)), (q102, .inr (1, [.null, .int 0, .int 0, .int 0]))] := hD
    refine W.widen (k := 6) (n := 34) (by omega) (by omega) ?_
    refine lv_dup hx hb dX5_type_94 rfl ?_
    have hPc := hP.sub (ws' := [(q102, .inr (1, [.null, .int 0, .int 0, .int 0]))]) [5] rfl
    have hDc := hD.sub (ws' := [(q102, .inr (1, [.null, .int 0, .int 0, .int 0]))]) [5] (by decide) rfl
    have hKc := hK.sub (tys' := []) [] rfl
    have hFc := va_free (wc := [(q102, .inr (1, [.null, .int 0, .int 0, .int 0]))]) hD hS hA [5] rfl
    refine va_callv (va_runI (As := []) (rest := [.ref q102]) ⟨hx, hb, hml, hown, hts⟩ (kx_J4_init_da8c8_0 l dC dI ge5 gea gv5 gva gde gic gi0 q102 H.size) (cwI 0 hts gX5_type_J4_init_da8c8 rfl rfl rfl (hts (.initialized RJ4) (by decide +kernel)) (hts (.methodLink RX5 51 yJ4_init_da8c8) (by decide +kernel)) (hts (.instanceMethod yJ4_init_da8c8) (by decide +kernel)) rfl (by decide +kernel) ⟨Nat.le_of_ble_eq_true rfl, Nat.le_of_ble_eq_true rfl⟩) ⟨fun a U g mk q => by obtain ⟨q0, q1, qP, qK, qD, qG⟩ := q; exact ⟨q0, q1, qP, va_K.moved (u := U) (U := U.calling g mk a) (Vm.Alike.refl U.vm) qK, qD, gv.fb qG⟩, fun U hU hW => ⟨rfl, by rw [hU], by rw [hU]; exact hPc, va_K.moved hW.alike hKc, hDc.weaken (fun _ _ _ _ => trivial), gv.pass hW hU hS hFc hG⟩⟩ rfl rfl hl.1 rfl (lv_room (Nat.le_of_ble_eq_true rfl)) dX5_type_95 ⟨Nat.le_of_ble_eq_true rfl, Nat.le_of_ble_eq_true rfl⟩) hS (fun q _ h => hFc q h) hFc (fun u t H1 locs ht hvm hw hB hz1 hk1 hS => ?_)
    obtain ⟨q103, cq104, hP1, hK1, hD1⟩ := hB
    rw [ht] at hP1
    have hK1 := va_K.moved hvm.symm hK1
    obtain ⟨hP, hD⟩ := va_join (wr := [(h0, .inr (9, [.int 0, .ref h1, .ref z0, .ref z1, .int 0, .int 0, .int 0])), (h1, .inl (k0, 4, .inr (.inr (.inr (.inr (va_up (va_up (va_up (va_up (fun _ => none) 0 (some ge5)) 1 (some ge5)) 2 (some ge5)) 3 (some ge5))))))), (h2, .inl (k1, 5, .inl (upd (upd (upd (upd (upd (fun _ => 0) 0 l1) 1 l2) 2 3) 3 l4) 4 l5))), (h3, .inr (0, [.ref h4, .int 0, .int 0, .int 0])), (h4, .inl (k2, 1, .inl f0))]) (w1 := [(q102, .inr (1, [.ref q103, .int 0, .int 0, .int 0])), (q103, .inl (cq104, 16, .inl (fun _ => 0)))]) hP hD [5] [0, 1, 2, 3, 4] rfl rfl (by decide) (by decide) hk1 hFc hP1 hD1
    have hK := hK.app (hK1.sub (tys' := [(cq104, .byte)]) [0] rfl)
    generalize H1 = H at hP hS ⊢
    have hK : va_K (dC, dI) vwCl [(k0, .object "java/lang/String"), (k1, .int), (k2, .byte), (cq104, .byte)] s := hK
    have hP : va_P (dC, dI) vwCl [(h0, .inr (9, [.int 0, .ref h1, .ref z0, .ref z1, .int 0, .int 0, .int 0])), (h1, .inl (k0, 4, .inr (.inr (.inr (.inr (va_up (va_up (va_up (va_up (fun _ => none) 0 (some ge5)) 1 (some ge5)) 2 (some ge5)) 3 (some ge5))))))), (h2, .inl (k1, 5, .inl (upd (upd (upd (upd (upd (fun _ => 0) 0 l1) 1 l2) 2 3) 3 l4) 4 l5))), (h3, .inr (0, [.ref h4, .int 0, .int 0, .int 0])), (h4, .inl (k2, 1, .inl f0)), (q102, .inr (1, [.ref q103, .int 0, .int 0, .int 0])), (q103, .inl (cq104, 16, .inl (fun _ => 0)))] H := hP
    have hD : va_D A [(h0, .inr (9, [.int 0, .ref h1, .ref z0, .ref z1, .int 0, .int 0, .int 0])), (h1, .inl (k0, 4, .inr (.inr (.inr (.inr (va_up (va_up (va_up (va_up (fun _ => none) 0 (some ge5)) 1 (some ge5)) 2 (some ge5)) 3 (some ge5))))))), (h2, .inl (k1, 5, .inl (upd (upd (upd (upd (upd (fun _ => 0) 0 l1) 1 l2) 2 3) 3 l4) 4 l5))), (h3, .inr (0, [.ref h4, .int 0, .int 0, .int 0])), (h4, .inl (k2, 1, .inl f0)), (q102, .inr (1, [.ref q103, .int 0, .int 0, .int 0])), (q103, .inl (cq104, 16, .inl (fun _ => 0)))] := hD
    refine W.widen (k := 7) (n := 50) (by omega) (by omega) ?_
    refine lv_aload hx hb dX5_type_98 (lv_at hl 5 rfl) ?_
    have hPc := hP.sub (ws' := [(h3, .inr (0, [.ref h4, .int 0, .int 0, .int 0])), (h4, .inl (k2, 1, .inl f0)), (q102, .inr (1, [.ref q103, .int 0, .int 0, .int 0])), (q103, .inl (cq104, 16, .inl (fun _ => 0)))]) [3, 4, 5, 6] rfl
    have hDc := hD.sub (ws' := [(h3, .inr (0, [.ref h4, .int 0, .int 0, .int 0])), (h4, .inl (k2, 1, .inl f0)), (q102, .inr (1, [.ref q103, .int 0, .int 0, .int 0])), (q103, .inl (cq104, 16, .inl (fun _ => 0)))]) [3, 4, 5, 6] (by decide) rfl
    have hKc := hK.sub (tys' := [(k2, .byte), (cq104, .byte)]) [2, 3] rfl
    have hFc := va_free (wc := [(h3, .inr (0, [.ref h4, .int 0, .int 0, .int 0])), (h4, .inl (k2, 1, .inl f0)), (q102, .inr (1, [.ref q103, .int 0, .int 0, .int 0])), (q103, .inl (cq104, 16, .inl (fun _ => 0)))]) hD hS hA [3, 4, 5, 6] rfl
    refine va_callr (va_runV (As := [.ref h3]) (rest := []) ⟨hx, hb, hml, hown, hts⟩ (kx_J4_append_15ec4_1 l dC dI ge5 gea gv5 gva gde gic gi0 h3 h4 q102 q103 k2 cq104 H.size f0 f0_t) (cwV 1 hts gX5_type_J4_append_15ec4 rfl rfl rfl (by decide +kernel) ⟨Nat.le_of_ble_eq_true rfl, Nat.le_of_ble_eq_true rfl⟩) ⟨fun a U g mk q => by obtain ⟨q0, q1, qP, qK, qD, qG⟩ := q; exact ⟨q0, q1, qP, va_K.moved (u := U) (U := U.calling g mk a) (Vm.Alike.refl U.vm) qK, qD, gv.fb qG⟩, va_recv hKc hPc (ci := 1) (q0 := 2) rfl rfl, fun U hU hW => ⟨rfl, by rw [hU], by rw [hU]; exact hPc, va_K.moved hW.alike hKc, hDc.weaken (fun _ _ _ _ => trivial), gv.pass hW hU hS hFc hG⟩⟩ rfl rfl hl.1 rfl (lv_room (Nat.le_of_ble_eq_true rfl)) dX5_type_100 ⟨Nat.le_of_ble_eq_true rfl, Nat.le_of_ble_eq_true rfl⟩) hS (fun q _ h => hFc q h) hFc (fun u ra t H1 locs ht hvm hw hB hz1 hk1 hS => ?_)
    obtain ⟨f105, f105_t, hra, hP1, hK1, hD1⟩ := hB
    rw [hra]
    rw [ht] at hP1
    have hK1 := va_K.moved hvm.symm hK1
    obtain ⟨hP, hD⟩ := va_join (wr := [(h0, .inr (9, [.int 0, .ref h1, .ref z0, .ref z1, .int 0, .int 0, .int 0])), (h1, .inl (k0, 4, .inr (.inr (.inr (.inr (va_up (va_up (va_up (va_up (fun _ => none) 0 (some ge5)) 1 (some ge5)) 2 (some ge5)) 3 (some ge5))))))), (h2, .inl (k1, 5, .inl (upd (upd (upd (upd (upd (fun _ => 0) 0 l1) 1 l2) 2 3) 3 l4) 4 l5)))]) (w1 := [(h3, .inr (0, [.ref h4, .int 0, .int 0, .int 0])), (h4, .inl (k2, 1, .inl f0)), (q102, .inr (1, [.ref q103, .int 0, .int 0, .int 1])), (q103, .inl (cq104, 16, .inl f105))]) hP hD [3, 4, 5, 6] [0, 1, 2] rfl rfl (by decide) (by decide) hk1 hFc hP1 hD1
    generalize H1 = H at hP hS ⊢
    have hP : va_P (dC, dI) vwCl [(h0, .inr (9, [.int 0, .ref h1, .ref z0, .ref z1, .int 0, .int 0, .int 0])), (h1, .inl (k0, 4, .inr (.inr (.inr (.inr (va_up (va_up (va_up (va_up (fun _ => none) 0 (some ge5)) 1 (some ge5)) 2 (some ge5)) 3 (some ge5))))))), (h2, .inl (k1, 5, .inl (upd (upd (upd (upd (upd (fun _ => 0) 0 l1) 1 l2) 2 3) 3 l4) 4 l5))), (h3, .inr (0, [.ref h4, .int 0, .int 0, .int 0])), (h4, .inl (k2, 1, .inl f0)), (q102, .inr (1, [.ref q103, .int 0, .int 0, .int 1])), (q103, .inl (cq104, 16, .inl f105))] H := hP
    have hD : va_D A [(h0, .inr (9, [.int 0, .ref h1, .ref z0, .ref z1, .int 0, .int 0, .int 0])), (h1, .inl (k0, 4, .inr (.inr (.inr (.inr (va_up (va_up (va_up (va_up (fun _ => none) 0 (some ge5)) 1 (some ge5)) 2 (some ge5)) 3 (some ge5))))))), (h2, .inl (k1, 5, .inl (upd (upd (upd (upd (upd (fun _ => 0) 0 l1) 1 l2) 2 3) 3 l4) 4 l5))), (h3, .inr (0, [.ref h4, .int 0, .int 0, .int 0])), (h4, .inl (k2, 1, .inl f0)), (q102, .inr (1, [.ref q103, .int 0, .int 0, .int 1])), (q103, .inl (cq104, 16, .inl f105))] := hD
    refine va_ldcS hx hb hown g_sa dX5_type_103 ?_
    refine lv_iload hx hb dX5_type_105 (lv_at hl 1 rfl) ?_
    have hPc := hP.sub (ws' := []) [] rfl
    have hDc := hD.sub (ws' := []) [] (by decide) rfl
    have hKc := hK.sub (tys' := []) [] rfl
    have hFc := va_free (wc := []) hD hS hA [] rfl
    refine va_calli (va_runV (As := [.int 3]) (rest := [.ref q102]) ⟨hx, hb, hml, hown, hts⟩ (kx_J0_charAt_5068e_3 l dC dI ge5 gea gv5 gva gde gic gi0 H.size) (cwV 1 hts gX5_type_J0_charAt_5068e rfl rfl rfl (by decide +kernel) ⟨Nat.le_of_ble_eq_true rfl, Nat.le_of_ble_eq_true rfl⟩) ⟨fun a U g mk q => by obtain ⟨q0, q1, qP, qK, qD, qG⟩ := q; exact ⟨q0, q1, qP, va_K.moved (u := U) (U := U.calling g mk a) (Vm.Alike.refl U.vm) qK, qD, gv.fb qG⟩, (by obtain ⟨cell, k1, k2, k3, -⟩ := g_oa.kept hS.2.1; exact ⟨cell, k1, k2, k3⟩), fun U hU hW => ⟨rfl, by rw [hU], by rw [hU]; exact hPc, va_K.moved hW.alike hKc, hDc.weaken (fun _ _ _ _ => trivial), gv.pass hW hU hS hFc hG⟩⟩ rfl rfl hl.1 rfl (lv_room (Nat.le_of_ble_eq_true rfl)) dX5_type_107 ⟨Nat.le_of_ble_eq_true rfl, Nat.le_of_ble_eq_true rfl⟩) hS (fun q _ h => hFc q h) hFc (fun r9 u t H1 locs ht hvm hw hB hz1 hk1 hS => ?_)
    obtain rfl := hw
    obtain ⟨hP1, hK1, hD1⟩ := hB
    rw [ht] at hP1
    have hK1 := va_K.moved hvm.symm hK1
    obtain ⟨hP, hD⟩ := va_join (wr := [(h0, .inr (9, [.int 0, .ref h1, .ref z0, .ref z1, .int 0, .int 0, .int 0])), (h1, .inl (k0, 4, .inr (.inr (.inr (.inr (va_up (va_up (va_up (va_up (fun _ => none) 0 (some ge5)) 1 (some ge5)) 2 (some ge5)) 3 (some ge5))))))), (h2, .inl (k1, 5, .inl (upd (upd (upd (upd (upd (fun _ => 0) 0 l1) 1 l2) 2 3) 3 l4) 4 l5))), (h3, .inr (0, [.ref h4, .int 0, .int 0, .int 0])), (h4, .inl (k2, 1, .inl f0)), (q102, .inr (1, [.ref q103, .int 0, .int 0, .int 1])), (q103, .inl (cq104, 16, .inl f105))]) (w1 := []) hP hD [] [0, 1, 2, 3, 4, 5, 6] rfl rfl (by decide) (by decide) hk1 hFc hP1 hD1
    generalize H1 = H at hP hS ⊢
    have hP : va_P (dC, dI) vwCl [(h0, .inr (9, [.int 0, .ref h1, .ref z0, .ref z1, .int 0, .int 0, .int 0])), (h1, .inl (k0, 4, .inr (.inr (.inr (.inr (va_up (va_up (va_up (va_up (fun _ => none) 0 (some ge5)) 1 (some ge5)) 2 (some ge5)) 3 (some ge5))))))), (h2, .inl (k1, 5, .inl (upd (upd (upd (upd (upd (fun _ => 0) 0 l1) 1 l2) 2 3) 3 l4) 4 l5))), (h3, .inr (0, [.ref h4, .int 0, .int 0, .int 0])), (h4, .inl (k2, 1, .inl f0)), (q102, .inr (1, [.ref q103, .int 0, .int 0, .int 1])), (q103, .inl (cq104, 16, .inl f105))] H := hP
    have hD : va_D A [(h0, .inr (9, [.int 0, .ref h1, .ref z0, .ref z1, .int 0, .int 0, .int 0])), (h1, .inl (k0, 4, .inr (.inr (.inr (.inr (va_up (va_up (va_up (va_up (fun _ => none) 0 (some ge5)) 1 (some ge5)) 2 (some ge5)) 3 (some ge5))))))), (h2, .inl (k1, 5, .inl (upd (upd (upd (upd (upd (fun _ => 0) 0 l1) 1 l2) 2 3) 3 l4) 4 l5))), (h3, .inr (0, [.ref h4, .int 0, .int 0, .int 0])), (h4, .inl (k2, 1, .inl f0)), (q102, .inr (1, [.ref q103, .int 0, .int 0, .int 1])), (q103, .inl (cq104, 16, .inl f105))] := hD
    have hPc := hP.sub (ws' := [(q102, .inr (1, [.ref q103, .int 0, .int 0, .int 1])), (q103, .inl (cq104, 16, .inl f105))]) [5, 6] rfl
    have hDc := hD.sub (ws' := [(q102, .inr (1, [.ref q103, .int 0, .int 0, .int 1])), (q103, .inl (cq104, 16, .inl f105))]) [5, 6] (by decide) rfl
    have hKc := hK.sub (tys' := [(cq104, .byte)]) [3] rfl
    have hFc := va_free (wc := [(q102, .inr (1, [.ref q103, .int 0, .int 0, .int 1])), (q103, .inl (cq104, 16, .inl f105))]) hD hS hA [5, 6] rfl
    refine va_callr (va_runV (As := [.int 100]) (rest := []) ⟨hx, hb, hml, hown, hts⟩ (kx_J4_append_cf468_7 l dC dI ge5 gea gv5 gva gde gic gi0 q102 q103 cq104 H.size f105 f105_t) (cwV 1 hts gX5_type_J4_append_cf468 rfl rfl rfl (by decide +kernel) ⟨Nat.le_of_ble_eq_true rfl, Nat.le_of_ble_eq_true rfl⟩) ⟨fun a U g mk q => by obtain ⟨q0, q1, qP, qK, qD, qG⟩ := q; exact ⟨q0, q1, qP, va_K.moved (u := U) (U := U.calling g mk a) (Vm.Alike.refl U.vm) qK, qD, gv.fb qG⟩, va_recv hKc hPc (ci := 1) (q0 := 0) rfl rfl, fun U hU hW => ⟨rfl, by rw [hU], by rw [hU]; exact hPc, va_K.moved hW.alike hKc, hDc.weaken (fun _ _ _ _ => trivial), gv.pass hW hU hS hFc hG⟩⟩ rfl rfl hl.1 rfl (lv_room (Nat.le_of_ble_eq_true rfl)) dX5_type_110 ⟨Nat.le_of_ble_eq_true rfl, Nat.le_of_ble_eq_true rfl⟩) hS (fun q _ h => hFc q h) hFc (fun u ra t H1 locs ht hvm hw hB hz1 hk1 hS => ?_)
    obtain ⟨f106, f106_t, hra, hP1, hK1, hD1⟩ := hB
    rw [hra]
    rw [ht] at hP1
    have hK1 := va_K.moved hvm.symm hK1
    obtain ⟨hP, hD⟩ := va_join (wr := [(h0, .inr (9, [.int 0, .ref h1, .ref z0, .ref z1, .int 0, .int 0, .int 0])), (h1, .inl (k0, 4, .inr (.inr (.inr (.inr (va_up (va_up (va_up (va_up (fun _ => none) 0 (some ge5)) 1 (some ge5)) 2 (some ge5)) 3 (some ge5))))))), (h2, .inl (k1, 5, .inl (upd (upd (upd (upd (upd (fun _ => 0) 0 l1) 1 l2) 2 3) 3 l4) 4 l5))), (h3, .inr (0, [.ref h4, .int 0, .int 0, .int 0])), (h4, .inl (k2, 1, .inl f0))]) (w1 := [(q102, .inr (1, [.ref q103, .int 0, .int 0, .int 2])), (q103, .inl (cq104, 16, .inl f106))]) hP hD [5, 6] [0, 1, 2, 3, 4] rfl rfl (by decide) (by decide) hk1 hFc hP1 hD1
    generalize H1 = H at hP hS ⊢
    have hP : va_P (dC, dI) vwCl [(h0, .inr (9, [.int 0, .ref h1, .ref z0, .ref z1, .int 0, .int 0, .int 0])), (h1, .inl (k0, 4, .inr (.inr (.inr (.inr (va_up (va_up (va_up (va_up (fun _ => none) 0 (some ge5)) 1 (some ge5)) 2 (some ge5)) 3 (some ge5))))))), (h2, .inl (k1, 5, .inl (upd (upd (upd (upd (upd (fun _ => 0) 0 l1) 1 l2) 2 3) 3 l4) 4 l5))), (h3, .inr (0, [.ref h4, .int 0, .int 0, .int 0])), (h4, .inl (k2, 1, .inl f0)), (q102, .inr (1, [.ref q103, .int 0, .int 0, .int 2])), (q103, .inl (cq104, 16, .inl f106))] H := hP
    have hD : va_D A [(h0, .inr (9, [.int 0, .ref h1, .ref z0, .ref z1, .int 0, .int 0, .int 0])), (h1, .inl (k0, 4, .inr (.inr (.inr (.inr (va_up (va_up (va_up (va_up (fun _ => none) 0 (some ge5)) 1 (some ge5)) 2 (some ge5)) 3 (some ge5))))))), (h2, .inl (k1, 5, .inl (upd (upd (upd (upd (upd (fun _ => 0) 0 l1) 1 l2) 2 3) 3 l4) 4 l5))), (h3, .inr (0, [.ref h4, .int 0, .int 0, .int 0])), (h4, .inl (k2, 1, .inl f0)), (q102, .inr (1, [.ref q103, .int 0, .int 0, .int 2])), (q103, .inl (cq104, 16, .inl f106))] := hD
    have hPc := hP.sub (ws' := [(q102, .inr (1, [.ref q103, .int 0, .int 0, .int 2])), (q103, .inl (cq104, 16, .inl f106))]) [5, 6] rfl
    have hDc := hD.sub (ws' := [(q102, .inr (1, [.ref q103, .int 0, .int 0, .int 2])), (q103, .inl (cq104, 16, .inl f106))]) [5, 6] (by decide) rfl
    have hKc := hK.sub (tys' := [(cq104, .byte)]) [3] rfl
    have hFc := va_free (wc := [(q102, .inr (1, [.ref q103, .int 0, .int 0, .int 2])), (q103, .inl (cq104, 16, .inl f106))]) hD hS hA [5, 6] rfl
    refine va_callr (va_runV (As := []) (rest := []) ⟨hx, hb, hml, hown, hts⟩ (kx_J4_toString_0e30d_2 l dC dI ge5 gea gv5 gva gde gic gi0 q102 q103 cq104 H.size f106 f106_t) (cwV 0 hts gX5_type_J4_toString_0e30d rfl rfl rfl (by decide +kernel) ⟨Nat.le_of_ble_eq_true rfl, Nat.le_of_ble_eq_true rfl⟩) ⟨fun a U g mk q => by obtain ⟨q0, q1, qP, qK, qD, qG⟩ := q; exact ⟨q0, q1, qP, va_K.moved (u := U) (U := U.calling g mk a) (Vm.Alike.refl U.vm) qK, qD, gv.fb qG⟩, va_recv hKc hPc (ci := 1) (q0 := 0) rfl rfl, fun U hU hW => ⟨rfl, by rw [hU], by rw [hU]; exact hPc, va_K.moved hW.alike hKc, hDc.weaken (fun _ _ _ _ => trivial), gv.pass hW hU hS hFc hG⟩⟩ rfl rfl hl.1 rfl (lv_room (Nat.le_of_ble_eq_true rfl)) dX5_type_113 ⟨Nat.le_of_ble_eq_true rfl, Nat.le_of_ble_eq_true rfl⟩) hS (fun q _ h => hFc q h) hFc (fun u ra t H1 locs ht hvm hw hB hz1 hk1 hS => ?_)
    obtain ⟨q107, q108, cq109, f110, f110_t, hra, hP1, hK1, hD1⟩ := hB
    rw [hra]
    rw [ht] at hP1
    have hK1 := va_K.moved hvm.symm hK1
    obtain ⟨hP, hD⟩ := va_join (wr := [(h0, .inr (9, [.int 0, .ref h1, .ref z0, .ref z1, .int 0, .int 0, .int 0])), (h1, .inl (k0, 4, .inr (.inr (.inr (.inr (va_up (va_up (va_up (va_up (fun _ => none) 0 (some ge5)) 1 (some ge5)) 2 (some ge5)) 3 (some ge5))))))), (h2, .inl (k1, 5, .inl (upd (upd (upd (upd (upd (fun _ => 0) 0 l1) 1 l2) 2 3) 3 l4) 4 l5))), (h3, .inr (0, [.ref h4, .int 0, .int 0, .int 0])), (h4, .inl (k2, 1, .inl f0))]) (w1 := [(q102, .inr (1, [.ref q103, .int 0, .int 0, .int 2])), (q103, .inl (cq104, 16, .inl f106)), (q107, .inr (0, [.ref q108, .int 0, .int 0, .int 0])), (q108, .inl (cq109, 2, .inl f110))]) hP hD [5, 6] [0, 1, 2, 3, 4] rfl rfl (by decide) (by decide) hk1 hFc hP1 hD1
    have hK := hK.app (hK1.sub (tys' := [(cq109, .byte)]) [1] rfl)
    generalize H1 = H at hP hS ⊢
    have hK : va_K (dC, dI) vwCl [(k0, .object "java/lang/String"), (k1, .int), (k2, .byte), (cq104, .byte), (cq109, .byte)] s := hK
    have hP : va_P (dC, dI) vwCl [(h0, .inr (9, [.int 0, .ref h1, .ref z0, .ref z1, .int 0, .int 0, .int 0])), (h1, .inl (k0, 4, .inr (.inr (.inr (.inr (va_up (va_up (va_up (va_up (fun _ => none) 0 (some ge5)) 1 (some ge5)) 2 (some ge5)) 3 (some ge5))))))), (h2, .inl (k1, 5, .inl (upd (upd (upd (upd (upd (fun _ => 0) 0 l1) 1 l2) 2 3) 3 l4) 4 l5))), (h3, .inr (0, [.ref h4, .int 0, .int 0, .int 0])), (h4, .inl (k2, 1, .inl f0)), (q102, .inr (1, [.ref q103, .int 0, .int 0, .int 2])), (q103, .inl (cq104, 16, .inl f106)), (q107, .inr (0, [.ref q108, .int 0, .int 0, .int 0])), (q108, .inl (cq109, 2, .inl f110))] H := hP
    have hD : va_D A [(h0, .inr (9, [.int 0, .ref h1, .ref z0, .ref z1, .int 0, .int 0, .int 0])), (h1, .inl (k0, 4, .inr (.inr (.inr (.inr (va_up (va_up (va_up (va_up (fun _ => none) 0 (some ge5)) 1 (some ge5)) 2 (some ge5)) 3 (some ge5))))))), (h2, .inl (k1, 5, .inl (upd (upd (upd (upd (upd (fun _ => 0) 0 l1) 1 l2) 2 3) 3 l4) 4 l5))), (h3, .inr (0, [.ref h4, .int 0, .int 0, .int 0])), (h4, .inl (k2, 1, .inl f0)), (q102, .inr (1, [.ref q103, .int 0, .int 0, .int 2])), (q103, .inl (cq104, 16, .inl f106)), (q107, .inr (0, [.ref q108, .int 0, .int 0, .int 0])), (q108, .inl (cq109, 2, .inl f110))] := hD
    refine W.widen (k := 9) (n := 56) (by omega) (by omega) ?_
    refine lv_astore (lv' := [(9, .ref q107), (8, .int 1), (13, .int 3), (0, .ref h0), (1, .int rp), (7, .ref h2), (10, .ref h2), (11, .int 5), (12, .int 2)]) hx hb dX5_type_116 hl (by decide) rfl (fun ls hl => ?_)
    refine lv_iinc (v := 3) (lv' := [(12, .int 3), (9, .ref q107), (8, .int 1), (13, .int 3), (0, .ref h0), (1, .int rp), (7, .ref h2), (10, .ref h2), (11, .int 5)]) hx hb dX5_type_118 hl (k := 8) rfl (by decide) (by decide) rfl (fun ls hl => ?_)
    refine lv_goto (tgt := 47) hx hb dX5_type_121 (by decide) ?_
    have hP := hP.sub (ws' := [(h0, .inr (9, [.int 0, .ref h1, .ref z0, .ref z1, .int 0, .int 0, .int 0])), (h1, .inl (k0, 4, .inr (.inr (.inr (.inr (va_up (va_up (va_up (va_up (fun _ => none) 0 (some ge5)) 1 (some ge5)) 2 (some ge5)) 3 (some ge5))))))), (h2, .inl (k1, 5, .inl (upd (upd (upd (upd (upd (fun _ => 0) 0 l1) 1 l2) 2 3) 3 l4) 4 l5))), (q107, .inr (0, [.ref q108, .int 0, .int 0, .int 0])), (q108, .inl (cq109, 2, .inl f110))]) [0, 1, 2, 7, 8] rfl
    have hD := hD.sub (ws' := [(h0, .inr (9, [.int 0, .ref h1, .ref z0, .ref z1, .int 0, .int 0, .int 0])), (h1, .inl (k0, 4, .inr (.inr (.inr (.inr (va_up (va_up (va_up (va_up (fun _ => none) 0 (some ge5)) 1 (some ge5)) 2 (some ge5)) 3 (some ge5))))))), (h2, .inl (k1, 5, .inl (upd (upd (upd (upd (upd (fun _ => 0) 0 l1) 1 l2) 2 3) 3 l4) 4 l5))), (q107, .inr (0, [.ref q108, .int 0, .int 0, .int 0])), (q108, .inl (cq109, 2, .inl f110))]) [0, 1, 2, 7, 8] (by decide) rfl
    have hK := hK.sub (tys' := [(k0, .object "java/lang/String"), (k1, .int), (cq109, .byte)]) [0, 1, 4] rfl
    have hl := lv_sub hl [4, 5, 6, 2, 1, 7, 8, 0] (show lv_pick [(12, .int 3), (9, .ref q107), (8, .int 1), (13, .int 3), (0, .ref h0), (1, .int rp), (7, .ref h2), (10, .ref h2), (11, .int 5)] [4, 5, 6, 2, 1, 7, 8, 0] = [(0, .ref h0), (1, .int rp), (7, .ref h2), (8, .int 1), (9, .ref q107), (10, .ref h2), (11, .int 5), (12, .int 3)] from rfl)
    exact kx_X5_type_h321 f110_t hR hx hb hr hml hown hts hlocks hA hG hS hK hP hD hl
  · have l3_l : (4 : Int) ≤ l3.toInt := by omega
    have l3_u : l3.toInt ≤ (2147483647 : Int) := by omega
    have hR : kz_ty rp 1 1 [l4, l5] = (R, v) := (kz_ty_b (by omega)).symm.trans hR
    refine lv_iload hx hb dX5_type_47 (lv_at hl 7 rfl) ?_
    refine lv_iload hx hb dX5_type_49 (lv_at hl 6 rfl) ?_
    refine lv_icmp_ge (tgt := 124) hx hb dX5_type_51 (by decide) (fun c9 => absurd c9 (by decide)) (fun _ => ?_)
    refine lv_aload hx hb dX5_type_54 (lv_at hl 5 rfl) ?_
    refine lv_iload hx hb dX5_type_56 (lv_at hl 7 rfl) ?_
    refine va_iald (D := (dC, dI)) hx hb hK hP 2 1 rfl rfl (by unfold vp_in; decide) dX5_type_58 ?_
    refine W.eq (g2 := F0 m 59 ls [.int l3]) rfl ?_
    refine lv_istore (lv' := [(13, .int l3), (0, .ref h0), (1, .int rp), (7, .ref h2), (8, .int 1), (9, .ref h3), (10, .ref h2), (11, .int 5), (12, .int 2)]) hx hb dX5_type_59 hl (by decide) rfl (fun ls hl => ?_)
    refine lv_iload hx hb dX5_type_61 (lv_at hl 4 rfl) ?_
    refine lv_iload hx hb dX5_type_63 (lv_at hl 0 rfl) ?_
    refine lv_iconst (v := (-1)) hx hb dX5_type_65 (by decide) ?_
    refine lv_iconst (v := 3) hx hb dX5_type_66 (by decide) ?_
    have hPc := hP.sub (ws' := []) [] rfl
    have hDc := hD.sub (ws' := []) [] (by decide) rfl
    have hKc := hK.sub (tys' := []) [] rfl
    have hFc := va_free (wc := []) hD hS hA [] rfl
    refine va_calli (va_runS (As := [.int l3, .int (-1), .int 3]) (rest := [.int 1]) ⟨hx, hb, hml, hown, hts⟩ (kx_X5_isIn_15 l dC dI H.size l3 l3_l l3_u) (cwS 3 hts gX5_type_X5_isIn rfl rfl rfl (by decide +kernel) ⟨Nat.le_of_ble_eq_true rfl, Nat.le_of_ble_eq_true rfl⟩) ⟨fun a U g mk q => by obtain ⟨q0, q1, qP, qK, qD⟩ := q; exact ⟨q0, q1, qP, va_K.moved (u := U) (U := U.calling g mk a) (Vm.Alike.refl U.vm) qK, qD⟩, fun U hU hW => ⟨rfl, by rw [hU], by rw [hU]; exact hPc, va_K.moved hW.alike hKc, hDc.weaken (fun _ _ _ _ => trivial)⟩⟩ rfl rfl hl.1 rfl (lv_room (Nat.le_of_ble_eq_true rfl)) dX5_type_67 ⟨Nat.le_of_ble_eq_true rfl, Nat.le_of_ble_eq_true rfl⟩) hS (fun q _ h => hFc q h) hFc (fun r9 u t H1 locs ht hvm hw hB hz1 hk1 hS => ?_)
    obtain rfl := hw
    obtain ⟨hP1, hK1, hD1⟩ := hB
    rw [ht] at hP1
    have hK1 := va_K.moved hvm.symm hK1
    obtain ⟨hP, hD⟩ := va_join (wr := [(h0, .inr (9, [.int 0, .ref h1, .ref z0, .ref z1, .int 0, .int 0, .int 0])), (h1, .inl (k0, 4, .inr (.inr (.inr (.inr (va_up (va_up (va_up (va_up (fun _ => none) 0 (some ge5)) 1 (some ge5)) 2 (some ge5)) 3 (some ge5))))))), (h2, .inl (k1, 5, .inl (upd (upd (upd (upd (upd (fun _ => 0) 0 l1) 1 l2) 2 l3) 3 l4) 4 l5))), (h3, .inr (0, [.ref h4, .int 0, .int 0, .int 0])), (h4, .inl (k2, 1, .inl f0))]) (w1 := []) hP hD [] [0, 1, 2, 3, 4] rfl rfl (by decide) (by decide) hk1 hFc hP1 hD1
    generalize H1 = H at hP hS ⊢
    have hP : va_P (dC, dI) vwCl [(h0, .inr (9, [.int 0, .ref h1, .ref z0, .ref z1, .int 0, .int 0, .int 0])), (h1, .inl (k0, 4, .inr (.inr (.inr (.inr (va_up (va_up (va_up (va_up (fun _ => none) 0 (some ge5)) 1 (some ge5)) 2 (some ge5)) 3 (some ge5))))))), (h2, .inl (k1, 5, .inl (upd (upd (upd (upd (upd (fun _ => 0) 0 l1) 1 l2) 2 l3) 3 l4) 4 l5))), (h3, .inr (0, [.ref h4, .int 0, .int 0, .int 0])), (h4, .inl (k2, 1, .inl f0))] H := hP
    have hD : va_D A [(h0, .inr (9, [.int 0, .ref h1, .ref z0, .ref z1, .int 0, .int 0, .int 0])), (h1, .inl (k0, 4, .inr (.inr (.inr (.inr (va_up (va_up (va_up (va_up (fun _ => none) 0 (some ge5)) 1 (some ge5)) 2 (some ge5)) 3 (some ge5))))))), (h2, .inl (k1, 5, .inl (upd (upd (upd (upd (upd (fun _ => 0) 0 l1) 1 l2) 2 l3) 3 l4) 4 l5))), (h3, .inr (0, [.ref h4, .int 0, .int 0, .int 0])), (h4, .inl (k2, 1, .inl f0))] := hD
    refine lv_if_ne (tgt := 77) hx hb dX5_type_70 (by decide) (fun c9 => absurd (by decide) c9) (fun _ => ?_)
    refine lv_iconst (v := 1) hx hb dX5_type_73 (by decide) ?_
    refine lv_goto (tgt := 78) hx hb dX5_type_74 (by decide) ?_
    refine lv_ior hx hb dX5_type_78 ?_
    refine lv_topi (fun y101 ey101 => ?_)
    obtain rfl : y101 = 1 := ey101.trans (by decide)
    refine lv_istore (lv' := [(8, .int 1), (13, .int l3), (0, .ref h0), (1, .int rp), (7, .ref h2), (9, .ref h3), (10, .ref h2), (11, .int 5), (12, .int 2)]) hx hb dX5_type_79 hl (by decide) rfl (fun ls hl => ?_)
    refine lv_iload hx hb dX5_type_81 (lv_at hl 1 rfl) ?_
    refine lv_iconst (v := 0) hx hb dX5_type_83 (by decide) ?_
    refine lv_iconst (v := 3) hx hb dX5_type_84 (by decide) ?_
    have hPc := hP.sub (ws' := []) [] rfl
    have hDc := hD.sub (ws' := []) [] (by decide) rfl
    have hKc := hK.sub (tys' := []) [] rfl
    have hFc := va_free (wc := []) hD hS hA [] rfl
    refine va_calli (va_runS (As := [.int l3, .int 0, .int 3]) (rest := []) ⟨hx, hb, hml, hown, hts⟩ (kx_X5_isIn_2 l dC dI H.size l3 l3_l l3_u) (cwS 3 hts gX5_type_X5_isIn rfl rfl rfl (by decide +kernel) ⟨Nat.le_of_ble_eq_true rfl, Nat.le_of_ble_eq_true rfl⟩) ⟨fun a U g mk q => by obtain ⟨q0, q1, qP, qK, qD⟩ := q; exact ⟨q0, q1, qP, va_K.moved (u := U) (U := U.calling g mk a) (Vm.Alike.refl U.vm) qK, qD⟩, fun U hU hW => ⟨rfl, by rw [hU], by rw [hU]; exact hPc, va_K.moved hW.alike hKc, hDc.weaken (fun _ _ _ _ => trivial)⟩⟩ rfl rfl hl.1 rfl (lv_room (Nat.le_of_ble_eq_true rfl)) dX5_type_85 ⟨Nat.le_of_ble_eq_true rfl, Nat.le_of_ble_eq_true rfl⟩) hS (fun q _ h => hFc q h) hFc (fun r9 u t H1 locs ht hvm hw hB hz1 hk1 hS => ?_)
    obtain rfl := hw
    obtain ⟨hP1, hK1, hD1⟩ := hB
    rw [ht] at hP1
    have hK1 := va_K.moved hvm.symm hK1
    obtain ⟨hP, hD⟩ := va_join (wr := [(h0, .inr (9, [.int 0, .ref h1, .ref z0, .ref z1, .int 0, .int 0, .int 0])), (h1, .inl (k0, 4, .inr (.inr (.inr (.inr (va_up (va_up (va_up (va_up (fun _ => none) 0 (some ge5)) 1 (some ge5)) 2 (some ge5)) 3 (some ge5))))))), (h2, .inl (k1, 5, .inl (upd (upd (upd (upd (upd (fun _ => 0) 0 l1) 1 l2) 2 l3) 3 l4) 4 l5))), (h3, .inr (0, [.ref h4, .int 0, .int 0, .int 0])), (h4, .inl (k2, 1, .inl f0))]) (w1 := []) hP hD [] [0, 1, 2, 3, 4] rfl rfl (by decide) (by decide) hk1 hFc hP1 hD1
    generalize H1 = H at hP hS ⊢
    have hP : va_P (dC, dI) vwCl [(h0, .inr (9, [.int 0, .ref h1, .ref z0, .ref z1, .int 0, .int 0, .int 0])), (h1, .inl (k0, 4, .inr (.inr (.inr (.inr (va_up (va_up (va_up (va_up (fun _ => none) 0 (some ge5)) 1 (some ge5)) 2 (some ge5)) 3 (some ge5))))))), (h2, .inl (k1, 5, .inl (upd (upd (upd (upd (upd (fun _ => 0) 0 l1) 1 l2) 2 l3) 3 l4) 4 l5))), (h3, .inr (0, [.ref h4, .int 0, .int 0, .int 0])), (h4, .inl (k2, 1, .inl f0))] H := hP
    have hD : va_D A [(h0, .inr (9, [.int 0, .ref h1, .ref z0, .ref z1, .int 0, .int 0, .int 0])), (h1, .inl (k0, 4, .inr (.inr (.inr (.inr (va_up (va_up (va_up (va_up (fun _ => none) 0 (some ge5)) 1 (some ge5)) 2 (some ge5)) 3 (some ge5))))))), (h2, .inl (k1, 5, .inl (upd (upd (upd (upd (upd (fun _ => 0) 0 l1) 1 l2) 2 l3) 3 l4) 4 l5))), (h3, .inr (0, [.ref h4, .int 0, .int 0, .int 0])), (h4, .inl (k2, 1, .inl f0))] := hD
    refine lv_if_eq (tgt := 118) hx hb dX5_type_88 (by decide) (fun _ => ?_) (fun c9 => absurd (by decide) c9)
    refine lv_iinc (v := 3) (lv' := [(12, .int 3), (8, .int 1), (13, .int l3), (0, .ref h0), (1, .int rp), (7, .ref h2), (9, .ref h3), (10, .ref h2), (11, .int 5)]) hx hb dX5_type_118 hl (k := 8) rfl (by decide) (by decide) rfl (fun ls hl => ?_)
    refine lv_goto (tgt := 47) hx hb dX5_type_121 (by decide) ?_
    have hP := hP.sub (ws' := [(h0, .inr (9, [.int 0, .ref h1, .ref z0, .ref z1, .int 0, .int 0, .int 0])), (h1, .inl (k0, 4, .inr (.inr (.inr (.inr (va_up (va_up (va_up (va_up (fun _ => none) 0 (some ge5)) 1 (some ge5)) 2 (some ge5)) 3 (some ge5))))))), (h2, .inl (k1, 5, .inl (upd (upd (upd (upd (upd (fun _ => 0) 0 l1) 1 l2) 2 l3) 3 l4) 4 l5))), (h3, .inr (0, [.ref h4, .int 0, .int 0, .int 0])), (h4, .inl (k2, 1, .inl f0))]) [0, 1, 2, 3, 4] rfl
    have hD := hD.sub (ws' := [(h0, .inr (9, [.int 0, .ref h1, .ref z0, .ref z1, .int 0, .int 0, .int 0])), (h1, .inl (k0, 4, .inr (.inr (.inr (.inr (va_up (va_up (va_up (va_up (fun _ => none) 0 (some ge5)) 1 (some ge5)) 2 (some ge5)) 3 (some ge5))))))), (h2, .inl (k1, 5, .inl (upd (upd (upd (upd (upd (fun _ => 0) 0 l1) 1 l2) 2 l3) 3 l4) 4 l5))), (h3, .inr (0, [.ref h4, .int 0, .int 0, .int 0])), (h4, .inl (k2, 1, .inl f0))]) [0, 1, 2, 3, 4] (by decide) rfl
    have hK := hK.sub (tys' := [(k0, .object "java/lang/String"), (k1, .int), (k2, .byte)]) [0, 1, 2] rfl
    have hl := lv_sub hl [3, 4, 5, 1, 6, 7, 8, 0] (show lv_pick [(12, .int 3), (8, .int 1), (13, .int l3), (0, .ref h0), (1, .int rp), (7, .ref h2), (9, .ref h3), (10, .ref h2), (11, .int 5)] [3, 4, 5, 1, 6, 7, 8, 0] = [(0, .ref h0), (1, .int rp), (7, .ref h2), (8, .int 1), (9, .ref h3), (10, .ref h2), (11, .int 5), (12, .int 3)] from rfl)
    exact kx_X5_type_h311 f0_t hR hx hb hr hml hown hts hlocks hA hG hS hK hP hD hl
set_option maxHeartbeats 8000000 in
set_option maxRecDepth 100000 in
theorem kx_X5_type_h100 {l : Launch} {dC : Nat → ClassId} {dI : Nat → Nat → Nat} {ge5 gea gv5 gva gde gic gi0 : Nat} {h0 h1 h2 z0 z1 : Nat} {k0 k1 : ClassId} {rp l1 l2 l3 l4 l5 R v : Int32} {p : Program} {e : Env} {s : State} {m : MethodId} {args : Array Value} {below : List Frame} {meth : Method} {c : Code} {A : Nat → Prop} {H : Heap} {locs : List Loc} {ls : Array Slot} (hR : kz_ty rp 0 0 [l2, l3, l4, l5] = (R, v)) (hx : p.tables.exec = Jvm.exec) (hb : c.code = cX5_type) (hr : meth.sig.returnType = some .int) (hml : c.maxLocals = 14) (hown : s.vm.findClass RX5 = some m.cls) (hts : ∀ w ∈ wsX5_type, w.before args s = true) (hlocks : meth.locks = false) (hA : ∀ q : Nat, s.heap.size ≤ q → A q) (hG : gv ge5 gea gv5 gva gde gic gi0 A s s.heap) (hS : va_S A s.heap H locs) (hK : va_K (dC, dI) vwCl [(k0, .object "java/lang/String"), (k1, .int)] s) (hP : va_P (dC, dI) vwCl [(h0, .inr (9, [.int 0, .ref h1, .ref z0, .ref z1, .int 0, .int 0, .int 0])), (h1, .inl (k0, 4, .inr (.inr (.inr (.inr (va_up (va_up (va_up (va_up (fun _ => none) 0 (some ge5)) 1 (some ge5)) 2 (some ge5)) 3 (some ge5))))))), (h2, .inl (k1, 5, .inl (upd (upd (upd (upd (upd (fun _ => 0) 0 l1) 1 l2) 2 l3) 3 l4) 4 l5)))] H) (hD : va_D A [(h0, .inr (9, [.int 0, .ref h1, .ref z0, .ref z1, .int 0, .int 0, .int 0])), (h1, .inl (k0, 4, .inr (.inr (.inr (.inr (va_up (va_up (va_up (va_up (fun _ => none) 0 (some ge5)) 1 (some ge5)) 2 (some ge5)) 3 (some ge5))))))), (h2, .inl (k1, 5, .inl (upd (upd (upd (upd (upd (fun _ => 0) 0 l1) 1 l2) 2 l3) 3 l4) 4 l5)))]) (hl : lv_has ls 14 [(0, .ref h0), (1, .int rp), (7, .ref h2), (8, .int 0), (9, .ref ge5), (10, .ref h2), (11, .int 5), (12, .int 1)]) : W p l e (headSpec wsX5_type ({ frames := 6, cells := 25, slots := 169, locals := 171 })).room s m args below meth c H locs 1 5 (MQ below (va_Qi (fun (r : Int32) (_ : Unit) => r = R) (fun (_ : Unit) (t : State) => va_P (dC, dI) vwCl [(h0, .inr (9, [.int v, .ref h1, .ref z0, .ref z1, .int 0, .int 0, .int 0]))] t.heap ∧ va_K (dC, dI) vwCl [(k0, .object "java/lang/String")] t ∧ va_D A [(h0, .inr (9, [.int v, .ref h1, .ref z0, .ref z1, .int 0, .int 0, .int 0]))]) A) args s 25 169 A) (F0 m 47 ls []) := by
  obtain ⟨⟨g_AO_Text, g_AO_String, g_AO_Object, g_nm_RX1_20, g_nm_RX0_17, g_nm_RX3_31, g_nm_RX2_44, g_nm_RL_121, g_nf_RL_13, g_nf_RL_47, g_ca_IO, g_ca_IA, g_ca_IS, g_ca_IntObj, g_ca_StrObj, g_de_RT, g_de_EX, g_de_TH, g_nc_IA_IO, g_nc_IS_IO, g_nc_IS_IA⟩, ⟨g_s3, g_s5, g_sa, g_x278, g_x280, g_x282, g_x284, g_x286, g_x180, g_x238, g_x250⟩, ⟨g_o5, g_c5, g_v5, g_t5, g_oa, g_ca, g_va, g_ta, g_zc, g_zd, g_td, g_zf, g_zU, g_zN, g_zh, g_zk, g_tk, g_oi, g_vi⟩⟩ := id hG
  have a9 := Int32.le_toInt l2
  have b9 := Int32.toInt_lt l2
  rcases kz_cls l2 with r9 | rfl | rfl | rfl | rfl | rfl | r9
  · have l2_l : ((-2147483648) : Int) ≤ l2.toInt := by omega
    have l2_u : l2.toInt ≤ ((-2) : Int) := by omega
    have hR : kz_ty rp 0 1 [l3, l4, l5] = (R, v) := (kz_ty_b (by omega)).symm.trans hR
    refine lv_iload hx hb dX5_type_47 (lv_at hl 7 rfl) ?_
    refine lv_iload hx hb dX5_type_49 (lv_at hl 6 rfl) ?_
    refine lv_icmp_ge (tgt := 124) hx hb dX5_type_51 (by decide) (fun c9 => absurd c9 (by decide)) (fun _ => ?_)
    refine lv_aload hx hb dX5_type_54 (lv_at hl 5 rfl) ?_
    refine lv_iload hx hb dX5_type_56 (lv_at hl 7 rfl) ?_
    refine va_iald (D := (dC, dI)) hx hb hK hP 2 1 rfl rfl (by unfold vp_in; decide) dX5_type_58 ?_
    refine W.eq (g2 := F0 m 59 ls [.int l2]) rfl ?_
    refine lv_istore (lv' := [(13, .int l2), (0, .ref h0), (1, .int rp), (7, .ref h2), (8, .int 0), (9, .ref ge5), (10, .ref h2), (11, .int 5), (12, .int 1)]) hx hb dX5_type_59 hl (by decide) rfl (fun ls hl => ?_)
    refine lv_iload hx hb dX5_type_61 (lv_at hl 4 rfl) ?_
    refine lv_iload hx hb dX5_type_63 (lv_at hl 0 rfl) ?_
    refine lv_iconst (v := (-1)) hx hb dX5_type_65 (by decide) ?_
    refine lv_iconst (v := 3) hx hb dX5_type_66 (by decide) ?_
    have hPc := hP.sub (ws' := []) [] rfl
    have hDc := hD.sub (ws' := []) [] (by decide) rfl
    have hKc := hK.sub (tys' := []) [] rfl
    have hFc := va_free (wc := []) hD hS hA [] rfl
    refine va_calli (va_runS (As := [.int l2, .int (-1), .int 3]) (rest := [.int 0]) ⟨hx, hb, hml, hown, hts⟩ (kx_X5_isIn_3 l dC dI H.size l2 l2_l l2_u) (cwS 3 hts gX5_type_X5_isIn rfl rfl rfl (by decide +kernel) ⟨Nat.le_of_ble_eq_true rfl, Nat.le_of_ble_eq_true rfl⟩) ⟨fun a U g mk q => by obtain ⟨q0, q1, qP, qK, qD⟩ := q; exact ⟨q0, q1, qP, va_K.moved (u := U) (U := U.calling g mk a) (Vm.Alike.refl U.vm) qK, qD⟩, fun U hU hW => ⟨rfl, by rw [hU], by rw [hU]; exact hPc, va_K.moved hW.alike hKc, hDc.weaken (fun _ _ _ _ => trivial)⟩⟩ rfl rfl hl.1 rfl (lv_room (Nat.le_of_ble_eq_true rfl)) dX5_type_67 ⟨Nat.le_of_ble_eq_true rfl, Nat.le_of_ble_eq_true rfl⟩) hS (fun q _ h => hFc q h) hFc (fun r9 u t H1 locs ht hvm hw hB hz1 hk1 hS => ?_)
    obtain rfl := hw
    obtain ⟨hP1, hK1, hD1⟩ := hB
    rw [ht] at hP1
    have hK1 := va_K.moved hvm.symm hK1
    obtain ⟨hP, hD⟩ := va_join (wr := [(h0, .inr (9, [.int 0, .ref h1, .ref z0, .ref z1, .int 0, .int 0, .int 0])), (h1, .inl (k0, 4, .inr (.inr (.inr (.inr (va_up (va_up (va_up (va_up (fun _ => none) 0 (some ge5)) 1 (some ge5)) 2 (some ge5)) 3 (some ge5))))))), (h2, .inl (k1, 5, .inl (upd (upd (upd (upd (upd (fun _ => 0) 0 l1) 1 l2) 2 l3) 3 l4) 4 l5)))]) (w1 := []) hP hD [] [0, 1, 2] rfl rfl (by decide) (by decide) hk1 hFc hP1 hD1
    generalize H1 = H at hP hS ⊢
    have hP : va_P (dC, dI) vwCl [(h0, .inr (9, [.int 0, .ref h1, .ref z0, .ref z1, .int 0, .int 0, .int 0])), (h1, .inl (k0, 4, .inr (.inr (.inr (.inr (va_up (va_up (va_up (va_up (fun _ => none) 0 (some ge5)) 1 (some ge5)) 2 (some ge5)) 3 (some ge5))))))), (h2, .inl (k1, 5, .inl (upd (upd (upd (upd (upd (fun _ => 0) 0 l1) 1 l2) 2 l3) 3 l4) 4 l5)))] H := hP
    have hD : va_D A [(h0, .inr (9, [.int 0, .ref h1, .ref z0, .ref z1, .int 0, .int 0, .int 0])), (h1, .inl (k0, 4, .inr (.inr (.inr (.inr (va_up (va_up (va_up (va_up (fun _ => none) 0 (some ge5)) 1 (some ge5)) 2 (some ge5)) 3 (some ge5))))))), (h2, .inl (k1, 5, .inl (upd (upd (upd (upd (upd (fun _ => 0) 0 l1) 1 l2) 2 l3) 3 l4) 4 l5)))] := hD
    refine lv_if_ne (tgt := 77) hx hb dX5_type_70 (by decide) (fun c9 => absurd (by decide) c9) (fun _ => ?_)
    refine lv_iconst (v := 1) hx hb dX5_type_73 (by decide) ?_
    refine lv_goto (tgt := 78) hx hb dX5_type_74 (by decide) ?_
    refine lv_ior hx hb dX5_type_78 ?_
    refine lv_topi (fun y101 ey101 => ?_)
    obtain rfl : y101 = 1 := ey101.trans (by decide)
    refine lv_istore (lv' := [(8, .int 1), (13, .int l2), (0, .ref h0), (1, .int rp), (7, .ref h2), (9, .ref ge5), (10, .ref h2), (11, .int 5), (12, .int 1)]) hx hb dX5_type_79 hl (by decide) rfl (fun ls hl => ?_)
    refine lv_iload hx hb dX5_type_81 (lv_at hl 1 rfl) ?_
    refine lv_iconst (v := 0) hx hb dX5_type_83 (by decide) ?_
    refine lv_iconst (v := 3) hx hb dX5_type_84 (by decide) ?_
    have hPc := hP.sub (ws' := []) [] rfl
    have hDc := hD.sub (ws' := []) [] (by decide) rfl
    have hKc := hK.sub (tys' := []) [] rfl
    have hFc := va_free (wc := []) hD hS hA [] rfl
    refine va_calli (va_runS (As := [.int l2, .int 0, .int 3]) (rest := []) ⟨hx, hb, hml, hown, hts⟩ (kx_X5_isIn_4 l dC dI H.size l2 l2_l l2_u) (cwS 3 hts gX5_type_X5_isIn rfl rfl rfl (by decide +kernel) ⟨Nat.le_of_ble_eq_true rfl, Nat.le_of_ble_eq_true rfl⟩) ⟨fun a U g mk q => by obtain ⟨q0, q1, qP, qK, qD⟩ := q; exact ⟨q0, q1, qP, va_K.moved (u := U) (U := U.calling g mk a) (Vm.Alike.refl U.vm) qK, qD⟩, fun U hU hW => ⟨rfl, by rw [hU], by rw [hU]; exact hPc, va_K.moved hW.alike hKc, hDc.weaken (fun _ _ _ _ => trivial)⟩⟩ rfl rfl hl.1 rfl (lv_room (Nat.le_of_ble_eq_true rfl)) dX5_type_85 ⟨Nat.le_of_ble_eq_true rfl, Nat.le_of_ble_eq_true rfl⟩) hS (fun q _ h => hFc q h) hFc (fun r9 u t H1 locs ht hvm hw hB hz1 hk1 hS => ?_)
    obtain rfl := hw
    obtain ⟨hP1, hK1, hD1⟩ := hB
    rw [ht] at hP1
    have hK1 := va_K.moved hvm.symm hK1
    obtain ⟨hP, hD⟩ := va_join (wr := [(h0, .inr (9, [.int 0, .ref h1, .ref z0, .ref z1, .int 0, .int 0, .int 0])), (h1, .inl (k0, 4, .inr (.inr (.inr (.inr (va_up (va_up (va_up (va_up (fun _ => none) 0 (some ge5)) 1 (some ge5)) 2 (some ge5)) 3 (some ge5))))))), (h2, .inl (k1, 5, .inl (upd (upd (upd (upd (upd (fun _ => 0) 0 l1) 1 l2) 2 l3) 3 l4) 4 l5)))]) (w1 := []) hP hD [] [0, 1, 2] rfl rfl (by decide) (by decide) hk1 hFc hP1 hD1
    generalize H1 = H at hP hS ⊢
    have hP : va_P (dC, dI) vwCl [(h0, .inr (9, [.int 0, .ref h1, .ref z0, .ref z1, .int 0, .int 0, .int 0])), (h1, .inl (k0, 4, .inr (.inr (.inr (.inr (va_up (va_up (va_up (va_up (fun _ => none) 0 (some ge5)) 1 (some ge5)) 2 (some ge5)) 3 (some ge5))))))), (h2, .inl (k1, 5, .inl (upd (upd (upd (upd (upd (fun _ => 0) 0 l1) 1 l2) 2 l3) 3 l4) 4 l5)))] H := hP
    have hD : va_D A [(h0, .inr (9, [.int 0, .ref h1, .ref z0, .ref z1, .int 0, .int 0, .int 0])), (h1, .inl (k0, 4, .inr (.inr (.inr (.inr (va_up (va_up (va_up (va_up (fun _ => none) 0 (some ge5)) 1 (some ge5)) 2 (some ge5)) 3 (some ge5))))))), (h2, .inl (k1, 5, .inl (upd (upd (upd (upd (upd (fun _ => 0) 0 l1) 1 l2) 2 l3) 3 l4) 4 l5)))] := hD
    refine lv_if_eq (tgt := 118) hx hb dX5_type_88 (by decide) (fun _ => ?_) (fun c9 => absurd (by decide) c9)
    refine lv_iinc (v := 2) (lv' := [(12, .int 2), (8, .int 1), (13, .int l2), (0, .ref h0), (1, .int rp), (7, .ref h2), (9, .ref ge5), (10, .ref h2), (11, .int 5)]) hx hb dX5_type_118 hl (k := 8) rfl (by decide) (by decide) rfl (fun ls hl => ?_)
    refine lv_goto (tgt := 47) hx hb dX5_type_121 (by decide) ?_
    have hP := hP.sub (ws' := [(h0, .inr (9, [.int 0, .ref h1, .ref z0, .ref z1, .int 0, .int 0, .int 0])), (h1, .inl (k0, 4, .inr (.inr (.inr (.inr (va_up (va_up (va_up (va_up (fun _ => none) 0 (some ge5)) 1 (some ge5)) 2 (some ge5)) 3 (some ge5))))))), (h2, .inl (k1, 5, .inl (upd (upd (upd (upd (upd (fun _ => 0) 0 l1) 1 l2) 2 l3) 3 l4) 4 l5)))]) [0, 1, 2] rfl
    have hD := hD.sub (ws' := [(h0, .inr (9, [.int 0, .ref h1, .ref z0, .ref z1, .int 0, .int 0, .int 0])), (h1, .inl (k0, 4, .inr (.inr (.inr (.inr (va_up (va_up (va_up (va_up (fun _ => none) 0 (some ge5)) 1 (some ge5)) 2 (some ge5)) 3 (some ge5))))))), (h2, .inl (k1, 5, .inl (upd (upd (upd (upd (upd (fun _ => 0) 0 l1) 1 l2) 2 l3) 3 l4) 4 l5)))]) [0, 1, 2] (by decide) rfl
    have hK := hK.sub (tys' := [(k0, .object "java/lang/String"), (k1, .int)]) [0, 1] rfl
    have hl := lv_sub hl [3, 4, 5, 1, 6, 7, 8, 0] (show lv_pick [(12, .int 2), (8, .int 1), (13, .int l2), (0, .ref h0), (1, .int rp), (7, .ref h2), (9, .ref ge5), (10, .ref h2), (11, .int 5)] [3, 4, 5, 1, 6, 7, 8, 0] = [(0, .ref h0), (1, .int rp), (7, .ref h2), (8, .int 1), (9, .ref ge5), (10, .ref h2), (11, .int 5), (12, .int 2)] from rfl)
    exact kx_X5_type_h201 hR hx hb hr hml hown hts hlocks hA hG hS hK hP hD hl
  · have hR : kz_ty rp 0 0 [l3, l4, l5] = (R, v) := kz_ty_n.symm.trans hR
    refine lv_iload hx hb dX5_type_47 (lv_at hl 7 rfl) ?_
    refine lv_iload hx hb dX5_type_49 (lv_at hl 6 rfl) ?_
    refine lv_icmp_ge (tgt := 124) hx hb dX5_type_51 (by decide) (fun c9 => absurd c9 (by decide)) (fun _ => ?_)
    refine lv_aload hx hb dX5_type_54 (lv_at hl 5 rfl) ?_
    refine lv_iload hx hb dX5_type_56 (lv_at hl 7 rfl) ?_
    refine va_iald (D := (dC, dI)) hx hb hK hP 2 1 rfl rfl (by unfold vp_in; decide) dX5_type_58 ?_
    refine W.eq (g2 := F0 m 59 ls [.int (-1)]) rfl ?_
    refine lv_istore (lv' := [(13, .int (-1)), (0, .ref h0), (1, .int rp), (7, .ref h2), (8, .int 0), (9, .ref ge5), (10, .ref h2), (11, .int 5), (12, .int 1)]) hx hb dX5_type_59 hl (by decide) rfl (fun ls hl => ?_)
    refine lv_iload hx hb dX5_type_61 (lv_at hl 4 rfl) ?_
    refine lv_iload hx hb dX5_type_63 (lv_at hl 0 rfl) ?_
    refine lv_iconst (v := (-1)) hx hb dX5_type_65 (by decide) ?_
    refine lv_iconst (v := 3) hx hb dX5_type_66 (by decide) ?_
    have hPc := hP.sub (ws' := []) [] rfl
    have hDc := hD.sub (ws' := []) [] (by decide) rfl
    have hKc := hK.sub (tys' := []) [] rfl
    have hFc := va_free (wc := []) hD hS hA [] rfl
    refine va_calli (va_runS (As := [.int (-1), .int (-1), .int 3]) (rest := [.int 0]) ⟨hx, hb, hml, hown, hts⟩ (kx_X5_isIn_5 l dC dI H.size) (cwS 3 hts gX5_type_X5_isIn rfl rfl rfl (by decide +kernel) ⟨Nat.le_of_ble_eq_true rfl, Nat.le_of_ble_eq_true rfl⟩) ⟨fun a U g mk q => by obtain ⟨q0, q1, qP, qK, qD⟩ := q; exact ⟨q0, q1, qP, va_K.moved (u := U) (U := U.calling g mk a) (Vm.Alike.refl U.vm) qK, qD⟩, fun U hU hW => ⟨rfl, by rw [hU], by rw [hU]; exact hPc, va_K.moved hW.alike hKc, hDc.weaken (fun _ _ _ _ => trivial)⟩⟩ rfl rfl hl.1 rfl (lv_room (Nat.le_of_ble_eq_true rfl)) dX5_type_67 ⟨Nat.le_of_ble_eq_true rfl, Nat.le_of_ble_eq_true rfl⟩) hS (fun q _ h => hFc q h) hFc (fun r9 u t H1 locs ht hvm hw hB hz1 hk1 hS => ?_)
    obtain rfl := hw
    obtain ⟨hP1, hK1, hD1⟩ := hB
    rw [ht] at hP1
    have hK1 := va_K.moved hvm.symm hK1
    obtain ⟨hP, hD⟩ := va_join (wr := [(h0, .inr (9, [.int 0, .ref h1, .ref z0, .ref z1, .int 0, .int 0, .int 0])), (h1, .inl (k0, 4, .inr (.inr (.inr (.inr (va_up (va_up (va_up (va_up (fun _ => none) 0 (some ge5)) 1 (some ge5)) 2 (some ge5)) 3 (some ge5))))))), (h2, .inl (k1, 5, .inl (upd (upd (upd (upd (upd (fun _ => 0) 0 l1) 1 (-1)) 2 l3) 3 l4) 4 l5)))]) (w1 := []) hP hD [] [0, 1, 2] rfl rfl (by decide) (by decide) hk1 hFc hP1 hD1
    generalize H1 = H at hP hS ⊢
    have hP : va_P (dC, dI) vwCl [(h0, .inr (9, [.int 0, .ref h1, .ref z0, .ref z1, .int 0, .int 0, .int 0])), (h1, .inl (k0, 4, .inr (.inr (.inr (.inr (va_up (va_up (va_up (va_up (fun _ => none) 0 (some ge5)) 1 (some ge5)) 2 (some ge5)) 3 (some ge5))))))), (h2, .inl (k1, 5, .inl (upd (upd (upd (upd (upd (fun _ => 0) 0 l1) 1 (-1)) 2 l3) 3 l4) 4 l5)))] H := hP
    have hD : va_D A [(h0, .inr (9, [.int 0, .ref h1, .ref z0, .ref z1, .int 0, .int 0, .int 0])), (h1, .inl (k0, 4, .inr (.inr (.inr (.inr (va_up (va_up (va_up (va_up (fun _ => none) 0 (some ge5)) 1 (some ge5)) 2 (some ge5)) 3 (some ge5))))))), (h2, .inl (k1, 5, .inl (upd (upd (upd (upd (upd (fun _ => 0) 0 l1) 1 (-1)) 2 l3) 3 l4) 4 l5)))] := hD
    refine lv_if_ne (tgt := 77) hx hb dX5_type_70 (by decide) (fun _ => ?_) (fun c9 => absurd c9 (by decide))
    refine lv_iconst (v := 0) hx hb dX5_type_77 (by decide) ?_
    refine lv_ior hx hb dX5_type_78 ?_
    refine lv_topi (fun y101 ey101 => ?_)
    obtain rfl : y101 = 0 := ey101.trans (by decide)
    refine lv_istore (lv' := [(8, .int 0), (13, .int (-1)), (0, .ref h0), (1, .int rp), (7, .ref h2), (9, .ref ge5), (10, .ref h2), (11, .int 5), (12, .int 1)]) hx hb dX5_type_79 hl (by decide) rfl (fun ls hl => ?_)
    refine lv_iload hx hb dX5_type_81 (lv_at hl 1 rfl) ?_
    refine lv_iconst (v := 0) hx hb dX5_type_83 (by decide) ?_
    refine lv_iconst (v := 3) hx hb dX5_type_84 (by decide) ?_
    have hPc := hP.sub (ws' := []) [] rfl
    have hDc := hD.sub (ws' := []) [] (by decide) rfl
    have hKc := hK.sub (tys' := []) [] rfl
    have hFc := va_free (wc := []) hD hS hA [] rfl
    refine va_calli (va_runS (As := [.int (-1), .int 0, .int 3]) (rest := []) ⟨hx, hb, hml, hown, hts⟩ (kx_X5_isIn_6 l dC dI H.size) (cwS 3 hts gX5_type_X5_isIn rfl rfl rfl (by decide +kernel) ⟨Nat.le_of_ble_eq_true rfl, Nat.le_of_ble_eq_true rfl⟩) ⟨fun a U g mk q => by obtain ⟨q0, q1, qP, qK, qD⟩ := q; exact ⟨q0, q1, qP, va_K.moved (u := U) (U := U.calling g mk a) (Vm.Alike.refl U.vm) qK, qD⟩, fun U hU hW => ⟨rfl, by rw [hU], by rw [hU]; exact hPc, va_K.moved hW.alike hKc, hDc.weaken (fun _ _ _ _ => trivial)⟩⟩ rfl rfl hl.1 rfl (lv_room (Nat.le_of_ble_eq_true rfl)) dX5_type_85 ⟨Nat.le_of_ble_eq_true rfl, Nat.le_of_ble_eq_true rfl⟩) hS (fun q _ h => hFc q h) hFc (fun r9 u t H1 locs ht hvm hw hB hz1 hk1 hS => ?_)
    obtain rfl := hw
    obtain ⟨hP1, hK1, hD1⟩ := hB
    rw [ht] at hP1
    have hK1 := va_K.moved hvm.symm hK1
    obtain ⟨hP, hD⟩ := va_join (wr := [(h0, .inr (9, [.int 0, .ref h1, .ref z0, .ref z1, .int 0, .int 0, .int 0])), (h1, .inl (k0, 4, .inr (.inr (.inr (.inr (va_up (va_up (va_up (va_up (fun _ => none) 0 (some ge5)) 1 (some ge5)) 2 (some ge5)) 3 (some ge5))))))), (h2, .inl (k1, 5, .inl (upd (upd (upd (upd (upd (fun _ => 0) 0 l1) 1 (-1)) 2 l3) 3 l4) 4 l5)))]) (w1 := []) hP hD [] [0, 1, 2] rfl rfl (by decide) (by decide) hk1 hFc hP1 hD1
    generalize H1 = H at hP hS ⊢
    have hP : va_P (dC, dI) vwCl [(h0, .inr (9, [.int 0, .ref h1, .ref z0, .ref z1, .int 0, .int 0, .int 0])), (h1, .inl (k0, 4, .inr (.inr (.inr (.inr (va_up (va_up (va_up (va_up (fun _ => none) 0 (some ge5)) 1 (some ge5)) 2 (some ge5)) 3 (some ge5))))))), (h2, .inl (k1, 5, .inl (upd (upd (upd (upd (upd (fun _ => 0) 0 l1) 1 (-1)) 2 l3) 3 l4) 4 l5)))] H := hP
    have hD : va_D A [(h0, .inr (9, [.int 0, .ref h1, .ref z0, .ref z1, .int 0, .int 0, .int 0])), (h1, .inl (k0, 4, .inr (.inr (.inr (.inr (va_up (va_up (va_up (va_up (fun _ => none) 0 (some ge5)) 1 (some ge5)) 2 (some ge5)) 3 (some ge5))))))), (h2, .inl (k1, 5, .inl (upd (upd (upd (upd (upd (fun _ => 0) 0 l1) 1 (-1)) 2 l3) 3 l4) 4 l5)))] := hD
    refine lv_if_eq (tgt := 118) hx hb dX5_type_88 (by decide) (fun _ => ?_) (fun c9 => absurd (by decide) c9)
    refine lv_iinc (v := 2) (lv' := [(12, .int 2), (8, .int 0), (13, .int (-1)), (0, .ref h0), (1, .int rp), (7, .ref h2), (9, .ref ge5), (10, .ref h2), (11, .int 5)]) hx hb dX5_type_118 hl (k := 8) rfl (by decide) (by decide) rfl (fun ls hl => ?_)
    refine lv_goto (tgt := 47) hx hb dX5_type_121 (by decide) ?_
    have hP := hP.sub (ws' := [(h0, .inr (9, [.int 0, .ref h1, .ref z0, .ref z1, .int 0, .int 0, .int 0])), (h1, .inl (k0, 4, .inr (.inr (.inr (.inr (va_up (va_up (va_up (va_up (fun _ => none) 0 (some ge5)) 1 (some ge5)) 2 (some ge5)) 3 (some ge5))))))), (h2, .inl (k1, 5, .inl (upd (upd (upd (upd (upd (fun _ => 0) 0 l1) 1 (-1)) 2 l3) 3 l4) 4 l5)))]) [0, 1, 2] rfl
    have hD := hD.sub (ws' := [(h0, .inr (9, [.int 0, .ref h1, .ref z0, .ref z1, .int 0, .int 0, .int 0])), (h1, .inl (k0, 4, .inr (.inr (.inr (.inr (va_up (va_up (va_up (va_up (fun _ => none) 0 (some ge5)) 1 (some ge5)) 2 (some ge5)) 3 (some ge5))))))), (h2, .inl (k1, 5, .inl (upd (upd (upd (upd (upd (fun _ => 0) 0 l1) 1 (-1)) 2 l3) 3 l4) 4 l5)))]) [0, 1, 2] (by decide) rfl
    have hK := hK.sub (tys' := [(k0, .object "java/lang/String"), (k1, .int)]) [0, 1] rfl
    have hl := lv_sub hl [3, 4, 5, 1, 6, 7, 8, 0] (show lv_pick [(12, .int 2), (8, .int 0), (13, .int (-1)), (0, .ref h0), (1, .int rp), (7, .ref h2), (9, .ref ge5), (10, .ref h2), (11, .int 5)] [3, 4, 5, 1, 6, 7, 8, 0] = [(0, .ref h0), (1, .int rp), (7, .ref h2), (8, .int 0), (9, .ref ge5), (10, .ref h2), (11, .int 5), (12, .int 2)] from rfl)
    exact kx_X5_type_h200 hR hx hb hr hml hown hts hlocks hA hG hS hK hP hD hl
  · have hR : kz_ty rp 1 0 [l3, l4, l5] = (R, v) := (kz_ty_g (by decide) (by decide)).symm.trans hR
    refine lv_iload hx hb dX5_type_47 (lv_at hl 7 rfl) ?_
    refine lv_iload hx hb dX5_type_49 (lv_at hl 6 rfl) ?_
    refine lv_icmp_ge (tgt := 124) hx hb dX5_type_51 (by decide) (fun c9 => absurd c9 (by decide)) (fun _ => ?_)
    refine lv_aload hx hb dX5_type_54 (lv_at hl 5 rfl) ?_
    refine lv_iload hx hb dX5_type_56 (lv_at hl 7 rfl) ?_
    refine va_iald (D := (dC, dI)) hx hb hK hP 2 1 rfl rfl (by unfold vp_in; decide) dX5_type_58 ?_
    refine W.eq (g2 := F0 m 59 ls [.int 0]) rfl ?_
    refine lv_istore (lv' := [(13, .int 0), (0, .ref h0), (1, .int rp), (7, .ref h2), (8, .int 0), (9, .ref ge5), (10, .ref h2), (11, .int 5), (12, .int 1)]) hx hb dX5_type_59 hl (by decide) rfl (fun ls hl => ?_)
    refine lv_iload hx hb dX5_type_61 (lv_at hl 4 rfl) ?_
    refine lv_iload hx hb dX5_type_63 (lv_at hl 0 rfl) ?_
    refine lv_iconst (v := (-1)) hx hb dX5_type_65 (by decide) ?_
    refine lv_iconst (v := 3) hx hb dX5_type_66 (by decide) ?_
    have hPc := hP.sub (ws' := []) [] rfl
    have hDc := hD.sub (ws' := []) [] (by decide) rfl
    have hKc := hK.sub (tys' := []) [] rfl
    have hFc := va_free (wc := []) hD hS hA [] rfl
    refine va_calli (va_runS (As := [.int 0, .int (-1), .int 3]) (rest := [.int 0]) ⟨hx, hb, hml, hown, hts⟩ (kx_X5_isIn_7 l dC dI H.size) (cwS 3 hts gX5_type_X5_isIn rfl rfl rfl (by decide +kernel) ⟨Nat.le_of_ble_eq_true rfl, Nat.le_of_ble_eq_true rfl⟩) ⟨fun a U g mk q => by obtain ⟨q0, q1, qP, qK, qD⟩ := q; exact ⟨q0, q1, qP, va_K.moved (u := U) (U := U.calling g mk a) (Vm.Alike.refl U.vm) qK, qD⟩, fun U hU hW => ⟨rfl, by rw [hU], by rw [hU]; exact hPc, va_K.moved hW.alike hKc, hDc.weaken (fun _ _ _ _ => trivial)⟩⟩ rfl rfl hl.1 rfl (lv_room (Nat.le_of_ble_eq_true rfl)) dX5_type_67 ⟨Nat.le_of_ble_eq_true rfl, Nat.le_of_ble_eq_true rfl⟩) hS (fun q _ h => hFc q h) hFc (fun r9 u t H1 locs ht hvm hw hB hz1 hk1 hS => ?_)
    obtain rfl := hw
    obtain ⟨hP1, hK1, hD1⟩ := hB
    rw [ht] at hP1
    have hK1 := va_K.moved hvm.symm hK1
    obtain ⟨hP, hD⟩ := va_join (wr := [(h0, .inr (9, [.int 0, .ref h1, .ref z0, .ref z1, .int 0, .int 0, .int 0])), (h1, .inl (k0, 4, .inr (.inr (.inr (.inr (va_up (va_up (va_up (va_up (fun _ => none) 0 (some ge5)) 1 (some ge5)) 2 (some ge5)) 3 (some ge5))))))), (h2, .inl (k1, 5, .inl (upd (upd (upd (upd (upd (fun _ => 0) 0 l1) 1 0) 2 l3) 3 l4) 4 l5)))]) (w1 := []) hP hD [] [0, 1, 2] rfl rfl (by decide) (by decide) hk1 hFc hP1 hD1
    generalize H1 = H at hP hS ⊢
    have hP : va_P (dC, dI) vwCl [(h0, .inr (9, [.int 0, .ref h1, .ref z0, .ref z1, .int 0, .int 0, .int 0])), (h1, .inl (k0, 4, .inr (.inr (.inr (.inr (va_up (va_up (va_up (va_up (fun _ => none) 0 (some ge5)) 1 (some ge5)) 2 (some ge5)) 3 (some ge5))))))), (h2, .inl (k1, 5, .inl (upd (upd (upd (upd (upd (fun _ => 0) 0 l1) 1 0) 2 l3) 3 l4) 4 l5)))] H := hP
    have hD : va_D A [(h0, .inr (9, [.int 0, .ref h1, .ref z0, .ref z1, .int 0, .int 0, .int 0])), (h1, .inl (k0, 4, .inr (.inr (.inr (.inr (va_up (va_up (va_up (va_up (fun _ => none) 0 (some ge5)) 1 (some ge5)) 2 (some ge5)) 3 (some ge5))))))), (h2, .inl (k1, 5, .inl (upd (upd (upd (upd (upd (fun _ => 0) 0 l1) 1 0) 2 l3) 3 l4) 4 l5)))] := hD
    refine lv_if_ne (tgt := 77) hx hb dX5_type_70 (by decide) (fun _ => ?_) (fun c9 => absurd c9 (by decide))
    refine lv_iconst (v := 0) hx hb dX5_type_77 (by decide) ?_
    refine lv_ior hx hb dX5_type_78 ?_
    refine lv_topi (fun y101 ey101 => ?_)
    obtain rfl : y101 = 0 := ey101.trans (by decide)
    refine lv_istore (lv' := [(8, .int 0), (13, .int 0), (0, .ref h0), (1, .int rp), (7, .ref h2), (9, .ref ge5), (10, .ref h2), (11, .int 5), (12, .int 1)]) hx hb dX5_type_79 hl (by decide) rfl (fun ls hl => ?_)
    refine lv_iload hx hb dX5_type_81 (lv_at hl 1 rfl) ?_
    refine lv_iconst (v := 0) hx hb dX5_type_83 (by decide) ?_
    refine lv_iconst (v := 3) hx hb dX5_type_84 (by decide) ?_
    have hPc := hP.sub (ws' := []) [] rfl
    have hDc := hD.sub (ws' := []) [] (by decide) rfl
    have hKc := hK.sub (tys' := []) [] rfl
    have hFc := va_free (wc := []) hD hS hA [] rfl
    refine va_calli (va_runS (As := [.int 0, .int 0, .int 3]) (rest := []) ⟨hx, hb, hml, hown, hts⟩ (kx_X5_isIn_8 l dC dI H.size) (cwS 3 hts gX5_type_X5_isIn rfl rfl rfl (by decide +kernel) ⟨Nat.le_of_ble_eq_true rfl, Nat.le_of_ble_eq_true rfl⟩) ⟨fun a U g mk q => by obtain ⟨q0, q1, qP, qK, qD⟩ := q; exact ⟨q0, q1, qP, va_K.moved (u := U) (U := U.calling g mk a) (Vm.Alike.refl U.vm) qK, qD⟩, fun U hU hW => ⟨rfl, by rw [hU], by rw [hU]; exact hPc, va_K.moved hW.alike hKc, hDc.weaken (fun _ _ _ _ => trivial)⟩⟩ rfl rfl hl.1 rfl (lv_room (Nat.le_of_ble_eq_true rfl)) dX5_type_85 ⟨Nat.le_of_ble_eq_true rfl, Nat.le_of_ble_eq_true rfl⟩) hS (fun q _ h => hFc q h) hFc (fun r9 u t H1 locs ht hvm hw hB hz1 hk1 hS => ?_)
    obtain rfl := hw
    obtain ⟨hP1, hK1, hD1⟩ := hB
    rw [ht] at hP1
    have hK1 := va_K.moved hvm.symm hK1
    obtain ⟨hP, hD⟩ := va_join (wr := [(h0, .inr (9, [.int 0, .ref h1, .ref z0, .ref z1, .int 0, .int 0, .int 0])), (h1, .inl (k0, 4, .inr (.inr (.inr (.inr (va_up (va_up (va_up (va_up (fun _ => none) 0 (some ge5)) 1 (some ge5)) 2 (some ge5)) 3 (some ge5))))))), (h2, .inl (k1, 5, .inl (upd (upd (upd (upd (upd (fun _ => 0) 0 l1) 1 0) 2 l3) 3 l4) 4 l5)))]) (w1 := []) hP hD [] [0, 1, 2] rfl rfl (by decide) (by decide) hk1 hFc hP1 hD1
    generalize H1 = H at hP hS ⊢
    have hP : va_P (dC, dI) vwCl [(h0, .inr (9, [.int 0, .ref h1, .ref z0, .ref z1, .int 0, .int 0, .int 0])), (h1, .inl (k0, 4, .inr (.inr (.inr (.inr (va_up (va_up (va_up (va_up (fun _ => none) 0 (some ge5)) 1 (some ge5)) 2 (some ge5)) 3 (some ge5))))))), (h2, .inl (k1, 5, .inl (upd (upd (upd (upd (upd (fun _ => 0) 0 l1) 1 0) 2 l3) 3 l4) 4 l5)))] H := hP
    have hD : va_D A [(h0, .inr (9, [.int 0, .ref h1, .ref z0, .ref z1, .int 0, .int 0, .int 0])), (h1, .inl (k0, 4, .inr (.inr (.inr (.inr (va_up (va_up (va_up (va_up (fun _ => none) 0 (some ge5)) 1 (some ge5)) 2 (some ge5)) 3 (some ge5))))))), (h2, .inl (k1, 5, .inl (upd (upd (upd (upd (upd (fun _ => 0) 0 l1) 1 0) 2 l3) 3 l4) 4 l5)))] := hD
    refine lv_if_eq (tgt := 118) hx hb dX5_type_88 (by decide) (fun c9 => absurd c9 (by decide)) (fun _ => ?_)
    refine va_new (ci := 1) (fs := [.null, .int 0, .int 0, .int 0]) (C := RJ4) (T := TJ4) (N := 4) hx hb hts (by decide +kernel) tyJ4 tyJ4_ok hown (hts (.classLink RX5 49 RJ4) (by decide +kernel)) (hts (.instantiable RJ4 4) (by decide +kernel)) (hts (.initialized RJ4) (by decide +kernel)) hK hP hD hS hA rfl (fun j hj => by rcases (show j = 0 ∨ j = 1 ∨ j = 2 ∨ j = 3 by omega) with rfl | rfl | rfl | rfl <;> rfl) (Nat.le_of_ble_eq_true rfl) (Nat.le_of_ble_eq_true rfl) dX5_type_91 (fun q102 H hP hD hS => ?_)
    have hP : va_P (dC, dI) vwCl [(h0, .inr (9, [.int 0, .ref h1, .ref z0, .ref z1, .int 0, .int 0, .int 0])), (h1, .inl (k0, 4, .inr (.inr (.inr (.inr (va_up (va_up (va_up (va_up (fun _ => none) 0 (some ge5)) 1 (some ge5)) 2 (some ge5)) 3 (some ge5))))))), (h2, .inl (k1, 5, .inl (upd (upd (upd (upd (upd (fun _ => 0) 0 l1) 1 0) 2 l3) 3 l4) 4 l5))), (q102, .inr (1, [.null, .int 0, .int 0, .int 0]))] H := hP
    have hD : va_D A [(h0, .inr (9, [.int 0, .ref h1, .ref z0, .ref z1, .int 0, .int 0, .int 0])), (h1, .inl (k0, 4, .inr (.inr (.inr (.inr (va_up (va_up (va_up (va_up (fun _ => none) 0 (some ge5)) 1 (some ge5)) 2 (some ge5)) 3 (some ge5))))))), (h2, .inl (k1, 5, .inl (upd (upd (upd (upd (upd (fun _ => 0) 0 l1) 1 0) 2 l3) 3 l4) 4 l5))), (q102, .inr (1, [.null, .int 0, .int 0, .int 0]))] := hD
    refine W.widen (k := 2) (n := 9) (by omega) (by omega) ?_
    refine lv_dup hx hb dX5_type_94 rfl ?_
    have hPc := hP.sub (ws' := [(q102, .inr (1, [.null, .int 0, .int 0, .int 0]))]) [3] rfl
    have hDc := hD.sub (ws' := [(q102, .inr (1, [.null, .int 0, .int 0, .int 0]))]) [3] (by decide) rfl
    have hKc := hK.sub (tys' := []) [] rfl
    have hFc := va_free (wc := [(q102, .inr (1, [.null, .int 0, .int 0, .int 0]))]) hD hS hA [3] rfl
    refine va_callv (va_runI (As := []) (rest := [.ref q102]) ⟨hx, hb, hml, hown, hts⟩ (kx_J4_init_da8c8_0 l dC dI ge5 gea gv5 gva gde gic gi0 q102 H.size) (cwI 0 hts gX5_type_J4_init_da8c8 rfl rfl rfl (hts (.initialized RJ4) (by decide +kernel)) (hts (.methodLink RX5 51 yJ4_init_da8c8) (by decide +kernel)) (hts (.instanceMethod yJ4_init_da8c8) (by decide +kernel)) rfl (by decide +kernel) ⟨Nat.le_of_ble_eq_true rfl, Nat.le_of_ble_eq_true rfl⟩) ⟨fun a U g mk q => by obtain ⟨q0, q1, qP, qK, qD, qG⟩ := q; exact ⟨q0, q1, qP, va_K.moved (u := U) (U := U.calling g mk a) (Vm.Alike.refl U.vm) qK, qD, gv.fb qG⟩, fun U hU hW => ⟨rfl, by rw [hU], by rw [hU]; exact hPc, va_K.moved hW.alike hKc, hDc.weaken (fun _ _ _ _ => trivial), gv.pass hW hU hS hFc hG⟩⟩ rfl rfl hl.1 rfl (lv_room (Nat.le_of_ble_eq_true rfl)) dX5_type_95 ⟨Nat.le_of_ble_eq_true rfl, Nat.le_of_ble_eq_true rfl⟩) hS (fun q _ h => hFc q h) hFc (fun u t H1 locs ht hvm hw hB hz1 hk1 hS => ?_)
    obtain ⟨q103, cq104, hP1, hK1, hD1⟩ := hB
    rw [ht] at hP1
    have hK1 := va_K.moved hvm.symm hK1
    obtain ⟨hP, hD⟩ := va_join (wr := [(h0, .inr (9, [.int 0, .ref h1, .ref z0, .ref z1, .int 0, .int 0, .int 0])), (h1, .inl (k0, 4, .inr (.inr (.inr (.inr (va_up (va_up (va_up (va_up (fun _ => none) 0 (some ge5)) 1 (some ge5)) 2 (some ge5)) 3 (some ge5))))))), (h2, .inl (k1, 5, .inl (upd (upd (upd (upd (upd (fun _ => 0) 0 l1) 1 0) 2 l3) 3 l4) 4 l5)))]) (w1 := [(q102, .inr (1, [.ref q103, .int 0, .int 0, .int 0])), (q103, .inl (cq104, 16, .inl (fun _ => 0)))]) hP hD [3] [0, 1, 2] rfl rfl (by decide) (by decide) hk1 hFc hP1 hD1
    have hK := hK.app (hK1.sub (tys' := [(cq104, .byte)]) [0] rfl)
    generalize H1 = H at hP hS ⊢
    have hK : va_K (dC, dI) vwCl [(k0, .object "java/lang/String"), (k1, .int), (cq104, .byte)] s := hK
    have hP : va_P (dC, dI) vwCl [(h0, .inr (9, [.int 0, .ref h1, .ref z0, .ref z1, .int 0, .int 0, .int 0])), (h1, .inl (k0, 4, .inr (.inr (.inr (.inr (va_up (va_up (va_up (va_up (fun _ => none) 0 (some ge5)) 1 (some ge5)) 2 (some ge5)) 3 (some ge5))))))), (h2, .inl (k1, 5, .inl (upd (upd (upd (upd (upd (fun _ => 0) 0 l1) 1 0) 2 l3) 3 l4) 4 l5))), (q102, .inr (1, [.ref q103, .int 0, .int 0, .int 0])), (q103, .inl (cq104, 16, .inl (fun _ => 0)))] H := hP
    have hD : va_D A [(h0, .inr (9, [.int 0, .ref h1, .ref z0, .ref z1, .int 0, .int 0, .int 0])), (h1, .inl (k0, 4, .inr (.inr (.inr (.inr (va_up (va_up (va_up (va_up (fun _ => none) 0 (some ge5)) 1 (some ge5)) 2 (some ge5)) 3 (some ge5))))))), (h2, .inl (k1, 5, .inl (upd (upd (upd (upd (upd (fun _ => 0) 0 l1) 1 0) 2 l3) 3 l4) 4 l5))), (q102, .inr (1, [.ref q103, .int 0, .int 0, .int 0])), (q103, .inl (cq104, 16, .inl (fun _ => 0)))] := hD
    refine W.widen (k := 3) (n := 25) (by omega) (by omega) ?_
    refine lv_aload hx hb dX5_type_98 (lv_at hl 5 rfl) ?_
    have hPc := hP.sub (ws' := [(q102, .inr (1, [.ref q103, .int 0, .int 0, .int 0])), (q103, .inl (cq104, 16, .inl (fun _ => 0)))]) [3, 4] rfl
    have hDc := hD.sub (ws' := [(q102, .inr (1, [.ref q103, .int 0, .int 0, .int 0])), (q103, .inl (cq104, 16, .inl (fun _ => 0)))]) [3, 4] (by decide) rfl
    have hKc := hK.sub (tys' := [(cq104, .byte)]) [2] rfl
    have hFc := va_free (wc := [(q102, .inr (1, [.ref q103, .int 0, .int 0, .int 0])), (q103, .inl (cq104, 16, .inl (fun _ => 0)))]) hD hS hA [3, 4] rfl
    refine va_callr (va_runV (As := [.ref ge5]) (rest := []) ⟨hx, hb, hml, hown, hts⟩ (kx_J4_append_15ec4_0 l dC dI ge5 gea gv5 gva gde gic gi0 q102 q103 cq104 H.size) (cwV 1 hts gX5_type_J4_append_15ec4 rfl rfl rfl (by decide +kernel) ⟨Nat.le_of_ble_eq_true rfl, Nat.le_of_ble_eq_true rfl⟩) ⟨fun a U g mk q => by obtain ⟨q0, q1, qP, qK, qD, qG⟩ := q; exact ⟨q0, q1, qP, va_K.moved (u := U) (U := U.calling g mk a) (Vm.Alike.refl U.vm) qK, qD, gv.fb qG⟩, va_recv hKc hPc (ci := 1) (q0 := 0) rfl rfl, fun U hU hW => ⟨rfl, by rw [hU], by rw [hU]; exact hPc, va_K.moved hW.alike hKc, hDc.weaken (fun _ _ _ _ => trivial), gv.pass hW hU hS hFc hG⟩⟩ rfl rfl hl.1 rfl (lv_room (Nat.le_of_ble_eq_true rfl)) dX5_type_100 ⟨Nat.le_of_ble_eq_true rfl, Nat.le_of_ble_eq_true rfl⟩) hS (fun q _ h => hFc q h) hFc (fun u ra t H1 locs ht hvm hw hB hz1 hk1 hS => ?_)
    obtain ⟨hra, hP1, hK1, hD1⟩ := hB
    rw [hra]
    rw [ht] at hP1
    have hK1 := va_K.moved hvm.symm hK1
    obtain ⟨hP, hD⟩ := va_join (wr := [(h0, .inr (9, [.int 0, .ref h1, .ref z0, .ref z1, .int 0, .int 0, .int 0])), (h1, .inl (k0, 4, .inr (.inr (.inr (.inr (va_up (va_up (va_up (va_up (fun _ => none) 0 (some ge5)) 1 (some ge5)) 2 (some ge5)) 3 (some ge5))))))), (h2, .inl (k1, 5, .inl (upd (upd (upd (upd (upd (fun _ => 0) 0 l1) 1 0) 2 l3) 3 l4) 4 l5)))]) (w1 := [(q102, .inr (1, [.ref q103, .int 0, .int 0, .int 0])), (q103, .inl (cq104, 16, .inl (fun _ => 0)))]) hP hD [3, 4] [0, 1, 2] rfl rfl (by decide) (by decide) hk1 hFc hP1 hD1
    generalize H1 = H at hP hS ⊢
    have hP : va_P (dC, dI) vwCl [(h0, .inr (9, [.int 0, .ref h1, .ref z0, .ref z1, .int 0, .int 0, .int 0])), (h1, .inl (k0, 4, .inr (.inr (.inr (.inr (va_up (va_up (va_up (va_up (fun _ => none) 0 (some ge5)) 1 (some ge5)) 2 (some ge5)) 3 (some ge5))))))), (h2, .inl (k1, 5, .inl (upd (upd (upd (upd (upd (fun _ => 0) 0 l1) 1 0) 2 l3) 3 l4) 4 l5))), (q102, .inr (1, [.ref q103, .int 0, .int 0, .int 0])), (q103, .inl (cq104, 16, .inl (fun _ => 0)))] H := hP
    have hD : va_D A [(h0, .inr (9, [.int 0, .ref h1, .ref z0, .ref z1, .int 0, .int 0, .int 0])), (h1, .inl (k0, 4, .inr (.inr (.inr (.inr (va_up (va_up (va_up (va_up (fun _ => none) 0 (some ge5)) 1 (some ge5)) 2 (some ge5)) 3 (some ge5))))))), (h2, .inl (k1, 5, .inl (upd (upd (upd (upd (upd (fun _ => 0) 0 l1) 1 0) 2 l3) 3 l4) 4 l5))), (q102, .inr (1, [.ref q103, .int 0, .int 0, .int 0])), (q103, .inl (cq104, 16, .inl (fun _ => 0)))] := hD
    refine va_ldcS hx hb hown g_sa dX5_type_103 ?_
    refine lv_iload hx hb dX5_type_105 (lv_at hl 1 rfl) ?_
    have hPc := hP.sub (ws' := []) [] rfl
    have hDc := hD.sub (ws' := []) [] (by decide) rfl
    have hKc := hK.sub (tys' := []) [] rfl
    have hFc := va_free (wc := []) hD hS hA [] rfl
    refine va_calli (va_runV (As := [.int 0]) (rest := [.ref q102]) ⟨hx, hb, hml, hown, hts⟩ (kx_J0_charAt_5068e_0 l dC dI ge5 gea gv5 gva gde gic gi0 H.size) (cwV 1 hts gX5_type_J0_charAt_5068e rfl rfl rfl (by decide +kernel) ⟨Nat.le_of_ble_eq_true rfl, Nat.le_of_ble_eq_true rfl⟩) ⟨fun a U g mk q => by obtain ⟨q0, q1, qP, qK, qD, qG⟩ := q; exact ⟨q0, q1, qP, va_K.moved (u := U) (U := U.calling g mk a) (Vm.Alike.refl U.vm) qK, qD, gv.fb qG⟩, (by obtain ⟨cell, k1, k2, k3, -⟩ := g_oa.kept hS.2.1; exact ⟨cell, k1, k2, k3⟩), fun U hU hW => ⟨rfl, by rw [hU], by rw [hU]; exact hPc, va_K.moved hW.alike hKc, hDc.weaken (fun _ _ _ _ => trivial), gv.pass hW hU hS hFc hG⟩⟩ rfl rfl hl.1 rfl (lv_room (Nat.le_of_ble_eq_true rfl)) dX5_type_107 ⟨Nat.le_of_ble_eq_true rfl, Nat.le_of_ble_eq_true rfl⟩) hS (fun q _ h => hFc q h) hFc (fun r9 u t H1 locs ht hvm hw hB hz1 hk1 hS => ?_)
    obtain rfl := hw
    obtain ⟨hP1, hK1, hD1⟩ := hB
    rw [ht] at hP1
    have hK1 := va_K.moved hvm.symm hK1
    obtain ⟨hP, hD⟩ := va_join (wr := [(h0, .inr (9, [.int 0, .ref h1, .ref z0, .ref z1, .int 0, .int 0, .int 0])), (h1, .inl (k0, 4, .inr (.inr (.inr (.inr (va_up (va_up (va_up (va_up (fun _ => none) 0 (some ge5)) 1 (some ge5)) 2 (some ge5)) 3 (some ge5))))))), (h2, .inl (k1, 5, .inl (upd (upd (upd (upd (upd (fun _ => 0) 0 l1) 1 0) 2 l3) 3 l4) 4 l5))), (q102, .inr (1, [.ref q103, .int 0, .int 0, .int 0])), (q103, .inl (cq104, 16, .inl (fun _ => 0)))]) (w1 := []) hP hD [] [0, 1, 2, 3, 4] rfl rfl (by decide) (by decide) hk1 hFc hP1 hD1
    generalize H1 = H at hP hS ⊢
    have hP : va_P (dC, dI) vwCl [(h0, .inr (9, [.int 0, .ref h1, .ref z0, .ref z1, .int 0, .int 0, .int 0])), (h1, .inl (k0, 4, .inr (.inr (.inr (.inr (va_up (va_up (va_up (va_up (fun _ => none) 0 (some ge5)) 1 (some ge5)) 2 (some ge5)) 3 (some ge5))))))), (h2, .inl (k1, 5, .inl (upd (upd (upd (upd (upd (fun _ => 0) 0 l1) 1 0) 2 l3) 3 l4) 4 l5))), (q102, .inr (1, [.ref q103, .int 0, .int 0, .int 0])), (q103, .inl (cq104, 16, .inl (fun _ => 0)))] H := hP
    have hD : va_D A [(h0, .inr (9, [.int 0, .ref h1, .ref z0, .ref z1, .int 0, .int 0, .int 0])), (h1, .inl (k0, 4, .inr (.inr (.inr (.inr (va_up (va_up (va_up (va_up (fun _ => none) 0 (some ge5)) 1 (some ge5)) 2 (some ge5)) 3 (some ge5))))))), (h2, .inl (k1, 5, .inl (upd (upd (upd (upd (upd (fun _ => 0) 0 l1) 1 0) 2 l3) 3 l4) 4 l5))), (q102, .inr (1, [.ref q103, .int 0, .int 0, .int 0])), (q103, .inl (cq104, 16, .inl (fun _ => 0)))] := hD
    have hPc := hP.sub (ws' := [(q102, .inr (1, [.ref q103, .int 0, .int 0, .int 0])), (q103, .inl (cq104, 16, .inl (fun _ => 0)))]) [3, 4] rfl
    have hDc := hD.sub (ws' := [(q102, .inr (1, [.ref q103, .int 0, .int 0, .int 0])), (q103, .inl (cq104, 16, .inl (fun _ => 0)))]) [3, 4] (by decide) rfl
    have hKc := hK.sub (tys' := [(cq104, .byte)]) [2] rfl
    have hFc := va_free (wc := [(q102, .inr (1, [.ref q103, .int 0, .int 0, .int 0])), (q103, .inl (cq104, 16, .inl (fun _ => 0)))]) hD hS hA [3, 4] rfl
    refine va_callr (va_runV (As := [.int 97]) (rest := []) ⟨hx, hb, hml, hown, hts⟩ (kx_J4_append_cf468_0 l dC dI ge5 gea gv5 gva gde gic gi0 q102 q103 cq104 H.size) (cwV 1 hts gX5_type_J4_append_cf468 rfl rfl rfl (by decide +kernel) ⟨Nat.le_of_ble_eq_true rfl, Nat.le_of_ble_eq_true rfl⟩) ⟨fun a U g mk q => by obtain ⟨q0, q1, qP, qK, qD, qG⟩ := q; exact ⟨q0, q1, qP, va_K.moved (u := U) (U := U.calling g mk a) (Vm.Alike.refl U.vm) qK, qD, gv.fb qG⟩, va_recv hKc hPc (ci := 1) (q0 := 0) rfl rfl, fun U hU hW => ⟨rfl, by rw [hU], by rw [hU]; exact hPc, va_K.moved hW.alike hKc, hDc.weaken (fun _ _ _ _ => trivial), gv.pass hW hU hS hFc hG⟩⟩ rfl rfl hl.1 rfl (lv_room (Nat.le_of_ble_eq_true rfl)) dX5_type_110 ⟨Nat.le_of_ble_eq_true rfl, Nat.le_of_ble_eq_true rfl⟩) hS (fun q _ h => hFc q h) hFc (fun u ra t H1 locs ht hvm hw hB hz1 hk1 hS => ?_)
    obtain ⟨f105, f105_t, hra, hP1, hK1, hD1⟩ := hB
    rw [hra]
    rw [ht] at hP1
    have hK1 := va_K.moved hvm.symm hK1
    obtain ⟨hP, hD⟩ := va_join (wr := [(h0, .inr (9, [.int 0, .ref h1, .ref z0, .ref z1, .int 0, .int 0, .int 0])), (h1, .inl (k0, 4, .inr (.inr (.inr (.inr (va_up (va_up (va_up (va_up (fun _ => none) 0 (some ge5)) 1 (some ge5)) 2 (some ge5)) 3 (some ge5))))))), (h2, .inl (k1, 5, .inl (upd (upd (upd (upd (upd (fun _ => 0) 0 l1) 1 0) 2 l3) 3 l4) 4 l5)))]) (w1 := [(q102, .inr (1, [.ref q103, .int 0, .int 0, .int 1])), (q103, .inl (cq104, 16, .inl f105))]) hP hD [3, 4] [0, 1, 2] rfl rfl (by decide) (by decide) hk1 hFc hP1 hD1
    generalize H1 = H at hP hS ⊢
    have hP : va_P (dC, dI) vwCl [(h0, .inr (9, [.int 0, .ref h1, .ref z0, .ref z1, .int 0, .int 0, .int 0])), (h1, .inl (k0, 4, .inr (.inr (.inr (.inr (va_up (va_up (va_up (va_up (fun _ => none) 0 (some ge5)) 1 (some ge5)) 2 (some ge5)) 3 (some ge5))))))), (h2, .inl (k1, 5, .inl (upd (upd (upd (upd (upd (fun _ => 0) 0 l1) 1 0) 2 l3) 3 l4) 4 l5))), (q102, .inr (1, [.ref q103, .int 0, .int 0, .int 1])), (q103, .inl (cq104, 16, .inl f105))] H := hP
    have hD : va_D A [(h0, .inr (9, [.int 0, .ref h1, .ref z0, .ref z1, .int 0, .int 0, .int 0])), (h1, .inl (k0, 4, .inr (.inr (.inr (.inr (va_up (va_up (va_up (va_up (fun _ => none) 0 (some ge5)) 1 (some ge5)) 2 (some ge5)) 3 (some ge5))))))), (h2, .inl (k1, 5, .inl (upd (upd (upd (upd (upd (fun _ => 0) 0 l1) 1 0) 2 l3) 3 l4) 4 l5))), (q102, .inr (1, [.ref q103, .int 0, .int 0, .int 1])), (q103, .inl (cq104, 16, .inl f105))] := hD
    have hPc := hP.sub (ws' := [(q102, .inr (1, [.ref q103, .int 0, .int 0, .int 1])), (q103, .inl (cq104, 16, .inl f105))]) [3, 4] rfl
    have hDc := hD.sub (ws' := [(q102, .inr (1, [.ref q103, .int 0, .int 0, .int 1])), (q103, .inl (cq104, 16, .inl f105))]) [3, 4] (by decide) rfl
    have hKc := hK.sub (tys' := [(cq104, .byte)]) [2] rfl
    have hFc := va_free (wc := [(q102, .inr (1, [.ref q103, .int 0, .int 0, .int 1])), (q103, .inl (cq104, 16, .inl f105))]) hD hS hA [3, 4] rfl
    refine va_callr (va_runV (As := []) (rest := []) ⟨hx, hb, hml, hown, hts⟩ (kx_J4_toString_0e30d_1 l dC dI ge5 gea gv5 gva gde gic gi0 q102 q103 cq104 H.size f105 f105_t) (cwV 0 hts gX5_type_J4_toString_0e30d rfl rfl rfl (by decide +kernel) ⟨Nat.le_of_ble_eq_true rfl, Nat.le_of_ble_eq_true rfl⟩) ⟨fun a U g mk q => by obtain ⟨q0, q1, qP, qK, qD, qG⟩ := q; exact ⟨q0, q1, qP, va_K.moved (u := U) (U := U.calling g mk a) (Vm.Alike.refl U.vm) qK, qD, gv.fb qG⟩, va_recv hKc hPc (ci := 1) (q0 := 0) rfl rfl, fun U hU hW => ⟨rfl, by rw [hU], by rw [hU]; exact hPc, va_K.moved hW.alike hKc, hDc.weaken (fun _ _ _ _ => trivial), gv.pass hW hU hS hFc hG⟩⟩ rfl rfl hl.1 rfl (lv_room (Nat.le_of_ble_eq_true rfl)) dX5_type_113 ⟨Nat.le_of_ble_eq_true rfl, Nat.le_of_ble_eq_true rfl⟩) hS (fun q _ h => hFc q h) hFc (fun u ra t H1 locs ht hvm hw hB hz1 hk1 hS => ?_)
    obtain ⟨q106, q107, cq108, f109, f109_t, hra, hP1, hK1, hD1⟩ := hB
    rw [hra]
    rw [ht] at hP1
    have hK1 := va_K.moved hvm.symm hK1
    obtain ⟨hP, hD⟩ := va_join (wr := [(h0, .inr (9, [.int 0, .ref h1, .ref z0, .ref z1, .int 0, .int 0, .int 0])), (h1, .inl (k0, 4, .inr (.inr (.inr (.inr (va_up (va_up (va_up (va_up (fun _ => none) 0 (some ge5)) 1 (some ge5)) 2 (some ge5)) 3 (some ge5))))))), (h2, .inl (k1, 5, .inl (upd (upd (upd (upd (upd (fun _ => 0) 0 l1) 1 0) 2 l3) 3 l4) 4 l5)))]) (w1 := [(q102, .inr (1, [.ref q103, .int 0, .int 0, .int 1])), (q103, .inl (cq104, 16, .inl f105)), (q106, .inr (0, [.ref q107, .int 0, .int 0, .int 0])), (q107, .inl (cq108, 1, .inl f109))]) hP hD [3, 4] [0, 1, 2] rfl rfl (by decide) (by decide) hk1 hFc hP1 hD1
    have hK := hK.app (hK1.sub (tys' := [(cq108, .byte)]) [1] rfl)
    generalize H1 = H at hP hS ⊢
    have hK : va_K (dC, dI) vwCl [(k0, .object "java/lang/String"), (k1, .int), (cq104, .byte), (cq108, .byte)] s := hK
    have hP : va_P (dC, dI) vwCl [(h0, .inr (9, [.int 0, .ref h1, .ref z0, .ref z1, .int 0, .int 0, .int 0])), (h1, .inl (k0, 4, .inr (.inr (.inr (.inr (va_up (va_up (va_up (va_up (fun _ => none) 0 (some ge5)) 1 (some ge5)) 2 (some ge5)) 3 (some ge5))))))), (h2, .inl (k1, 5, .inl (upd (upd (upd (upd (upd (fun _ => 0) 0 l1) 1 0) 2 l3) 3 l4) 4 l5))), (q102, .inr (1, [.ref q103, .int 0, .int 0, .int 1])), (q103, .inl (cq104, 16, .inl f105)), (q106, .inr (0, [.ref q107, .int 0, .int 0, .int 0])), (q107, .inl (cq108, 1, .inl f109))] H := hP
    have hD : va_D A [(h0, .inr (9, [.int 0, .ref h1, .ref z0, .ref z1, .int 0, .int 0, .int 0])), (h1, .inl (k0, 4, .inr (.inr (.inr (.inr (va_up (va_up (va_up (va_up (fun _ => none) 0 (some ge5)) 1 (some ge5)) 2 (some ge5)) 3 (some ge5))))))), (h2, .inl (k1, 5, .inl (upd (upd (upd (upd (upd (fun _ => 0) 0 l1) 1 0) 2 l3) 3 l4) 4 l5))), (q102, .inr (1, [.ref q103, .int 0, .int 0, .int 1])), (q103, .inl (cq104, 16, .inl f105)), (q106, .inr (0, [.ref q107, .int 0, .int 0, .int 0])), (q107, .inl (cq108, 1, .inl f109))] := hD
    refine W.widen (k := 5) (n := 30) (by omega) (by omega) ?_
    refine lv_astore (lv' := [(9, .ref q106), (8, .int 0), (13, .int 0), (0, .ref h0), (1, .int rp), (7, .ref h2), (10, .ref h2), (11, .int 5), (12, .int 1)]) hx hb dX5_type_116 hl (by decide) rfl (fun ls hl => ?_)
    refine lv_iinc (v := 2) (lv' := [(12, .int 2), (9, .ref q106), (8, .int 0), (13, .int 0), (0, .ref h0), (1, .int rp), (7, .ref h2), (10, .ref h2), (11, .int 5)]) hx hb dX5_type_118 hl (k := 8) rfl (by decide) (by decide) rfl (fun ls hl => ?_)
    refine lv_goto (tgt := 47) hx hb dX5_type_121 (by decide) ?_
    have hP := hP.sub (ws' := [(h0, .inr (9, [.int 0, .ref h1, .ref z0, .ref z1, .int 0, .int 0, .int 0])), (h1, .inl (k0, 4, .inr (.inr (.inr (.inr (va_up (va_up (va_up (va_up (fun _ => none) 0 (some ge5)) 1 (some ge5)) 2 (some ge5)) 3 (some ge5))))))), (h2, .inl (k1, 5, .inl (upd (upd (upd (upd (upd (fun _ => 0) 0 l1) 1 0) 2 l3) 3 l4) 4 l5))), (q106, .inr (0, [.ref q107, .int 0, .int 0, .int 0])), (q107, .inl (cq108, 1, .inl f109))]) [0, 1, 2, 5, 6] rfl
    have hD := hD.sub (ws' := [(h0, .inr (9, [.int 0, .ref h1, .ref z0, .ref z1, .int 0, .int 0, .int 0])), (h1, .inl (k0, 4, .inr (.inr (.inr (.inr (va_up (va_up (va_up (va_up (fun _ => none) 0 (some ge5)) 1 (some ge5)) 2 (some ge5)) 3 (some ge5))))))), (h2, .inl (k1, 5, .inl (upd (upd (upd (upd (upd (fun _ => 0) 0 l1) 1 0) 2 l3) 3 l4) 4 l5))), (q106, .inr (0, [.ref q107, .int 0, .int 0, .int 0])), (q107, .inl (cq108, 1, .inl f109))]) [0, 1, 2, 5, 6] (by decide) rfl
    have hK := hK.sub (tys' := [(k0, .object "java/lang/String"), (k1, .int), (cq108, .byte)]) [0, 1, 3] rfl
    have hl := lv_sub hl [4, 5, 6, 2, 1, 7, 8, 0] (show lv_pick [(12, .int 2), (9, .ref q106), (8, .int 0), (13, .int 0), (0, .ref h0), (1, .int rp), (7, .ref h2), (10, .ref h2), (11, .int 5)] [4, 5, 6, 2, 1, 7, 8, 0] = [(0, .ref h0), (1, .int rp), (7, .ref h2), (8, .int 0), (9, .ref q106), (10, .ref h2), (11, .int 5), (12, .int 2)] from rfl)
    exact kx_X5_type_h210 f109_t hR hx hb hr hml hown hts hlocks hA hG hS hK hP hD hl
  · have hR : kz_ty rp 1 0 [l3, l4, l5] = (R, v) := (kz_ty_g (by decide) (by decide)).symm.trans hR
    refine lv_iload hx hb dX5_type_47 (lv_at hl 7 rfl) ?_
    refine lv_iload hx hb dX5_type_49 (lv_at hl 6 rfl) ?_
    refine lv_icmp_ge (tgt := 124) hx hb dX5_type_51 (by decide) (fun c9 => absurd c9 (by decide)) (fun _ => ?_)
    refine lv_aload hx hb dX5_type_54 (lv_at hl 5 rfl) ?_
    refine lv_iload hx hb dX5_type_56 (lv_at hl 7 rfl) ?_
    refine va_iald (D := (dC, dI)) hx hb hK hP 2 1 rfl rfl (by unfold vp_in; decide) dX5_type_58 ?_
    refine W.eq (g2 := F0 m 59 ls [.int 1]) rfl ?_
    refine lv_istore (lv' := [(13, .int 1), (0, .ref h0), (1, .int rp), (7, .ref h2), (8, .int 0), (9, .ref ge5), (10, .ref h2), (11, .int 5), (12, .int 1)]) hx hb dX5_type_59 hl (by decide) rfl (fun ls hl => ?_)
    refine lv_iload hx hb dX5_type_61 (lv_at hl 4 rfl) ?_
    refine lv_iload hx hb dX5_type_63 (lv_at hl 0 rfl) ?_
    refine lv_iconst (v := (-1)) hx hb dX5_type_65 (by decide) ?_
    refine lv_iconst (v := 3) hx hb dX5_type_66 (by decide) ?_
    have hPc := hP.sub (ws' := []) [] rfl
    have hDc := hD.sub (ws' := []) [] (by decide) rfl
    have hKc := hK.sub (tys' := []) [] rfl
    have hFc := va_free (wc := []) hD hS hA [] rfl
    refine va_calli (va_runS (As := [.int 1, .int (-1), .int 3]) (rest := [.int 0]) ⟨hx, hb, hml, hown, hts⟩ (kx_X5_isIn_9 l dC dI H.size) (cwS 3 hts gX5_type_X5_isIn rfl rfl rfl (by decide +kernel) ⟨Nat.le_of_ble_eq_true rfl, Nat.le_of_ble_eq_true rfl⟩) ⟨fun a U g mk q => by obtain ⟨q0, q1, qP, qK, qD⟩ := q; exact ⟨q0, q1, qP, va_K.moved (u := U) (U := U.calling g mk a) (Vm.Alike.refl U.vm) qK, qD⟩, fun U hU hW => ⟨rfl, by rw [hU], by rw [hU]; exact hPc, va_K.moved hW.alike hKc, hDc.weaken (fun _ _ _ _ => trivial)⟩⟩ rfl rfl hl.1 rfl (lv_room (Nat.le_of_ble_eq_true rfl)) dX5_type_67 ⟨Nat.le_of_ble_eq_true rfl, Nat.le_of_ble_eq_true rfl⟩) hS (fun q _ h => hFc q h) hFc (fun r9 u t H1 locs ht hvm hw hB hz1 hk1 hS => ?_)
    obtain rfl := hw
    obtain ⟨hP1, hK1, hD1⟩ := hB
    rw [ht] at hP1
    have hK1 := va_K.moved hvm.symm hK1
    obtain ⟨hP, hD⟩ := va_join (wr := [(h0, .inr (9, [.int 0, .ref h1, .ref z0, .ref z1, .int 0, .int 0, .int 0])), (h1, .inl (k0, 4, .inr (.inr (.inr (.inr (va_up (va_up (va_up (va_up (fun _ => none) 0 (some ge5)) 1 (some ge5)) 2 (some ge5)) 3 (some ge5))))))), (h2, .inl (k1, 5, .inl (upd (upd (upd (upd (upd (fun _ => 0) 0 l1) 1 1) 2 l3) 3 l4) 4 l5)))]) (w1 := []) hP hD [] [0, 1, 2] rfl rfl (by decide) (by decide) hk1 hFc hP1 hD1
    generalize H1 = H at hP hS ⊢
    have hP : va_P (dC, dI) vwCl [(h0, .inr (9, [.int 0, .ref h1, .ref z0, .ref z1, .int 0, .int 0, .int 0])), (h1, .inl (k0, 4, .inr (.inr (.inr (.inr (va_up (va_up (va_up (va_up (fun _ => none) 0 (some ge5)) 1 (some ge5)) 2 (some ge5)) 3 (some ge5))))))), (h2, .inl (k1, 5, .inl (upd (upd (upd (upd (upd (fun _ => 0) 0 l1) 1 1) 2 l3) 3 l4) 4 l5)))] H := hP
    have hD : va_D A [(h0, .inr (9, [.int 0, .ref h1, .ref z0, .ref z1, .int 0, .int 0, .int 0])), (h1, .inl (k0, 4, .inr (.inr (.inr (.inr (va_up (va_up (va_up (va_up (fun _ => none) 0 (some ge5)) 1 (some ge5)) 2 (some ge5)) 3 (some ge5))))))), (h2, .inl (k1, 5, .inl (upd (upd (upd (upd (upd (fun _ => 0) 0 l1) 1 1) 2 l3) 3 l4) 4 l5)))] := hD
    refine lv_if_ne (tgt := 77) hx hb dX5_type_70 (by decide) (fun _ => ?_) (fun c9 => absurd c9 (by decide))
    refine lv_iconst (v := 0) hx hb dX5_type_77 (by decide) ?_
    refine lv_ior hx hb dX5_type_78 ?_
    refine lv_topi (fun y101 ey101 => ?_)
    obtain rfl : y101 = 0 := ey101.trans (by decide)
    refine lv_istore (lv' := [(8, .int 0), (13, .int 1), (0, .ref h0), (1, .int rp), (7, .ref h2), (9, .ref ge5), (10, .ref h2), (11, .int 5), (12, .int 1)]) hx hb dX5_type_79 hl (by decide) rfl (fun ls hl => ?_)
    refine lv_iload hx hb dX5_type_81 (lv_at hl 1 rfl) ?_
    refine lv_iconst (v := 0) hx hb dX5_type_83 (by decide) ?_
    refine lv_iconst (v := 3) hx hb dX5_type_84 (by decide) ?_
    have hPc := hP.sub (ws' := []) [] rfl
    have hDc := hD.sub (ws' := []) [] (by decide) rfl
    have hKc := hK.sub (tys' := []) [] rfl
    have hFc := va_free (wc := []) hD hS hA [] rfl
    refine va_calli (va_runS (As := [.int 1, .int 0, .int 3]) (rest := []) ⟨hx, hb, hml, hown, hts⟩ (kx_X5_isIn_10 l dC dI H.size) (cwS 3 hts gX5_type_X5_isIn rfl rfl rfl (by decide +kernel) ⟨Nat.le_of_ble_eq_true rfl, Nat.le_of_ble_eq_true rfl⟩) ⟨fun a U g mk q => by obtain ⟨q0, q1, qP, qK, qD⟩ := q; exact ⟨q0, q1, qP, va_K.moved (u := U) (U := U.calling g mk a) (Vm.Alike.refl U.vm) qK, qD⟩, fun U hU hW => ⟨rfl, by rw [hU], by rw [hU]; exact hPc, va_K.moved hW.alike hKc, hDc.weaken (fun _ _ _ _ => trivial)⟩⟩ rfl rfl hl.1 rfl (lv_room (Nat.le_of_ble_eq_true rfl)) dX5_type_85 ⟨Nat.le_of_ble_eq_true rfl, Nat.le_of_ble_eq_true rfl⟩) hS (fun q _ h => hFc q h) hFc (fun r9 u t H1 locs ht hvm hw hB hz1 hk1 hS => ?_)
    obtain rfl := hw
    obtain ⟨hP1, hK1, hD1⟩ := hB
    rw [ht] at hP1
    have hK1 := va_K.moved hvm.symm hK1
    obtain ⟨hP, hD⟩ := va_join (wr := [(h0, .inr (9, [.int 0, .ref h1, .ref z0, .ref z1, .int 0, .int 0, .int 0])), (h1, .inl (k0, 4, .inr (.inr (.inr (.inr (va_up (va_up (va_up (va_up (fun _ => none) 0 (some ge5)) 1 (some ge5)) 2 (some ge5)) 3 (some ge5))))))), (h2, .inl (k1, 5, .inl (upd (upd (upd (upd (upd (fun _ => 0) 0 l1) 1 1) 2 l3) 3 l4) 4 l5)))]) (w1 := []) hP hD [] [0, 1, 2] rfl rfl (by decide) (by decide) hk1 hFc hP1 hD1
    generalize H1 = H at hP hS ⊢
    have hP : va_P (dC, dI) vwCl [(h0, .inr (9, [.int 0, .ref h1, .ref z0, .ref z1, .int 0, .int 0, .int 0])), (h1, .inl (k0, 4, .inr (.inr (.inr (.inr (va_up (va_up (va_up (va_up (fun _ => none) 0 (some ge5)) 1 (some ge5)) 2 (some ge5)) 3 (some ge5))))))), (h2, .inl (k1, 5, .inl (upd (upd (upd (upd (upd (fun _ => 0) 0 l1) 1 1) 2 l3) 3 l4) 4 l5)))] H := hP
    have hD : va_D A [(h0, .inr (9, [.int 0, .ref h1, .ref z0, .ref z1, .int 0, .int 0, .int 0])), (h1, .inl (k0, 4, .inr (.inr (.inr (.inr (va_up (va_up (va_up (va_up (fun _ => none) 0 (some ge5)) 1 (some ge5)) 2 (some ge5)) 3 (some ge5))))))), (h2, .inl (k1, 5, .inl (upd (upd (upd (upd (upd (fun _ => 0) 0 l1) 1 1) 2 l3) 3 l4) 4 l5)))] := hD
    refine lv_if_eq (tgt := 118) hx hb dX5_type_88 (by decide) (fun c9 => absurd c9 (by decide)) (fun _ => ?_)
    refine va_new (ci := 1) (fs := [.null, .int 0, .int 0, .int 0]) (C := RJ4) (T := TJ4) (N := 4) hx hb hts (by decide +kernel) tyJ4 tyJ4_ok hown (hts (.classLink RX5 49 RJ4) (by decide +kernel)) (hts (.instantiable RJ4 4) (by decide +kernel)) (hts (.initialized RJ4) (by decide +kernel)) hK hP hD hS hA rfl (fun j hj => by rcases (show j = 0 ∨ j = 1 ∨ j = 2 ∨ j = 3 by omega) with rfl | rfl | rfl | rfl <;> rfl) (Nat.le_of_ble_eq_true rfl) (Nat.le_of_ble_eq_true rfl) dX5_type_91 (fun q102 H hP hD hS => ?_)
    have hP : va_P (dC, dI) vwCl [(h0, .inr (9, [.int 0, .ref h1, .ref z0, .ref z1, .int 0, .int 0, .int 0])), (h1, .inl (k0, 4, .inr (.inr (.inr (.inr (va_up (va_up (va_up (va_up (fun _ => none) 0 (some ge5)) 1 (some ge5)) 2 (some ge5)) 3 (some ge5))))))), (h2, .inl (k1, 5, .inl (upd (upd (upd (upd (upd (fun _ => 0) 0 l1) 1 1) 2 l3) 3 l4) 4 l5))), (q102, .inr (1, [.null, .int 0, .int 0, .int 0]))] H := hP
    have hD : va_D A [(h0, .inr (9, [.int 0, .ref h1, .ref z0, .ref z1, .int 0, .int 0, .int 0])), (h1, .inl (k0, 4, .inr (.inr (.inr (.inr (va_up (va_up (va_up (va_up (fun _ => none) 0 (some ge5)) 1 (some ge5)) 2 (some ge5)) 3 (some ge5))))))), (h2, .inl (k1, 5, .inl (upd (upd (upd (upd (upd (fun _ => 0) 0 l1) 1 1) 2 l3) 3 l4) 4 l5))), (q102, .inr (1, [.null, .int 0, .int 0, .int 0]))] := hD
    refine W.widen (k := 2) (n := 9) (by omega) (by omega) ?_
    refine lv_dup hx hb dX5_type_94 rfl ?_
    have hPc := hP.sub (ws' := [(q102, .inr (1, [.null, .int 0, .int 0, .int 0]))]) [3] rfl
    have hDc := hD.sub (ws' := [(q102, .inr (1, [.null, .int 0, .int 0, .int 0]))]) [3] (by decide) rfl
    have hKc := hK.sub (tys' := []) [] rfl
    have hFc := va_free (wc := [(q102, .inr (1, [.null, .int 0, .int 0, .int 0]))]) hD hS hA [3] rfl
    refine va_callv (va_runI (As := []) (rest := [.ref q102]) ⟨hx, hb, hml, hown, hts⟩ (kx_J4_init_da8c8_0 l dC dI ge5 gea gv5 gva gde gic gi0 q102 H.size) (cwI 0 hts gX5_type_J4_init_da8c8 rfl rfl rfl (hts (.initialized RJ4) (by decide +kernel)) (hts (.methodLink RX5 51 yJ4_init_da8c8) (by decide +kernel)) (hts (.instanceMethod yJ4_init_da8c8) (by decide +kernel)) rfl (by decide +kernel) ⟨Nat.le_of_ble_eq_true rfl, Nat.le_of_ble_eq_true rfl⟩) ⟨fun a U g mk q => by obtain ⟨q0, q1, qP, qK, qD, qG⟩ := q; exact ⟨q0, q1, qP, va_K.moved (u := U) (U := U.calling g mk a) (Vm.Alike.refl U.vm) qK, qD, gv.fb qG⟩, fun U hU hW => ⟨rfl, by rw [hU], by rw [hU]; exact hPc, va_K.moved hW.alike hKc, hDc.weaken (fun _ _ _ _ => trivial), gv.pass hW hU hS hFc hG⟩⟩ rfl rfl hl.1 rfl (lv_room (Nat.le_of_ble_eq_true rfl)) dX5_type_95 ⟨Nat.le_of_ble_eq_true rfl, Nat.le_of_ble_eq_true rfl⟩) hS (fun q _ h => hFc q h) hFc (fun u t H1 locs ht hvm hw hB hz1 hk1 hS => ?_)
    obtain ⟨q103, cq104, hP1, hK1, hD1⟩ := hB
    rw [ht] at hP1
    have hK1 := va_K.moved hvm.symm hK1
    obtain ⟨hP, hD⟩ := va_join (wr := [(h0, .inr (9, [.int 0, .ref h1, .ref z0, .ref z1, .int 0, .int 0, .int 0])), (h1, .inl (k0, 4, .inr (.inr (.inr (.inr (va_up (va_up (va_up (va_up (fun _ => none) 0 (some ge5)) 1 (some ge5)) 2 (some ge5)) 3 (some ge5))))))), (h2, .inl (k1, 5, .inl (upd (upd (upd (upd (upd (fun _ => 0) 0 l1) 1 1) 2 l3) 3 l4) 4 l5)))]) (w1 := [(q102, .inr (1, [.ref q103, .int 0, .int 0, .int 0])), (q103, .inl (cq104, 16, .inl (fun _ => 0)))]) hP hD [3] [0, 1, 2] rfl rfl (by decide) (by decide) hk1 hFc hP1 hD1
    have hK := hK.app (hK1.sub (tys' := [(cq104, .byte)]) [0] rfl)
    generalize H1 = H at hP hS ⊢
    have hK : va_K (dC, dI) vwCl [(k0, .object "java/lang/String"), (k1, .int), (cq104, .byte)] s := hK
    have hP : va_P (dC, dI) vwCl [(h0, .inr (9, [.int 0, .ref h1, .ref z0, .ref z1, .int 0, .int 0, .int 0])), (h1, .inl (k0, 4, .inr (.inr (.inr (.inr (va_up (va_up (va_up (va_up (fun _ => none) 0 (some ge5)) 1 (some ge5)) 2 (some ge5)) 3 (some ge5))))))), (h2, .inl (k1, 5, .inl (upd (upd (upd (upd (upd (fun _ => 0) 0 l1) 1 1) 2 l3) 3 l4) 4 l5))), (q102, .inr (1, [.ref q103, .int 0, .int 0, .int 0])), (q103, .inl (cq104, 16, .inl (fun _ => 0)))] H := hP
    have hD : va_D A [(h0, .inr (9, [.int 0, .ref h1, .ref z0, .ref z1, .int 0, .int 0, .int 0])), (h1, .inl (k0, 4, .inr (.inr (.inr (.inr (va_up (va_up (va_up (va_up (fun _ => none) 0 (some ge5)) 1 (some ge5)) 2 (some ge5)) 3 (some ge5))))))), (h2, .inl (k1, 5, .inl (upd (upd (upd (upd (upd (fun _ => 0) 0 l1) 1 1) 2 l3) 3 l4) 4 l5))), (q102, .inr (1, [.ref q103, .int 0, .int 0, .int 0])), (q103, .inl (cq104, 16, .inl (fun _ => 0)))] := hD
    refine W.widen (k := 3) (n := 25) (by omega) (by omega) ?_
    refine lv_aload hx hb dX5_type_98 (lv_at hl 5 rfl) ?_
    have hPc := hP.sub (ws' := [(q102, .inr (1, [.ref q103, .int 0, .int 0, .int 0])), (q103, .inl (cq104, 16, .inl (fun _ => 0)))]) [3, 4] rfl
    have hDc := hD.sub (ws' := [(q102, .inr (1, [.ref q103, .int 0, .int 0, .int 0])), (q103, .inl (cq104, 16, .inl (fun _ => 0)))]) [3, 4] (by decide) rfl
    have hKc := hK.sub (tys' := [(cq104, .byte)]) [2] rfl
    have hFc := va_free (wc := [(q102, .inr (1, [.ref q103, .int 0, .int 0, .int 0])), (q103, .inl (cq104, 16, .inl (fun _ => 0)))]) hD hS hA [3, 4] rfl
    refine va_callr (va_runV (As := [.ref ge5]) (rest := []) ⟨hx, hb, hml, hown, hts⟩ (kx_J4_append_15ec4_0 l dC dI ge5 gea gv5 gva gde gic gi0 q102 q103 cq104 H.size) (cwV 1 hts gX5_type_J4_append_15ec4 rfl rfl rfl (by decide +kernel) ⟨Nat.le_of_ble_eq_true rfl, Nat.le_of_ble_eq_true rfl⟩) ⟨fun a U g mk q => by obtain ⟨q0, q1, qP, qK, qD, qG⟩ := q; exact ⟨q0, q1, qP, va_K.moved (u := U) (U := U.calling g mk a) (Vm.Alike.refl U.vm) qK, qD, gv.fb qG⟩, va_recv hKc hPc (ci := 1) (q0 := 0) rfl rfl, fun U hU hW => ⟨rfl, by rw [hU], by rw [hU]; exact hPc, va_K.moved hW.alike hKc, hDc.weaken (fun _ _ _ _ => trivial), gv.pass hW hU hS hFc hG⟩⟩ rfl rfl hl.1 rfl (lv_room (Nat.le_of_ble_eq_true rfl)) dX5_type_100 ⟨Nat.le_of_ble_eq_true rfl, Nat.le_of_ble_eq_true rfl⟩) hS (fun q _ h => hFc q h) hFc (fun u ra t H1 locs ht hvm hw hB hz1 hk1 hS => ?_)
    obtain ⟨hra, hP1, hK1, hD1⟩ := hB
    rw [hra]
    rw [ht] at hP1
    have hK1 := va_K.moved hvm.symm hK1
    obtain ⟨hP, hD⟩ := va_join (wr := [(h0, .inr (9, [.int 0, .ref h1, .ref z0, .ref z1, .int 0, .int 0, .int 0])), (h1, .inl (k0, 4, .inr (.inr (.inr (.inr (va_up (va_up (va_up (va_up (fun _ => none) 0 (some ge5)) 1 (some ge5)) 2 (some ge5)) 3 (some ge5))))))), (h2, .inl (k1, 5, .inl (upd (upd (upd (upd (upd (fun _ => 0) 0 l1) 1 1) 2 l3) 3 l4) 4 l5)))]) (w1 := [(q102, .inr (1, [.ref q103, .int 0, .int 0, .int 0])), (q103, .inl (cq104, 16, .inl (fun _ => 0)))]) hP hD [3, 4] [0, 1, 2] rfl rfl (by decide) (by decide) hk1 hFc hP1 hD1
    generalize H1 = H at hP hS ⊢
    have hP : va_P (dC, dI) vwCl [(h0, .inr (9, [.int 0, .ref h1, .ref z0, .ref z1, .int 0, .int 0, .int 0])), (h1, .inl (k0, 4, .inr (.inr (.inr (.inr (va_up (va_up (va_up (va_up (fun _ => none) 0 (some ge5)) 1 (some ge5)) 2 (some ge5)) 3 (some ge5))))))), (h2, .inl (k1, 5, .inl (upd (upd (upd (upd (upd (fun _ => 0) 0 l1) 1 1) 2 l3) 3 l4) 4 l5))), (q102, .inr (1, [.ref q103, .int 0, .int 0, .int 0])), (q103, .inl (cq104, 16, .inl (fun _ => 0)))] H := hP
    have hD : va_D A [(h0, .inr (9, [.int 0, .ref h1, .ref z0, .ref z1, .int 0, .int 0, .int 0])), (h1, .inl (k0, 4, .inr (.inr (.inr (.inr (va_up (va_up (va_up (va_up (fun _ => none) 0 (some ge5)) 1 (some ge5)) 2 (some ge5)) 3 (some ge5))))))), (h2, .inl (k1, 5, .inl (upd (upd (upd (upd (upd (fun _ => 0) 0 l1) 1 1) 2 l3) 3 l4) 4 l5))), (q102, .inr (1, [.ref q103, .int 0, .int 0, .int 0])), (q103, .inl (cq104, 16, .inl (fun _ => 0)))] := hD
    refine va_ldcS hx hb hown g_sa dX5_type_103 ?_
    refine lv_iload hx hb dX5_type_105 (lv_at hl 1 rfl) ?_
    have hPc := hP.sub (ws' := []) [] rfl
    have hDc := hD.sub (ws' := []) [] (by decide) rfl
    have hKc := hK.sub (tys' := []) [] rfl
    have hFc := va_free (wc := []) hD hS hA [] rfl
    refine va_calli (va_runV (As := [.int 1]) (rest := [.ref q102]) ⟨hx, hb, hml, hown, hts⟩ (kx_J0_charAt_5068e_1 l dC dI ge5 gea gv5 gva gde gic gi0 H.size) (cwV 1 hts gX5_type_J0_charAt_5068e rfl rfl rfl (by decide +kernel) ⟨Nat.le_of_ble_eq_true rfl, Nat.le_of_ble_eq_true rfl⟩) ⟨fun a U g mk q => by obtain ⟨q0, q1, qP, qK, qD, qG⟩ := q; exact ⟨q0, q1, qP, va_K.moved (u := U) (U := U.calling g mk a) (Vm.Alike.refl U.vm) qK, qD, gv.fb qG⟩, (by obtain ⟨cell, k1, k2, k3, -⟩ := g_oa.kept hS.2.1; exact ⟨cell, k1, k2, k3⟩), fun U hU hW => ⟨rfl, by rw [hU], by rw [hU]; exact hPc, va_K.moved hW.alike hKc, hDc.weaken (fun _ _ _ _ => trivial), gv.pass hW hU hS hFc hG⟩⟩ rfl rfl hl.1 rfl (lv_room (Nat.le_of_ble_eq_true rfl)) dX5_type_107 ⟨Nat.le_of_ble_eq_true rfl, Nat.le_of_ble_eq_true rfl⟩) hS (fun q _ h => hFc q h) hFc (fun r9 u t H1 locs ht hvm hw hB hz1 hk1 hS => ?_)
    obtain rfl := hw
    obtain ⟨hP1, hK1, hD1⟩ := hB
    rw [ht] at hP1
    have hK1 := va_K.moved hvm.symm hK1
    obtain ⟨hP, hD⟩ := va_join (wr := [(h0, .inr (9, [.int 0, .ref h1, .ref z0, .ref z1, .int 0, .int 0, .int 0])), (h1, .inl (k0, 4, .inr (.inr (.inr (.inr (va_up (va_up (va_up (va_up (fun _ => none) 0 (some ge5)) 1 (some ge5)) 2 (some ge5)) 3 (some ge5))))))), (h2, .inl (k1, 5, .inl (upd (upd (upd (upd (upd (fun _ => 0) 0 l1) 1 1) 2 l3) 3 l4) 4 l5))), (q102, .inr (1, [.ref q103, .int 0, .int 0, .int 0])), (q103, .inl (cq104, 16, .inl (fun _ => 0)))]) (w1 := []) hP hD [] [0, 1, 2, 3, 4] rfl rfl (by decide) (by decide) hk1 hFc hP1 hD1
    generalize H1 = H at hP hS ⊢
    have hP : va_P (dC, dI) vwCl [(h0, .inr (9, [.int 0, .ref h1, .ref z0, .ref z1, .int 0, .int 0, .int 0])), (h1, .inl (k0, 4, .inr (.inr (.inr (.inr (va_up (va_up (va_up (va_up (fun _ => none) 0 (some ge5)) 1 (some ge5)) 2 (some ge5)) 3 (some ge5))))))), (h2, .inl (k1, 5, .inl (upd (upd (upd (upd (upd (fun _ => 0) 0 l1) 1 1) 2 l3) 3 l4) 4 l5))), (q102, .inr (1, [.ref q103, .int 0, .int 0, .int 0])), (q103, .inl (cq104, 16, .inl (fun _ => 0)))] H := hP
    have hD : va_D A [(h0, .inr (9, [.int 0, .ref h1, .ref z0, .ref z1, .int 0, .int 0, .int 0])), (h1, .inl (k0, 4, .inr (.inr (.inr (.inr (va_up (va_up (va_up (va_up (fun _ => none) 0 (some ge5)) 1 (some ge5)) 2 (some ge5)) 3 (some ge5))))))), (h2, .inl (k1, 5, .inl (upd (upd (upd (upd (upd (fun _ => 0) 0 l1) 1 1) 2 l3) 3 l4) 4 l5))), (q102, .inr (1, [.ref q103, .int 0, .int 0, .int 0])), (q103, .inl (cq104, 16, .inl (fun _ => 0)))] := hD
    have hPc := hP.sub (ws' := [(q102, .inr (1, [.ref q103, .int 0, .int 0, .int 0])), (q103, .inl (cq104, 16, .inl (fun _ => 0)))]) [3, 4] rfl
    have hDc := hD.sub (ws' := [(q102, .inr (1, [.ref q103, .int 0, .int 0, .int 0])), (q103, .inl (cq104, 16, .inl (fun _ => 0)))]) [3, 4] (by decide) rfl
    have hKc := hK.sub (tys' := [(cq104, .byte)]) [2] rfl
    have hFc := va_free (wc := [(q102, .inr (1, [.ref q103, .int 0, .int 0, .int 0])), (q103, .inl (cq104, 16, .inl (fun _ => 0)))]) hD hS hA [3, 4] rfl
    refine va_callr (va_runV (As := [.int 98]) (rest := []) ⟨hx, hb, hml, hown, hts⟩ (kx_J4_append_cf468_1 l dC dI ge5 gea gv5 gva gde gic gi0 q102 q103 cq104 H.size) (cwV 1 hts gX5_type_J4_append_cf468 rfl rfl rfl (by decide +kernel) ⟨Nat.le_of_ble_eq_true rfl, Nat.le_of_ble_eq_true rfl⟩) ⟨fun a U g mk q => by obtain ⟨q0, q1, qP, qK, qD, qG⟩ := q; exact ⟨q0, q1, qP, va_K.moved (u := U) (U := U.calling g mk a) (Vm.Alike.refl U.vm) qK, qD, gv.fb qG⟩, va_recv hKc hPc (ci := 1) (q0 := 0) rfl rfl, fun U hU hW => ⟨rfl, by rw [hU], by rw [hU]; exact hPc, va_K.moved hW.alike hKc, hDc.weaken (fun _ _ _ _ => trivial), gv.pass hW hU hS hFc hG⟩⟩ rfl rfl hl.1 rfl (lv_room (Nat.le_of_ble_eq_true rfl)) dX5_type_110 ⟨Nat.le_of_ble_eq_true rfl, Nat.le_of_ble_eq_true rfl⟩) hS (fun q _ h => hFc q h) hFc (fun u ra t H1 locs ht hvm hw hB hz1 hk1 hS => ?_)
    obtain ⟨f105, f105_t, hra, hP1, hK1, hD1⟩ := hB
    rw [hra]
    rw [ht] at hP1
    have hK1 := va_K.moved hvm.symm hK1
    obtain ⟨hP, hD⟩ := va_join (wr := [(h0, .inr (9, [.int 0, .ref h1, .ref z0, .ref z1, .int 0, .int 0, .int 0])), (h1, .inl (k0, 4, .inr (.inr (.inr (.inr (va_up (va_up (va_up (va_up (fun _ => none) 0 (some ge5)) 1 (some ge5)) 2 (some ge5)) 3 (some ge5))))))), (h2, .inl (k1, 5, .inl (upd (upd (upd (upd (upd (fun _ => 0) 0 l1) 1 1) 2 l3) 3 l4) 4 l5)))]) (w1 := [(q102, .inr (1, [.ref q103, .int 0, .int 0, .int 1])), (q103, .inl (cq104, 16, .inl f105))]) hP hD [3, 4] [0, 1, 2] rfl rfl (by decide) (by decide) hk1 hFc hP1 hD1
    generalize H1 = H at hP hS ⊢
    have hP : va_P (dC, dI) vwCl [(h0, .inr (9, [.int 0, .ref h1, .ref z0, .ref z1, .int 0, .int 0, .int 0])), (h1, .inl (k0, 4, .inr (.inr (.inr (.inr (va_up (va_up (va_up (va_up (fun _ => none) 0 (some ge5)) 1 (some ge5)) 2 (some ge5)) 3 (some ge5))))))), (h2, .inl (k1, 5, .inl (upd (upd (upd (upd (upd (fun _ => 0) 0 l1) 1 1) 2 l3) 3 l4) 4 l5))), (q102, .inr (1, [.ref q103, .int 0, .int 0, .int 1])), (q103, .inl (cq104, 16, .inl f105))] H := hP
    have hD : va_D A [(h0, .inr (9, [.int 0, .ref h1, .ref z0, .ref z1, .int 0, .int 0, .int 0])), (h1, .inl (k0, 4, .inr (.inr (.inr (.inr (va_up (va_up (va_up (va_up (fun _ => none) 0 (some ge5)) 1 (some ge5)) 2 (some ge5)) 3 (some ge5))))))), (h2, .inl (k1, 5, .inl (upd (upd (upd (upd (upd (fun _ => 0) 0 l1) 1 1) 2 l3) 3 l4) 4 l5))), (q102, .inr (1, [.ref q103, .int 0, .int 0, .int 1])), (q103, .inl (cq104, 16, .inl f105))] := hD
    have hPc := hP.sub (ws' := [(q102, .inr (1, [.ref q103, .int 0, .int 0, .int 1])), (q103, .inl (cq104, 16, .inl f105))]) [3, 4] rfl
    have hDc := hD.sub (ws' := [(q102, .inr (1, [.ref q103, .int 0, .int 0, .int 1])), (q103, .inl (cq104, 16, .inl f105))]) [3, 4] (by decide) rfl
    have hKc := hK.sub (tys' := [(cq104, .byte)]) [2] rfl
    have hFc := va_free (wc := [(q102, .inr (1, [.ref q103, .int 0, .int 0, .int 1])), (q103, .inl (cq104, 16, .inl f105))]) hD hS hA [3, 4] rfl
    refine va_callr (va_runV (As := []) (rest := []) ⟨hx, hb, hml, hown, hts⟩ (kx_J4_toString_0e30d_1 l dC dI ge5 gea gv5 gva gde gic gi0 q102 q103 cq104 H.size f105 f105_t) (cwV 0 hts gX5_type_J4_toString_0e30d rfl rfl rfl (by decide +kernel) ⟨Nat.le_of_ble_eq_true rfl, Nat.le_of_ble_eq_true rfl⟩) ⟨fun a U g mk q => by obtain ⟨q0, q1, qP, qK, qD, qG⟩ := q; exact ⟨q0, q1, qP, va_K.moved (u := U) (U := U.calling g mk a) (Vm.Alike.refl U.vm) qK, qD, gv.fb qG⟩, va_recv hKc hPc (ci := 1) (q0 := 0) rfl rfl, fun U hU hW => ⟨rfl, by rw [hU], by rw [hU]; exact hPc, va_K.moved hW.alike hKc, hDc.weaken (fun _ _ _ _ => trivial), gv.pass hW hU hS hFc hG⟩⟩ rfl rfl hl.1 rfl (lv_room (Nat.le_of_ble_eq_true rfl)) dX5_type_113 ⟨Nat.le_of_ble_eq_true rfl, Nat.le_of_ble_eq_true rfl⟩) hS (fun q _ h => hFc q h) hFc (fun u ra t H1 locs ht hvm hw hB hz1 hk1 hS => ?_)
    obtain ⟨q106, q107, cq108, f109, f109_t, hra, hP1, hK1, hD1⟩ := hB
    rw [hra]
    rw [ht] at hP1
    have hK1 := va_K.moved hvm.symm hK1
    obtain ⟨hP, hD⟩ := va_join (wr := [(h0, .inr (9, [.int 0, .ref h1, .ref z0, .ref z1, .int 0, .int 0, .int 0])), (h1, .inl (k0, 4, .inr (.inr (.inr (.inr (va_up (va_up (va_up (va_up (fun _ => none) 0 (some ge5)) 1 (some ge5)) 2 (some ge5)) 3 (some ge5))))))), (h2, .inl (k1, 5, .inl (upd (upd (upd (upd (upd (fun _ => 0) 0 l1) 1 1) 2 l3) 3 l4) 4 l5)))]) (w1 := [(q102, .inr (1, [.ref q103, .int 0, .int 0, .int 1])), (q103, .inl (cq104, 16, .inl f105)), (q106, .inr (0, [.ref q107, .int 0, .int 0, .int 0])), (q107, .inl (cq108, 1, .inl f109))]) hP hD [3, 4] [0, 1, 2] rfl rfl (by decide) (by decide) hk1 hFc hP1 hD1
    have hK := hK.app (hK1.sub (tys' := [(cq108, .byte)]) [1] rfl)
    generalize H1 = H at hP hS ⊢
    have hK : va_K (dC, dI) vwCl [(k0, .object "java/lang/String"), (k1, .int), (cq104, .byte), (cq108, .byte)] s := hK
    have hP : va_P (dC, dI) vwCl [(h0, .inr (9, [.int 0, .ref h1, .ref z0, .ref z1, .int 0, .int 0, .int 0])), (h1, .inl (k0, 4, .inr (.inr (.inr (.inr (va_up (va_up (va_up (va_up (fun _ => none) 0 (some ge5)) 1 (some ge5)) 2 (some ge5)) 3 (some ge5))))))), (h2, .inl (k1, 5, .inl (upd (upd (upd (upd (upd (fun _ => 0) 0 l1) 1 1) 2 l3) 3 l4) 4 l5))), (q102, .inr (1, [.ref q103, .int 0, .int 0, .int 1])), (q103, .inl (cq104, 16, .inl f105)), (q106, .inr (0, [.ref q107, .int 0, .int 0, .int 0])), (q107, .inl (cq108, 1, .inl f109))] H := hP
    have hD : va_D A [(h0, .inr (9, [.int 0, .ref h1, .ref z0, .ref z1, .int 0, .int 0, .int 0])), (h1, .inl (k0, 4, .inr (.inr (.inr (.inr (va_up (va_up (va_up (va_up (fun _ => none) 0 (some ge5)) 1 (some ge5)) 2 (some ge5)) 3 (some ge5))))))), (h2, .inl (k1, 5, .inl (upd (upd (upd (upd (upd (fun _ => 0) 0 l1) 1 1) 2 l3) 3 l4) 4 l5))), (q102, .inr (1, [.ref q103, .int 0, .int 0, .int 1])), (q103, .inl (cq104, 16, .inl f105)), (q106, .inr (0, [.ref q107, .int 0, .int 0, .int 0])), (q107, .inl (cq108, 1, .inl f109))] := hD
    refine W.widen (k := 5) (n := 30) (by omega) (by omega) ?_
    refine lv_astore (lv' := [(9, .ref q106), (8, .int 0), (13, .int 1), (0, .ref h0), (1, .int rp), (7, .ref h2), (10, .ref h2), (11, .int 5), (12, .int 1)]) hx hb dX5_type_116 hl (by decide) rfl (fun ls hl => ?_)
    refine lv_iinc (v := 2) (lv' := [(12, .int 2), (9, .ref q106), (8, .int 0), (13, .int 1), (0, .ref h0), (1, .int rp), (7, .ref h2), (10, .ref h2), (11, .int 5)]) hx hb dX5_type_118 hl (k := 8) rfl (by decide) (by decide) rfl (fun ls hl => ?_)
    refine lv_goto (tgt := 47) hx hb dX5_type_121 (by decide) ?_
    have hP := hP.sub (ws' := [(h0, .inr (9, [.int 0, .ref h1, .ref z0, .ref z1, .int 0, .int 0, .int 0])), (h1, .inl (k0, 4, .inr (.inr (.inr (.inr (va_up (va_up (va_up (va_up (fun _ => none) 0 (some ge5)) 1 (some ge5)) 2 (some ge5)) 3 (some ge5))))))), (h2, .inl (k1, 5, .inl (upd (upd (upd (upd (upd (fun _ => 0) 0 l1) 1 1) 2 l3) 3 l4) 4 l5))), (q106, .inr (0, [.ref q107, .int 0, .int 0, .int 0])), (q107, .inl (cq108, 1, .inl f109))]) [0, 1, 2, 5, 6] rfl
    have hD := hD.sub (ws' := [(h0, .inr (9, [.int 0, .ref h1, .ref z0, .ref z1, .int 0, .int 0, .int 0])), (h1, .inl (k0, 4, .inr (.inr (.inr (.inr (va_up (va_up (va_up (va_up (fun _ => none) 0 (some ge5)) 1 (some ge5)) 2 (some ge5)) 3 (some ge5))))))), (h2, .inl (k1, 5, .inl (upd (upd (upd (upd (upd (fun _ => 0) 0 l1) 1 1) 2 l3) 3 l4) 4 l5))), (q106, .inr (0, [.ref q107, .int 0, .int 0, .int 0])), (q107, .inl (cq108, 1, .inl f109))]) [0, 1, 2, 5, 6] (by decide) rfl
    have hK := hK.sub (tys' := [(k0, .object "java/lang/String"), (k1, .int), (cq108, .byte)]) [0, 1, 3] rfl
    have hl := lv_sub hl [4, 5, 6, 2, 1, 7, 8, 0] (show lv_pick [(12, .int 2), (9, .ref q106), (8, .int 0), (13, .int 1), (0, .ref h0), (1, .int rp), (7, .ref h2), (10, .ref h2), (11, .int 5)] [4, 5, 6, 2, 1, 7, 8, 0] = [(0, .ref h0), (1, .int rp), (7, .ref h2), (8, .int 0), (9, .ref q106), (10, .ref h2), (11, .int 5), (12, .int 2)] from rfl)
    exact kx_X5_type_h210 f109_t hR hx hb hr hml hown hts hlocks hA hG hS hK hP hD hl
  · have hR : kz_ty rp 1 0 [l3, l4, l5] = (R, v) := (kz_ty_g (by decide) (by decide)).symm.trans hR
    refine lv_iload hx hb dX5_type_47 (lv_at hl 7 rfl) ?_
    refine lv_iload hx hb dX5_type_49 (lv_at hl 6 rfl) ?_
    refine lv_icmp_ge (tgt := 124) hx hb dX5_type_51 (by decide) (fun c9 => absurd c9 (by decide)) (fun _ => ?_)
    refine lv_aload hx hb dX5_type_54 (lv_at hl 5 rfl) ?_
    refine lv_iload hx hb dX5_type_56 (lv_at hl 7 rfl) ?_
    refine va_iald (D := (dC, dI)) hx hb hK hP 2 1 rfl rfl (by unfold vp_in; decide) dX5_type_58 ?_
    refine W.eq (g2 := F0 m 59 ls [.int 2]) rfl ?_
    refine lv_istore (lv' := [(13, .int 2), (0, .ref h0), (1, .int rp), (7, .ref h2), (8, .int 0), (9, .ref ge5), (10, .ref h2), (11, .int 5), (12, .int 1)]) hx hb dX5_type_59 hl (by decide) rfl (fun ls hl => ?_)
    refine lv_iload hx hb dX5_type_61 (lv_at hl 4 rfl) ?_
    refine lv_iload hx hb dX5_type_63 (lv_at hl 0 rfl) ?_
    refine lv_iconst (v := (-1)) hx hb dX5_type_65 (by decide) ?_
    refine lv_iconst (v := 3) hx hb dX5_type_66 (by decide) ?_
    have hPc := hP.sub (ws' := []) [] rfl
    have hDc := hD.sub (ws' := []) [] (by decide) rfl
    have hKc := hK.sub (tys' := []) [] rfl
    have hFc := va_free (wc := []) hD hS hA [] rfl
    refine va_calli (va_runS (As := [.int 2, .int (-1), .int 3]) (rest := [.int 0]) ⟨hx, hb, hml, hown, hts⟩ (kx_X5_isIn_11 l dC dI H.size) (cwS 3 hts gX5_type_X5_isIn rfl rfl rfl (by decide +kernel) ⟨Nat.le_of_ble_eq_true rfl, Nat.le_of_ble_eq_true rfl⟩) ⟨fun a U g mk q => by obtain ⟨q0, q1, qP, qK, qD⟩ := q; exact ⟨q0, q1, qP, va_K.moved (u := U) (U := U.calling g mk a) (Vm.Alike.refl U.vm) qK, qD⟩, fun U hU hW => ⟨rfl, by rw [hU], by rw [hU]; exact hPc, va_K.moved hW.alike hKc, hDc.weaken (fun _ _ _ _ => trivial)⟩⟩ rfl rfl hl.1 rfl (lv_room (Nat.le_of_ble_eq_true rfl)) dX5_type_67 ⟨Nat.le_of_ble_eq_true rfl, Nat.le_of_ble_eq_true rfl⟩) hS (fun q _ h => hFc q h) hFc (fun r9 u t H1 locs ht hvm hw hB hz1 hk1 hS => ?_)
    obtain rfl := hw
    obtain ⟨hP1, hK1, hD1⟩ := hB
    rw [ht] at hP1
    have hK1 := va_K.moved hvm.symm hK1
    obtain ⟨hP, hD⟩ := va_join (wr := [(h0, .inr (9, [.int 0, .ref h1, .ref z0, .ref z1, .int 0, .int 0, .int 0])), (h1, .inl (k0, 4, .inr (.inr (.inr (.inr (va_up (va_up (va_up (va_up (fun _ => none) 0 (some ge5)) 1 (some ge5)) 2 (some ge5)) 3 (some ge5))))))), (h2, .inl (k1, 5, .inl (upd (upd (upd (upd (upd (fun _ => 0) 0 l1) 1 2) 2 l3) 3 l4) 4 l5)))]) (w1 := []) hP hD [] [0, 1, 2] rfl rfl (by decide) (by decide) hk1 hFc hP1 hD1
    generalize H1 = H at hP hS ⊢
    have hP : va_P (dC, dI) vwCl [(h0, .inr (9, [.int 0, .ref h1, .ref z0, .ref z1, .int 0, .int 0, .int 0])), (h1, .inl (k0, 4, .inr (.inr (.inr (.inr (va_up (va_up (va_up (va_up (fun _ => none) 0 (some ge5)) 1 (some ge5)) 2 (some ge5)) 3 (some ge5))))))), (h2, .inl (k1, 5, .inl (upd (upd (upd (upd (upd (fun _ => 0) 0 l1) 1 2) 2 l3) 3 l4) 4 l5)))] H := hP
    have hD : va_D A [(h0, .inr (9, [.int 0, .ref h1, .ref z0, .ref z1, .int 0, .int 0, .int 0])), (h1, .inl (k0, 4, .inr (.inr (.inr (.inr (va_up (va_up (va_up (va_up (fun _ => none) 0 (some ge5)) 1 (some ge5)) 2 (some ge5)) 3 (some ge5))))))), (h2, .inl (k1, 5, .inl (upd (upd (upd (upd (upd (fun _ => 0) 0 l1) 1 2) 2 l3) 3 l4) 4 l5)))] := hD
    refine lv_if_ne (tgt := 77) hx hb dX5_type_70 (by decide) (fun _ => ?_) (fun c9 => absurd c9 (by decide))
    refine lv_iconst (v := 0) hx hb dX5_type_77 (by decide) ?_
    refine lv_ior hx hb dX5_type_78 ?_
    refine lv_topi (fun y101 ey101 => ?_)
    obtain rfl : y101 = 0 := ey101.trans (by decide)
    refine lv_istore (lv' := [(8, .int 0), (13, .int 2), (0, .ref h0), (1, .int rp), (7, .ref h2), (9, .ref ge5), (10, .ref h2), (11, .int 5), (12, .int 1)]) hx hb dX5_type_79 hl (by decide) rfl (fun ls hl => ?_)
    refine lv_iload hx hb dX5_type_81 (lv_at hl 1 rfl) ?_
    refine lv_iconst (v := 0) hx hb dX5_type_83 (by decide) ?_
    refine lv_iconst (v := 3) hx hb dX5_type_84 (by decide) ?_
    have hPc := hP.sub (ws' := []) [] rfl
    have hDc := hD.sub (ws' := []) [] (by decide) rfl
    have hKc := hK.sub (tys' := []) [] rfl
    have hFc := va_free (wc := []) hD hS hA [] rfl
    refine va_calli (va_runS (As := [.int 2, .int 0, .int 3]) (rest := []) ⟨hx, hb, hml, hown, hts⟩ (kx_X5_isIn_12 l dC dI H.size) (cwS 3 hts gX5_type_X5_isIn rfl rfl rfl (by decide +kernel) ⟨Nat.le_of_ble_eq_true rfl, Nat.le_of_ble_eq_true rfl⟩) ⟨fun a U g mk q => by obtain ⟨q0, q1, qP, qK, qD⟩ := q; exact ⟨q0, q1, qP, va_K.moved (u := U) (U := U.calling g mk a) (Vm.Alike.refl U.vm) qK, qD⟩, fun U hU hW => ⟨rfl, by rw [hU], by rw [hU]; exact hPc, va_K.moved hW.alike hKc, hDc.weaken (fun _ _ _ _ => trivial)⟩⟩ rfl rfl hl.1 rfl (lv_room (Nat.le_of_ble_eq_true rfl)) dX5_type_85 ⟨Nat.le_of_ble_eq_true rfl, Nat.le_of_ble_eq_true rfl⟩) hS (fun q _ h => hFc q h) hFc (fun r9 u t H1 locs ht hvm hw hB hz1 hk1 hS => ?_)
    obtain rfl := hw
    obtain ⟨hP1, hK1, hD1⟩ := hB
    rw [ht] at hP1
    have hK1 := va_K.moved hvm.symm hK1
    obtain ⟨hP, hD⟩ := va_join (wr := [(h0, .inr (9, [.int 0, .ref h1, .ref z0, .ref z1, .int 0, .int 0, .int 0])), (h1, .inl (k0, 4, .inr (.inr (.inr (.inr (va_up (va_up (va_up (va_up (fun _ => none) 0 (some ge5)) 1 (some ge5)) 2 (some ge5)) 3 (some ge5))))))), (h2, .inl (k1, 5, .inl (upd (upd (upd (upd (upd (fun _ => 0) 0 l1) 1 2) 2 l3) 3 l4) 4 l5)))]) (w1 := []) hP hD [] [0, 1, 2] rfl rfl (by decide) (by decide) hk1 hFc hP1 hD1
    generalize H1 = H at hP hS ⊢
    have hP : va_P (dC, dI) vwCl [(h0, .inr (9, [.int 0, .ref h1, .ref z0, .ref z1, .int 0, .int 0, .int 0])), (h1, .inl (k0, 4, .inr (.inr (.inr (.inr (va_up (va_up (va_up (va_up (fun _ => none) 0 (some ge5)) 1 (some ge5)) 2 (some ge5)) 3 (some ge5))))))), (h2, .inl (k1, 5, .inl (upd (upd (upd (upd (upd (fun _ => 0) 0 l1) 1 2) 2 l3) 3 l4) 4 l5)))] H := hP
    have hD : va_D A [(h0, .inr (9, [.int 0, .ref h1, .ref z0, .ref z1, .int 0, .int 0, .int 0])), (h1, .inl (k0, 4, .inr (.inr (.inr (.inr (va_up (va_up (va_up (va_up (fun _ => none) 0 (some ge5)) 1 (some ge5)) 2 (some ge5)) 3 (some ge5))))))), (h2, .inl (k1, 5, .inl (upd (upd (upd (upd (upd (fun _ => 0) 0 l1) 1 2) 2 l3) 3 l4) 4 l5)))] := hD
    refine lv_if_eq (tgt := 118) hx hb dX5_type_88 (by decide) (fun c9 => absurd c9 (by decide)) (fun _ => ?_)
    refine va_new (ci := 1) (fs := [.null, .int 0, .int 0, .int 0]) (C := RJ4) (T := TJ4) (N := 4) hx hb hts (by decide +kernel) tyJ4 tyJ4_ok hown (hts (.classLink RX5 49 RJ4) (by decide +kernel)) (hts (.instantiable RJ4 4) (by decide +kernel)) (hts (.initialized RJ4) (by decide +kernel)) hK hP hD hS hA rfl (fun j hj => by rcases (show j = 0 ∨ j = 1 ∨ j = 2 ∨ j = 3 by omega) with rfl | rfl | rfl | rfl <;> rfl) (Nat.le_of_ble_eq_true rfl) (Nat.le_of_ble_eq_true rfl) dX5_type_91 (fun q102 H hP hD hS => ?_)
    have hP : va_P (dC, dI) vwCl [(h0, .inr (9, [.int 0, .ref h1, .ref z0, .ref z1, .int 0, .int 0, .int 0])), (h1, .inl (k0, 4, .inr (.inr (.inr (.inr (va_up (va_up (va_up (va_up (fun _ => none) 0 (some ge5)) 1 (some ge5)) 2 (some ge5)) 3 (some ge5))))))), (h2, .inl (k1, 5, .inl (upd (upd (upd (upd (upd (fun _ => 0) 0 l1) 1 2) 2 l3) 3 l4) 4 l5))), (q102, .inr (1, [.null, .int 0, .int 0, .int 0]))] H := hP
    have hD : va_D A [(h0, .inr (9, [.int 0, .ref h1, .ref z0, .ref z1, .int 0, .int 0, .int 0])), (h1, .inl (k0, 4, .inr (.inr (.inr (.inr (va_up (va_up (va_up (va_up (fun _ => none) 0 (some ge5)) 1 (some ge5)) 2 (some ge5)) 3 (some ge5))))))), (h2, .inl (k1, 5, .inl (upd (upd (upd (upd (upd (fun _ => 0) 0 l1) 1 2) 2 l3) 3 l4) 4 l5))), (q102, .inr (1, [.null, .int 0, .int 0, .int 0]))] := hD
    refine W.widen (k := 2) (n := 9) (by omega) (by omega) ?_
    refine lv_dup hx hb dX5_type_94 rfl ?_
    have hPc := hP.sub (ws' := [(q102, .inr (1, [.null, .int 0, .int 0, .int 0]))]) [3] rfl
    have hDc := hD.sub (ws' := [(q102, .inr (1, [.null, .int 0, .int 0, .int 0]))]) [3] (by decide) rfl
    have hKc := hK.sub (tys' := []) [] rfl
    have hFc := va_free (wc := [(q102, .inr (1, [.null, .int 0, .int 0, .int 0]))]) hD hS hA [3] rfl
    refine va_callv (va_runI (As := []) (rest := [.ref q102]) ⟨hx, hb, hml, hown, hts⟩ (kx_J4_init_da8c8_0 l dC dI ge5 gea gv5 gva gde gic gi0 q102 H.size) (cwI 0 hts gX5_type_J4_init_da8c8 rfl rfl rfl (hts (.initialized RJ4) (by decide +kernel)) (hts (.methodLink RX5 51 yJ4_init_da8c8) (by decide +kernel)) (hts (.instanceMethod yJ4_init_da8c8) (by decide +kernel)) rfl (by decide +kernel) ⟨Nat.le_of_ble_eq_true rfl, Nat.le_of_ble_eq_true rfl⟩) ⟨fun a U g mk q => by obtain ⟨q0, q1, qP, qK, qD, qG⟩ := q; exact ⟨q0, q1, qP, va_K.moved (u := U) (U := U.calling g mk a) (Vm.Alike.refl U.vm) qK, qD, gv.fb qG⟩, fun U hU hW => ⟨rfl, by rw [hU], by rw [hU]; exact hPc, va_K.moved hW.alike hKc, hDc.weaken (fun _ _ _ _ => trivial), gv.pass hW hU hS hFc hG⟩⟩ rfl rfl hl.1 rfl (lv_room (Nat.le_of_ble_eq_true rfl)) dX5_type_95 ⟨Nat.le_of_ble_eq_true rfl, Nat.le_of_ble_eq_true rfl⟩) hS (fun q _ h => hFc q h) hFc (fun u t H1 locs ht hvm hw hB hz1 hk1 hS => ?_)
    obtain ⟨q103, cq104, hP1, hK1, hD1⟩ := hB
    rw [ht] at hP1
    have hK1 := va_K.moved hvm.symm hK1
    obtain ⟨hP, hD⟩ := va_join (wr := [(h0, .inr (9, [.int 0, .ref h1, .ref z0, .ref z1, .int 0, .int 0, .int 0])), (h1, .inl (k0, 4, .inr (.inr (.inr (.inr (va_up (va_up (va_up (va_up (fun _ => none) 0 (some ge5)) 1 (some ge5)) 2 (some ge5)) 3 (some ge5))))))), (h2, .inl (k1, 5, .inl (upd (upd (upd (upd (upd (fun _ => 0) 0 l1) 1 2) 2 l3) 3 l4) 4 l5)))]) (w1 := [(q102, .inr (1, [.ref q103, .int 0, .int 0, .int 0])), (q103, .inl (cq104, 16, .inl (fun _ => 0)))]) hP hD [3] [0, 1, 2] rfl rfl (by decide) (by decide) hk1 hFc hP1 hD1
    have hK := hK.app (hK1.sub (tys' := [(cq104, .byte)]) [0] rfl)
    generalize H1 = H at hP hS ⊢
    have hK : va_K (dC, dI) vwCl [(k0, .object "java/lang/String"), (k1, .int), (cq104, .byte)] s := hK
    have hP : va_P (dC, dI) vwCl [(h0, .inr (9, [.int 0, .ref h1, .ref z0, .ref z1, .int 0, .int 0, .int 0])), (h1, .inl (k0, 4, .inr (.inr (.inr (.inr (va_up (va_up (va_up (va_up (fun _ => none) 0 (some ge5)) 1 (some ge5)) 2 (some ge5)) 3 (some ge5))))))), (h2, .inl (k1, 5, .inl (upd (upd (upd (upd (upd (fun _ => 0) 0 l1) 1 2) 2 l3) 3 l4) 4 l5))), (q102, .inr (1, [.ref q103, .int 0, .int 0, .int 0])), (q103, .inl (cq104, 16, .inl (fun _ => 0)))] H := hP
    have hD : va_D A [(h0, .inr (9, [.int 0, .ref h1, .ref z0, .ref z1, .int 0, .int 0, .int 0])), (h1, .inl (k0, 4, .inr (.inr (.inr (.inr (va_up (va_up (va_up (va_up (fun _ => none) 0 (some ge5)) 1 (some ge5)) 2 (some ge5)) 3 (some ge5))))))), (h2, .inl (k1, 5, .inl (upd (upd (upd (upd (upd (fun _ => 0) 0 l1) 1 2) 2 l3) 3 l4) 4 l5))), (q102, .inr (1, [.ref q103, .int 0, .int 0, .int 0])), (q103, .inl (cq104, 16, .inl (fun _ => 0)))] := hD
    refine W.widen (k := 3) (n := 25) (by omega) (by omega) ?_
    refine lv_aload hx hb dX5_type_98 (lv_at hl 5 rfl) ?_
    have hPc := hP.sub (ws' := [(q102, .inr (1, [.ref q103, .int 0, .int 0, .int 0])), (q103, .inl (cq104, 16, .inl (fun _ => 0)))]) [3, 4] rfl
    have hDc := hD.sub (ws' := [(q102, .inr (1, [.ref q103, .int 0, .int 0, .int 0])), (q103, .inl (cq104, 16, .inl (fun _ => 0)))]) [3, 4] (by decide) rfl
    have hKc := hK.sub (tys' := [(cq104, .byte)]) [2] rfl
    have hFc := va_free (wc := [(q102, .inr (1, [.ref q103, .int 0, .int 0, .int 0])), (q103, .inl (cq104, 16, .inl (fun _ => 0)))]) hD hS hA [3, 4] rfl
    refine va_callr (va_runV (As := [.ref ge5]) (rest := []) ⟨hx, hb, hml, hown, hts⟩ (kx_J4_append_15ec4_0 l dC dI ge5 gea gv5 gva gde gic gi0 q102 q103 cq104 H.size) (cwV 1 hts gX5_type_J4_append_15ec4 rfl rfl rfl (by decide +kernel) ⟨Nat.le_of_ble_eq_true rfl, Nat.le_of_ble_eq_true rfl⟩) ⟨fun a U g mk q => by obtain ⟨q0, q1, qP, qK, qD, qG⟩ := q; exact ⟨q0, q1, qP, va_K.moved (u := U) (U := U.calling g mk a) (Vm.Alike.refl U.vm) qK, qD, gv.fb qG⟩, va_recv hKc hPc (ci := 1) (q0 := 0) rfl rfl, fun U hU hW => ⟨rfl, by rw [hU], by rw [hU]; exact hPc, va_K.moved hW.alike hKc, hDc.weaken (fun _ _ _ _ => trivial), gv.pass hW hU hS hFc hG⟩⟩ rfl rfl hl.1 rfl (lv_room (Nat.le_of_ble_eq_true rfl)) dX5_type_100 ⟨Nat.le_of_ble_eq_true rfl, Nat.le_of_ble_eq_true rfl⟩) hS (fun q _ h => hFc q h) hFc (fun u ra t H1 locs ht hvm hw hB hz1 hk1 hS => ?_)
    obtain ⟨hra, hP1, hK1, hD1⟩ := hB
    rw [hra]
    rw [ht] at hP1
    have hK1 := va_K.moved hvm.symm hK1
    obtain ⟨hP, hD⟩ := va_join (wr := [(h0, .inr (9, [.int 0, .ref h1, .ref z0, .ref z1, .int 0, .int 0, .int 0])), (h1, .inl (k0, 4, .inr (.inr (.inr (.inr (va_up (va_up (va_up (va_up (fun _ => none) 0 (some ge5)) 1 (some ge5)) 2 (some ge5)) 3 (some ge5))))))), (h2, .inl (k1, 5, .inl (upd (upd (upd (upd (upd (fun _ => 0) 0 l1) 1 2) 2 l3) 3 l4) 4 l5)))]) (w1 := [(q102, .inr (1, [.ref q103, .int 0, .int 0, .int 0])), (q103, .inl (cq104, 16, .inl (fun _ => 0)))]) hP hD [3, 4] [0, 1, 2] rfl rfl (by decide) (by decide) hk1 hFc hP1 hD1
    generalize H1 = H at hP hS ⊢
    have hP : va_P (dC, dI) vwCl [(h0, .inr (9, [.int 0, .ref h1, .ref z0, .ref z1, .int 0, .int 0, .int 0])), (h1, .inl (k0, 4, .inr (.inr (.inr (.inr (va_up (va_up (va_up (va_up (fun _ => none) 0 (some ge5)) 1 (some ge5)) 2 (some ge5)) 3 (some ge5))))))), (h2, .inl (k1, 5, .inl (upd (upd (upd (upd (upd (fun _ => 0) 0 l1) 1 2) 2 l3) 3 l4) 4 l5))), (q102, .inr (1, [.ref q103, .int 0, .int 0, .int 0])), (q103, .inl (cq104, 16, .inl (fun _ => 0)))] H := hP
    have hD : va_D A [(h0, .inr (9, [.int 0, .ref h1, .ref z0, .ref z1, .int 0, .int 0, .int 0])), (h1, .inl (k0, 4, .inr (.inr (.inr (.inr (va_up (va_up (va_up (va_up (fun _ => none) 0 (some ge5)) 1 (some ge5)) 2 (some ge5)) 3 (some ge5))))))), (h2, .inl (k1, 5, .inl (upd (upd (upd (upd (upd (fun _ => 0) 0 l1) 1 2) 2 l3) 3 l4) 4 l5))), (q102, .inr (1, [.ref q103, .int 0, .int 0, .int 0])), (q103, .inl (cq104, 16, .inl (fun _ => 0)))] := hD
    refine va_ldcS hx hb hown g_sa dX5_type_103 ?_
    refine lv_iload hx hb dX5_type_105 (lv_at hl 1 rfl) ?_
    have hPc := hP.sub (ws' := []) [] rfl
    have hDc := hD.sub (ws' := []) [] (by decide) rfl
    have hKc := hK.sub (tys' := []) [] rfl
    have hFc := va_free (wc := []) hD hS hA [] rfl
    refine va_calli (va_runV (As := [.int 2]) (rest := [.ref q102]) ⟨hx, hb, hml, hown, hts⟩ (kx_J0_charAt_5068e_2 l dC dI ge5 gea gv5 gva gde gic gi0 H.size) (cwV 1 hts gX5_type_J0_charAt_5068e rfl rfl rfl (by decide +kernel) ⟨Nat.le_of_ble_eq_true rfl, Nat.le_of_ble_eq_true rfl⟩) ⟨fun a U g mk q => by obtain ⟨q0, q1, qP, qK, qD, qG⟩ := q; exact ⟨q0, q1, qP, va_K.moved (u := U) (U := U.calling g mk a) (Vm.Alike.refl U.vm) qK, qD, gv.fb qG⟩, (by obtain ⟨cell, k1, k2, k3, -⟩ := g_oa.kept hS.2.1; exact ⟨cell, k1, k2, k3⟩), fun U hU hW => ⟨rfl, by rw [hU], by rw [hU]; exact hPc, va_K.moved hW.alike hKc, hDc.weaken (fun _ _ _ _ => trivial), gv.pass hW hU hS hFc hG⟩⟩ rfl rfl hl.1 rfl (lv_room (Nat.le_of_ble_eq_true rfl)) dX5_type_107 ⟨Nat.le_of_ble_eq_true rfl, Nat.le_of_ble_eq_true rfl⟩) hS (fun q _ h => hFc q h) hFc (fun r9 u t H1 locs ht hvm hw hB hz1 hk1 hS => ?_)
    obtain rfl := hw
    obtain ⟨hP1, hK1, hD1⟩ := hB
    rw [ht] at hP1
    have hK1 := va_K.moved hvm.symm hK1
    obtain ⟨hP, hD⟩ := va_join (wr := [(h0, .inr (9, [.int 0, .ref h1, .ref z0, .ref z1, .int 0, .int 0, .int 0])), (h1, .inl (k0, 4, .inr (.inr (.inr (.inr (va_up (va_up (va_up (va_up (fun _ => none) 0 (some ge5)) 1 (some ge5)) 2 (some ge5)) 3 (some ge5))))))), (h2, .inl (k1, 5, .inl (upd (upd (upd (upd (upd (fun _ => 0) 0 l1) 1 2) 2 l3) 3 l4) 4 l5))), (q102, .inr (1, [.ref q103, .int 0, .int 0, .int 0])), (q103, .inl (cq104, 16, .inl (fun _ => 0)))]) (w1 := []) hP hD [] [0, 1, 2, 3, 4] rfl rfl (by decide) (by decide) hk1 hFc hP1 hD1
    generalize H1 = H at hP hS ⊢
    have hP : va_P (dC, dI) vwCl [(h0, .inr (9, [.int 0, .ref h1, .ref z0, .ref z1, .int 0, .int 0, .int 0])), (h1, .inl (k0, 4, .inr (.inr (.inr (.inr (va_up (va_up (va_up (va_up (fun _ => none) 0 (some ge5)) 1 (some ge5)) 2 (some ge5)) 3 (some ge5))))))), (h2, .inl (k1, 5, .inl (upd (upd (upd (upd (upd (fun _ => 0) 0 l1) 1 2) 2 l3) 3 l4) 4 l5))), (q102, .inr (1, [.ref q103, .int 0, .int 0, .int 0])), (q103, .inl (cq104, 16, .inl (fun _ => 0)))] H := hP
    have hD : va_D A [(h0, .inr (9, [.int 0, .ref h1, .ref z0, .ref z1, .int 0, .int 0, .int 0])), (h1, .inl (k0, 4, .inr (.inr (.inr (.inr (va_up (va_up (va_up (va_up (fun _ => none) 0 (some ge5)) 1 (some ge5)) 2 (some ge5)) 3 (some ge5))))))), (h2, .inl (k1, 5, .inl (upd (upd (upd (upd (upd (fun _ => 0) 0 l1) 1 2) 2 l3) 3 l4) 4 l5))), (q102, .inr (1, [.ref q103, .int 0, .int 0, .int 0])), (q103, .inl (cq104, 16, .inl (fun _ => 0)))] := hD
    have hPc := hP.sub (ws' := [(q102, .inr (1, [.ref q103, .int 0, .int 0, .int 0])), (q103, .inl (cq104, 16, .inl (fun _ => 0)))]) [3, 4] rfl
    have hDc := hD.sub (ws' := [(q102, .inr (1, [.ref q103, .int 0, .int 0, .int 0])), (q103, .inl (cq104, 16, .inl (fun _ => 0)))]) [3, 4] (by decide) rfl
    have hKc := hK.sub (tys' := [(cq104, .byte)]) [2] rfl
    have hFc := va_free (wc := [(q102, .inr (1, [.ref q103, .int 0, .int 0, .int 0])), (q103, .inl (cq104, 16, .inl (fun _ => 0)))]) hD hS hA [3, 4] rfl
    refine va_callr (va_runV (As := [.int 99]) (rest := []) ⟨hx, hb, hml, hown, hts⟩ (kx_J4_append_cf468_2 l dC dI ge5 gea gv5 gva gde gic gi0 q102 q103 cq104 H.size) (cwV 1 hts gX5_type_J4_append_cf468 rfl rfl rfl (by decide +kernel) ⟨Nat.le_of_ble_eq_true rfl, Nat.le_of_ble_eq_true rfl⟩) ⟨fun a U g mk q => by obtain ⟨q0, q1, qP, qK, qD, qG⟩ := q; exact ⟨q0, q1, qP, va_K.moved (u := U) (U := U.calling g mk a) (Vm.Alike.refl U.vm) qK, qD, gv.fb qG⟩, va_recv hKc hPc (ci := 1) (q0 := 0) rfl rfl, fun U hU hW => ⟨rfl, by rw [hU], by rw [hU]; exact hPc, va_K.moved hW.alike hKc, hDc.weaken (fun _ _ _ _ => trivial), gv.pass hW hU hS hFc hG⟩⟩ rfl rfl hl.1 rfl (lv_room (Nat.le_of_ble_eq_true rfl)) dX5_type_110 ⟨Nat.le_of_ble_eq_true rfl, Nat.le_of_ble_eq_true rfl⟩) hS (fun q _ h => hFc q h) hFc (fun u ra t H1 locs ht hvm hw hB hz1 hk1 hS => ?_)
    obtain ⟨f105, f105_t, hra, hP1, hK1, hD1⟩ := hB
    rw [hra]
    rw [ht] at hP1
    have hK1 := va_K.moved hvm.symm hK1
    obtain ⟨hP, hD⟩ := va_join (wr := [(h0, .inr (9, [.int 0, .ref h1, .ref z0, .ref z1, .int 0, .int 0, .int 0])), (h1, .inl (k0, 4, .inr (.inr (.inr (.inr (va_up (va_up (va_up (va_up (fun _ => none) 0 (some ge5)) 1 (some ge5)) 2 (some ge5)) 3 (some ge5))))))), (h2, .inl (k1, 5, .inl (upd (upd (upd (upd (upd (fun _ => 0) 0 l1) 1 2) 2 l3) 3 l4) 4 l5)))]) (w1 := [(q102, .inr (1, [.ref q103, .int 0, .int 0, .int 1])), (q103, .inl (cq104, 16, .inl f105))]) hP hD [3, 4] [0, 1, 2] rfl rfl (by decide) (by decide) hk1 hFc hP1 hD1
    generalize H1 = H at hP hS ⊢
    have hP : va_P (dC, dI) vwCl [(h0, .inr (9, [.int 0, .ref h1, .ref z0, .ref z1, .int 0, .int 0, .int 0])), (h1, .inl (k0, 4, .inr (.inr (.inr (.inr (va_up (va_up (va_up (va_up (fun _ => none) 0 (some ge5)) 1 (some ge5)) 2 (some ge5)) 3 (some ge5))))))), (h2, .inl (k1, 5, .inl (upd (upd (upd (upd (upd (fun _ => 0) 0 l1) 1 2) 2 l3) 3 l4) 4 l5))), (q102, .inr (1, [.ref q103, .int 0, .int 0, .int 1])), (q103, .inl (cq104, 16, .inl f105))] H := hP
    have hD : va_D A [(h0, .inr (9, [.int 0, .ref h1, .ref z0, .ref z1, .int 0, .int 0, .int 0])), (h1, .inl (k0, 4, .inr (.inr (.inr (.inr (va_up (va_up (va_up (va_up (fun _ => none) 0 (some ge5)) 1 (some ge5)) 2 (some ge5)) 3 (some ge5))))))), (h2, .inl (k1, 5, .inl (upd (upd (upd (upd (upd (fun _ => 0) 0 l1) 1 2) 2 l3) 3 l4) 4 l5))), (q102, .inr (1, [.ref q103, .int 0, .int 0, .int 1])), (q103, .inl (cq104, 16, .inl f105))] := hD
    have hPc := hP.sub (ws' := [(q102, .inr (1, [.ref q103, .int 0, .int 0, .int 1])), (q103, .inl (cq104, 16, .inl f105))]) [3, 4] rfl
    have hDc := hD.sub (ws' := [(q102, .inr (1, [.ref q103, .int 0, .int 0, .int 1])), (q103, .inl (cq104, 16, .inl f105))]) [3, 4] (by decide) rfl
    have hKc := hK.sub (tys' := [(cq104, .byte)]) [2] rfl
    have hFc := va_free (wc := [(q102, .inr (1, [.ref q103, .int 0, .int 0, .int 1])), (q103, .inl (cq104, 16, .inl f105))]) hD hS hA [3, 4] rfl
    refine va_callr (va_runV (As := []) (rest := []) ⟨hx, hb, hml, hown, hts⟩ (kx_J4_toString_0e30d_1 l dC dI ge5 gea gv5 gva gde gic gi0 q102 q103 cq104 H.size f105 f105_t) (cwV 0 hts gX5_type_J4_toString_0e30d rfl rfl rfl (by decide +kernel) ⟨Nat.le_of_ble_eq_true rfl, Nat.le_of_ble_eq_true rfl⟩) ⟨fun a U g mk q => by obtain ⟨q0, q1, qP, qK, qD, qG⟩ := q; exact ⟨q0, q1, qP, va_K.moved (u := U) (U := U.calling g mk a) (Vm.Alike.refl U.vm) qK, qD, gv.fb qG⟩, va_recv hKc hPc (ci := 1) (q0 := 0) rfl rfl, fun U hU hW => ⟨rfl, by rw [hU], by rw [hU]; exact hPc, va_K.moved hW.alike hKc, hDc.weaken (fun _ _ _ _ => trivial), gv.pass hW hU hS hFc hG⟩⟩ rfl rfl hl.1 rfl (lv_room (Nat.le_of_ble_eq_true rfl)) dX5_type_113 ⟨Nat.le_of_ble_eq_true rfl, Nat.le_of_ble_eq_true rfl⟩) hS (fun q _ h => hFc q h) hFc (fun u ra t H1 locs ht hvm hw hB hz1 hk1 hS => ?_)
    obtain ⟨q106, q107, cq108, f109, f109_t, hra, hP1, hK1, hD1⟩ := hB
    rw [hra]
    rw [ht] at hP1
    have hK1 := va_K.moved hvm.symm hK1
    obtain ⟨hP, hD⟩ := va_join (wr := [(h0, .inr (9, [.int 0, .ref h1, .ref z0, .ref z1, .int 0, .int 0, .int 0])), (h1, .inl (k0, 4, .inr (.inr (.inr (.inr (va_up (va_up (va_up (va_up (fun _ => none) 0 (some ge5)) 1 (some ge5)) 2 (some ge5)) 3 (some ge5))))))), (h2, .inl (k1, 5, .inl (upd (upd (upd (upd (upd (fun _ => 0) 0 l1) 1 2) 2 l3) 3 l4) 4 l5)))]) (w1 := [(q102, .inr (1, [.ref q103, .int 0, .int 0, .int 1])), (q103, .inl (cq104, 16, .inl f105)), (q106, .inr (0, [.ref q107, .int 0, .int 0, .int 0])), (q107, .inl (cq108, 1, .inl f109))]) hP hD [3, 4] [0, 1, 2] rfl rfl (by decide) (by decide) hk1 hFc hP1 hD1
    have hK := hK.app (hK1.sub (tys' := [(cq108, .byte)]) [1] rfl)
    generalize H1 = H at hP hS ⊢
    have hK : va_K (dC, dI) vwCl [(k0, .object "java/lang/String"), (k1, .int), (cq104, .byte), (cq108, .byte)] s := hK
    have hP : va_P (dC, dI) vwCl [(h0, .inr (9, [.int 0, .ref h1, .ref z0, .ref z1, .int 0, .int 0, .int 0])), (h1, .inl (k0, 4, .inr (.inr (.inr (.inr (va_up (va_up (va_up (va_up (fun _ => none) 0 (some ge5)) 1 (some ge5)) 2 (some ge5)) 3 (some ge5))))))), (h2, .inl (k1, 5, .inl (upd (upd (upd (upd (upd (fun _ => 0) 0 l1) 1 2) 2 l3) 3 l4) 4 l5))), (q102, .inr (1, [.ref q103, .int 0, .int 0, .int 1])), (q103, .inl (cq104, 16, .inl f105)), (q106, .inr (0, [.ref q107, .int 0, .int 0, .int 0])), (q107, .inl (cq108, 1, .inl f109))] H := hP
    have hD : va_D A [(h0, .inr (9, [.int 0, .ref h1, .ref z0, .ref z1, .int 0, .int 0, .int 0])), (h1, .inl (k0, 4, .inr (.inr (.inr (.inr (va_up (va_up (va_up (va_up (fun _ => none) 0 (some ge5)) 1 (some ge5)) 2 (some ge5)) 3 (some ge5))))))), (h2, .inl (k1, 5, .inl (upd (upd (upd (upd (upd (fun _ => 0) 0 l1) 1 2) 2 l3) 3 l4) 4 l5))), (q102, .inr (1, [.ref q103, .int 0, .int 0, .int 1])), (q103, .inl (cq104, 16, .inl f105)), (q106, .inr (0, [.ref q107, .int 0, .int 0, .int 0])), (q107, .inl (cq108, 1, .inl f109))] := hD
    refine W.widen (k := 5) (n := 30) (by omega) (by omega) ?_
    refine lv_astore (lv' := [(9, .ref q106), (8, .int 0), (13, .int 2), (0, .ref h0), (1, .int rp), (7, .ref h2), (10, .ref h2), (11, .int 5), (12, .int 1)]) hx hb dX5_type_116 hl (by decide) rfl (fun ls hl => ?_)
    refine lv_iinc (v := 2) (lv' := [(12, .int 2), (9, .ref q106), (8, .int 0), (13, .int 2), (0, .ref h0), (1, .int rp), (7, .ref h2), (10, .ref h2), (11, .int 5)]) hx hb dX5_type_118 hl (k := 8) rfl (by decide) (by decide) rfl (fun ls hl => ?_)
    refine lv_goto (tgt := 47) hx hb dX5_type_121 (by decide) ?_
    have hP := hP.sub (ws' := [(h0, .inr (9, [.int 0, .ref h1, .ref z0, .ref z1, .int 0, .int 0, .int 0])), (h1, .inl (k0, 4, .inr (.inr (.inr (.inr (va_up (va_up (va_up (va_up (fun _ => none) 0 (some ge5)) 1 (some ge5)) 2 (some ge5)) 3 (some ge5))))))), (h2, .inl (k1, 5, .inl (upd (upd (upd (upd (upd (fun _ => 0) 0 l1) 1 2) 2 l3) 3 l4) 4 l5))), (q106, .inr (0, [.ref q107, .int 0, .int 0, .int 0])), (q107, .inl (cq108, 1, .inl f109))]) [0, 1, 2, 5, 6] rfl
    have hD := hD.sub (ws' := [(h0, .inr (9, [.int 0, .ref h1, .ref z0, .ref z1, .int 0, .int 0, .int 0])), (h1, .inl (k0, 4, .inr (.inr (.inr (.inr (va_up (va_up (va_up (va_up (fun _ => none) 0 (some ge5)) 1 (some ge5)) 2 (some ge5)) 3 (some ge5))))))), (h2, .inl (k1, 5, .inl (upd (upd (upd (upd (upd (fun _ => 0) 0 l1) 1 2) 2 l3) 3 l4) 4 l5))), (q106, .inr (0, [.ref q107, .int 0, .int 0, .int 0])), (q107, .inl (cq108, 1, .inl f109))]) [0, 1, 2, 5, 6] (by decide) rfl
    have hK := hK.sub (tys' := [(k0, .object "java/lang/String"), (k1, .int), (cq108, .byte)]) [0, 1, 3] rfl
    have hl := lv_sub hl [4, 5, 6, 2, 1, 7, 8, 0] (show lv_pick [(12, .int 2), (9, .ref q106), (8, .int 0), (13, .int 2), (0, .ref h0), (1, .int rp), (7, .ref h2), (10, .ref h2), (11, .int 5)] [4, 5, 6, 2, 1, 7, 8, 0] = [(0, .ref h0), (1, .int rp), (7, .ref h2), (8, .int 0), (9, .ref q106), (10, .ref h2), (11, .int 5), (12, .int 2)] from rfl)
    exact kx_X5_type_h210 f109_t hR hx hb hr hml hown hts hlocks hA hG hS hK hP hD hl
  · have hR : kz_ty rp 1 0 [l3, l4, l5] = (R, v) := (kz_ty_g (by decide) (by decide)).symm.trans hR
    refine lv_iload hx hb dX5_type_47 (lv_at hl 7 rfl) ?_
    refine lv_iload hx hb dX5_type_49 (lv_at hl 6 rfl) ?_
    refine lv_icmp_ge (tgt := 124) hx hb dX5_type_51 (by decide) (fun c9 => absurd c9 (by decide)) (fun _ => ?_)
    refine lv_aload hx hb dX5_type_54 (lv_at hl 5 rfl) ?_
    refine lv_iload hx hb dX5_type_56 (lv_at hl 7 rfl) ?_
    refine va_iald (D := (dC, dI)) hx hb hK hP 2 1 rfl rfl (by unfold vp_in; decide) dX5_type_58 ?_
    refine W.eq (g2 := F0 m 59 ls [.int 3]) rfl ?_
    refine lv_istore (lv' := [(13, .int 3), (0, .ref h0), (1, .int rp), (7, .ref h2), (8, .int 0), (9, .ref ge5), (10, .ref h2), (11, .int 5), (12, .int 1)]) hx hb dX5_type_59 hl (by decide) rfl (fun ls hl => ?_)
    refine lv_iload hx hb dX5_type_61 (lv_at hl 4 rfl) ?_
    refine lv_iload hx hb dX5_type_63 (lv_at hl 0 rfl) ?_
    refine lv_iconst (v := (-1)) hx hb dX5_type_65 (by decide) ?_
    refine lv_iconst (v := 3) hx hb dX5_type_66 (by decide) ?_
    have hPc := hP.sub (ws' := []) [] rfl
    have hDc := hD.sub (ws' := []) [] (by decide) rfl
    have hKc := hK.sub (tys' := []) [] rfl
    have hFc := va_free (wc := []) hD hS hA [] rfl
    refine va_calli (va_runS (As := [.int 3, .int (-1), .int 3]) (rest := [.int 0]) ⟨hx, hb, hml, hown, hts⟩ (kx_X5_isIn_13 l dC dI H.size) (cwS 3 hts gX5_type_X5_isIn rfl rfl rfl (by decide +kernel) ⟨Nat.le_of_ble_eq_true rfl, Nat.le_of_ble_eq_true rfl⟩) ⟨fun a U g mk q => by obtain ⟨q0, q1, qP, qK, qD⟩ := q; exact ⟨q0, q1, qP, va_K.moved (u := U) (U := U.calling g mk a) (Vm.Alike.refl U.vm) qK, qD⟩, fun U hU hW => ⟨rfl, by rw [hU], by rw [hU]; exact hPc, va_K.moved hW.alike hKc, hDc.weaken (fun _ _ _ _ => trivial)⟩⟩ rfl rfl hl.1 rfl (lv_room (Nat.le_of_ble_eq_true rfl)) dX5_type_67 ⟨Nat.le_of_ble_eq_true rfl, Nat.le_of_ble_eq_true rfl⟩) hS (fun q _ h => hFc q h) hFc (fun r9 u t H1 locs ht hvm hw hB hz1 hk1 hS => ?_)
    obtain rfl := hw
    obtain ⟨hP1, hK1, hD1⟩ := hB
    rw [ht] at hP1
    have hK1 := va_K.moved hvm.symm hK1
    obtain ⟨hP, hD⟩ := va_join (wr := [(h0, .inr (9, [.int 0, .ref h1, .ref z0, .ref z1, .int 0, .int 0, .int 0])), (h1, .inl (k0, 4, .inr (.inr (.inr (.inr (va_up (va_up (va_up (va_up (fun _ => none) 0 (some ge5)) 1 (some ge5)) 2 (some ge5)) 3 (some ge5))))))), (h2, .inl (k1, 5, .inl (upd (upd (upd (upd (upd (fun _ => 0) 0 l1) 1 3) 2 l3) 3 l4) 4 l5)))]) (w1 := []) hP hD [] [0, 1, 2] rfl rfl (by decide) (by decide) hk1 hFc hP1 hD1
    generalize H1 = H at hP hS ⊢
    have hP : va_P (dC, dI) vwCl [(h0, .inr (9, [.int 0, .ref h1, .ref z0, .ref z1, .int 0, .int 0, .int 0])), (h1, .inl (k0, 4, .inr (.inr (.inr (.inr (va_up (va_up (va_up (va_up (fun _ => none) 0 (some ge5)) 1 (some ge5)) 2 (some ge5)) 3 (some ge5))))))), (h2, .inl (k1, 5, .inl (upd (upd (upd (upd (upd (fun _ => 0) 0 l1) 1 3) 2 l3) 3 l4) 4 l5)))] H := hP
    have hD : va_D A [(h0, .inr (9, [.int 0, .ref h1, .ref z0, .ref z1, .int 0, .int 0, .int 0])), (h1, .inl (k0, 4, .inr (.inr (.inr (.inr (va_up (va_up (va_up (va_up (fun _ => none) 0 (some ge5)) 1 (some ge5)) 2 (some ge5)) 3 (some ge5))))))), (h2, .inl (k1, 5, .inl (upd (upd (upd (upd (upd (fun _ => 0) 0 l1) 1 3) 2 l3) 3 l4) 4 l5)))] := hD
    refine lv_if_ne (tgt := 77) hx hb dX5_type_70 (by decide) (fun _ => ?_) (fun c9 => absurd c9 (by decide))
    refine lv_iconst (v := 0) hx hb dX5_type_77 (by decide) ?_
    refine lv_ior hx hb dX5_type_78 ?_
    refine lv_topi (fun y101 ey101 => ?_)
    obtain rfl : y101 = 0 := ey101.trans (by decide)
    refine lv_istore (lv' := [(8, .int 0), (13, .int 3), (0, .ref h0), (1, .int rp), (7, .ref h2), (9, .ref ge5), (10, .ref h2), (11, .int 5), (12, .int 1)]) hx hb dX5_type_79 hl (by decide) rfl (fun ls hl => ?_)
    refine lv_iload hx hb dX5_type_81 (lv_at hl 1 rfl) ?_
    refine lv_iconst (v := 0) hx hb dX5_type_83 (by decide) ?_
    refine lv_iconst (v := 3) hx hb dX5_type_84 (by decide) ?_
    have hPc := hP.sub (ws' := []) [] rfl
    have hDc := hD.sub (ws' := []) [] (by decide) rfl
    have hKc := hK.sub (tys' := []) [] rfl
    have hFc := va_free (wc := []) hD hS hA [] rfl
    refine va_calli (va_runS (As := [.int 3, .int 0, .int 3]) (rest := []) ⟨hx, hb, hml, hown, hts⟩ (kx_X5_isIn_14 l dC dI H.size) (cwS 3 hts gX5_type_X5_isIn rfl rfl rfl (by decide +kernel) ⟨Nat.le_of_ble_eq_true rfl, Nat.le_of_ble_eq_true rfl⟩) ⟨fun a U g mk q => by obtain ⟨q0, q1, qP, qK, qD⟩ := q; exact ⟨q0, q1, qP, va_K.moved (u := U) (U := U.calling g mk a) (Vm.Alike.refl U.vm) qK, qD⟩, fun U hU hW => ⟨rfl, by rw [hU], by rw [hU]; exact hPc, va_K.moved hW.alike hKc, hDc.weaken (fun _ _ _ _ => trivial)⟩⟩ rfl rfl hl.1 rfl (lv_room (Nat.le_of_ble_eq_true rfl)) dX5_type_85 ⟨Nat.le_of_ble_eq_true rfl, Nat.le_of_ble_eq_true rfl⟩) hS (fun q _ h => hFc q h) hFc (fun r9 u t H1 locs ht hvm hw hB hz1 hk1 hS => ?_)
    obtain rfl := hw
    obtain ⟨hP1, hK1, hD1⟩ := hB
    rw [ht] at hP1
    have hK1 := va_K.moved hvm.symm hK1
    obtain ⟨hP, hD⟩ := va_join (wr := [(h0, .inr (9, [.int 0, .ref h1, .ref z0, .ref z1, .int 0, .int 0, .int 0])), (h1, .inl (k0, 4, .inr (.inr (.inr (.inr (va_up (va_up (va_up (va_up (fun _ => none) 0 (some ge5)) 1 (some ge5)) 2 (some ge5)) 3 (some ge5))))))), (h2, .inl (k1, 5, .inl (upd (upd (upd (upd (upd (fun _ => 0) 0 l1) 1 3) 2 l3) 3 l4) 4 l5)))]) (w1 := []) hP hD [] [0, 1, 2] rfl rfl (by decide) (by decide) hk1 hFc hP1 hD1
    generalize H1 = H at hP hS ⊢
    have hP : va_P (dC, dI) vwCl [(h0, .inr (9, [.int 0, .ref h1, .ref z0, .ref z1, .int 0, .int 0, .int 0])), (h1, .inl (k0, 4, .inr (.inr (.inr (.inr (va_up (va_up (va_up (va_up (fun _ => none) 0 (some ge5)) 1 (some ge5)) 2 (some ge5)) 3 (some ge5))))))), (h2, .inl (k1, 5, .inl (upd (upd (upd (upd (upd (fun _ => 0) 0 l1) 1 3) 2 l3) 3 l4) 4 l5)))] H := hP
    have hD : va_D A [(h0, .inr (9, [.int 0, .ref h1, .ref z0, .ref z1, .int 0, .int 0, .int 0])), (h1, .inl (k0, 4, .inr (.inr (.inr (.inr (va_up (va_up (va_up (va_up (fun _ => none) 0 (some ge5)) 1 (some ge5)) 2 (some ge5)) 3 (some ge5))))))), (h2, .inl (k1, 5, .inl (upd (upd (upd (upd (upd (fun _ => 0) 0 l1) 1 3) 2 l3) 3 l4) 4 l5)))] := hD
    refine lv_if_eq (tgt := 118) hx hb dX5_type_88 (by decide) (fun c9 => absurd c9 (by decide)) (fun _ => ?_)
    refine va_new (ci := 1) (fs := [.null, .int 0, .int 0, .int 0]) (C := RJ4) (T := TJ4) (N := 4) hx hb hts (by decide +kernel) tyJ4 tyJ4_ok hown (hts (.classLink RX5 49 RJ4) (by decide +kernel)) (hts (.instantiable RJ4 4) (by decide +kernel)) (hts (.initialized RJ4) (by decide +kernel)) hK hP hD hS hA rfl (fun j hj => by rcases (show j = 0 ∨ j = 1 ∨ j = 2 ∨ j = 3 by omega) with rfl | rfl | rfl | rfl <;> rfl) (Nat.le_of_ble_eq_true rfl) (Nat.le_of_ble_eq_true rfl) dX5_type_91 (fun q102 H hP hD hS => ?_)
    have hP : va_P (dC, dI) vwCl [(h0, .inr (9, [.int 0, .ref h1, .ref z0, .ref z1, .int 0, .int 0, .int 0])), (h1, .inl (k0, 4, .inr (.inr (.inr (.inr (va_up (va_up (va_up (va_up (fun _ => none) 0 (some ge5)) 1 (some ge5)) 2 (some ge5)) 3 (some ge5))))))), (h2, .inl (k1, 5, .inl (upd (upd (upd (upd (upd (fun _ => 0) 0 l1) 1 3) 2 l3) 3 l4) 4 l5))), (q102, .inr (1, [.null, .int 0, .int 0, .int 0]))] H := hP
    have hD : va_D A [(h0, .inr (9, [.int 0, .ref h1, .ref z0, .ref z1, .int 0, .int 0, .int 0])), (h1, .inl (k0, 4, .inr (.inr (.inr (.inr (va_up (va_up (va_up (va_up (fun _ => none) 0 (some ge5)) 1 (some ge5)) 2 (some ge5)) 3 (some ge5))))))), (h2, .inl (k1, 5, .inl (upd (upd (upd (upd (upd (fun _ => 0) 0 l1) 1 3) 2 l3) 3 l4) 4 l5))), (q102, .inr (1, [.null, .int 0, .int 0, .int 0]))] := hD
    refine W.widen (k := 2) (n := 9) (by omega) (by omega) ?_
    refine lv_dup hx hb dX5_type_94 rfl ?_
    have hPc := hP.sub (ws' := [(q102, .inr (1, [.null, .int 0, .int 0, .int 0]))]) [3] rfl
    have hDc := hD.sub (ws' := [(q102, .inr (1, [.null, .int 0, .int 0, .int 0]))]) [3] (by decide) rfl
    have hKc := hK.sub (tys' := []) [] rfl
    have hFc := va_free (wc := [(q102, .inr (1, [.null, .int 0, .int 0, .int 0]))]) hD hS hA [3] rfl
    refine va_callv (va_runI (As := []) (rest := [.ref q102]) ⟨hx, hb, hml, hown, hts⟩ (kx_J4_init_da8c8_0 l dC dI ge5 gea gv5 gva gde gic gi0 q102 H.size) (cwI 0 hts gX5_type_J4_init_da8c8 rfl rfl rfl (hts (.initialized RJ4) (by decide +kernel)) (hts (.methodLink RX5 51 yJ4_init_da8c8) (by decide +kernel)) (hts (.instanceMethod yJ4_init_da8c8) (by decide +kernel)) rfl (by decide +kernel) ⟨Nat.le_of_ble_eq_true rfl, Nat.le_of_ble_eq_true rfl⟩) ⟨fun a U g mk q => by obtain ⟨q0, q1, qP, qK, qD, qG⟩ := q; exact ⟨q0, q1, qP, va_K.moved (u := U) (U := U.calling g mk a) (Vm.Alike.refl U.vm) qK, qD, gv.fb qG⟩, fun U hU hW => ⟨rfl, by rw [hU], by rw [hU]; exact hPc, va_K.moved hW.alike hKc, hDc.weaken (fun _ _ _ _ => trivial), gv.pass hW hU hS hFc hG⟩⟩ rfl rfl hl.1 rfl (lv_room (Nat.le_of_ble_eq_true rfl)) dX5_type_95 ⟨Nat.le_of_ble_eq_true rfl, Nat.le_of_ble_eq_true rfl⟩) hS (fun q _ h => hFc q h) hFc (fun u t H1 locs ht hvm hw hB hz1 hk1 hS => ?_)
    obtain ⟨q103, cq104, hP1, hK1, hD1⟩ := hB
    rw [ht] at hP1
    have hK1 := va_K.moved hvm.symm hK1
    obtain ⟨hP, hD⟩ := va_join (wr := [(h0, .inr (9, [.int 0, .ref h1, .ref z0, .ref z1, .int 0, .int 0, .int 0])), (h1, .inl (k0, 4, .inr (.inr (.inr (.inr (va_up (va_up (va_up (va_up (fun _ => none) 0 (some ge5)) 1 (some ge5)) 2 (some ge5)) 3 (some ge5))))))), (h2, .inl (k1, 5, .inl (upd (upd (upd (upd (upd (fun _ => 0) 0 l1) 1 3) 2 l3) 3 l4) 4 l5)))]) (w1 := [(q102, .inr (1, [.ref q103, .int 0, .int 0, .int 0])), (q103, .inl (cq104, 16, .inl (fun _ => 0)))]) hP hD [3] [0, 1, 2] rfl rfl (by decide) (by decide) hk1 hFc hP1 hD1
    have hK := hK.app (hK1.sub (tys' := [(cq104, .byte)]) [0] rfl)
    generalize H1 = H at hP hS ⊢
    have hK : va_K (dC, dI) vwCl [(k0, .object "java/lang/String"), (k1, .int), (cq104, .byte)] s := hK
    have hP : va_P (dC, dI) vwCl [(h0, .inr (9, [.int 0, .ref h1, .ref z0, .ref z1, .int 0, .int 0, .int 0])), (h1, .inl (k0, 4, .inr (.inr (.inr (.inr (va_up (va_up (va_up (va_up (fun _ => none) 0 (some ge5)) 1 (some ge5)) 2 (some ge5)) 3 (some ge5))))))), (h2, .inl (k1, 5, .inl (upd (upd (upd (upd (upd (fun _ => 0) 0 l1) 1 3) 2 l3) 3 l4) 4 l5))), (q102, .inr (1, [.ref q103, .int 0, .int 0, .int 0])), (q103, .inl (cq104, 16, .inl (fun _ => 0)))] H := hP
    have hD : va_D A [(h0, .inr (9, [.int 0, .ref h1, .ref z0, .ref z1, .int 0, .int 0, .int 0])), (h1, .inl (k0, 4, .inr (.inr (.inr (.inr (va_up (va_up (va_up (va_up (fun _ => none) 0 (some ge5)) 1 (some ge5)) 2 (some ge5)) 3 (some ge5))))))), (h2, .inl (k1, 5, .inl (upd (upd (upd (upd (upd (fun _ => 0) 0 l1) 1 3) 2 l3) 3 l4) 4 l5))), (q102, .inr (1, [.ref q103, .int 0, .int 0, .int 0])), (q103, .inl (cq104, 16, .inl (fun _ => 0)))] := hD
    refine W.widen (k := 3) (n := 25) (by omega) (by omega) ?_
    refine lv_aload hx hb dX5_type_98 (lv_at hl 5 rfl) ?_
    have hPc := hP.sub (ws' := [(q102, .inr (1, [.ref q103, .int 0, .int 0, .int 0])), (q103, .inl (cq104, 16, .inl (fun _ => 0)))]) [3, 4] rfl
    have hDc := hD.sub (ws' := [(q102, .inr (1, [.ref q103, .int 0, .int 0, .int 0])), (q103, .inl (cq104, 16, .inl (fun _ => 0)))]) [3, 4] (by decide) rfl
    have hKc := hK.sub (tys' := [(cq104, .byte)]) [2] rfl
    have hFc := va_free (wc := [(q102, .inr (1, [.ref q103, .int 0, .int 0, .int 0])), (q103, .inl (cq104, 16, .inl (fun _ => 0)))]) hD hS hA [3, 4] rfl
    refine va_callr (va_runV (As := [.ref ge5]) (rest := []) ⟨hx, hb, hml, hown, hts⟩ (kx_J4_append_15ec4_0 l dC dI ge5 gea gv5 gva gde gic gi0 q102 q103 cq104 H.size) (cwV 1 hts gX5_type_J4_append_15ec4 rfl rfl rfl (by decide +kernel) ⟨Nat.le_of_ble_eq_true rfl, Nat.le_of_ble_eq_true rfl⟩) ⟨fun a U g mk q => by obtain ⟨q0, q1, qP, qK, qD, qG⟩ := q; exact ⟨q0, q1, qP, va_K.moved (u := U) (U := U.calling g mk a) (Vm.Alike.refl U.vm) qK, qD, gv.fb qG⟩, va_recv hKc hPc (ci := 1) (q0 := 0) rfl rfl, fun U hU hW => ⟨rfl, by rw [hU], by rw [hU]; exact hPc, va_K.moved hW.alike hKc, hDc.weaken (fun _ _ _ _ => trivial), gv.pass hW hU hS hFc hG⟩⟩ rfl rfl hl.1 rfl (lv_room (Nat.le_of_ble_eq_true rfl)) dX5_type_100 ⟨Nat.le_of_ble_eq_true rfl, Nat.le_of_ble_eq_true rfl⟩) hS (fun q _ h => hFc q h) hFc (fun u ra t H1 locs ht hvm hw hB hz1 hk1 hS => ?_)
    obtain ⟨hra, hP1, hK1, hD1⟩ := hB
    rw [hra]
    rw [ht] at hP1
    have hK1 := va_K.moved hvm.symm hK1
    obtain ⟨hP, hD⟩ := va_join (wr := [(h0, .inr (9, [.int 0, .ref h1, .ref z0, .ref z1, .int 0, .int 0, .int 0])), (h1, .inl (k0, 4, .inr (.inr (.inr (.inr (va_up (va_up (va_up (va_up (fun _ => none) 0 (some ge5)) 1 (some ge5)) 2 (some ge5)) 3 (some ge5))))))), (h2, .inl (k1, 5, .inl (upd (upd (upd (upd (upd (fun _ => 0) 0 l1) 1 3) 2 l3) 3 l4) 4 l5)))]) (w1 := [(q102, .inr (1, [.ref q103, .int 0, .int 0, .int 0])), (q103, .inl (cq104, 16, .inl (fun _ => 0)))]) hP hD [3, 4] [0, 1, 2] rfl rfl (by decide) (by decide) hk1 hFc hP1 hD1
    generalize H1 = H at hP hS ⊢
    have hP : va_P (dC, dI) vwCl [(h0, .inr (9, [.int 0, .ref h1, .ref z0, .ref z1, .int 0, .int 0, .int 0])), (h1, .inl (k0, 4, .inr (.inr (.inr (.inr (va_up (va_up (va_up (va_up (fun _ => none) 0 (some ge5)) 1 (some ge5)) 2 (some ge5)) 3 (some ge5))))))), (h2, .inl (k1, 5, .inl (upd (upd (upd (upd (upd (fun _ => 0) 0 l1) 1 3) 2 l3) 3 l4) 4 l5))), (q102, .inr (1, [.ref q103, .int 0, .int 0, .int 0])), (q103, .inl (cq104, 16, .inl (fun _ => 0)))] H := hP
    have hD : va_D A [(h0, .inr (9, [.int 0, .ref h1, .ref z0, .ref z1, .int 0, .int 0, .int 0])), (h1, .inl (k0, 4, .inr (.inr (.inr (.inr (va_up (va_up (va_up (va_up (fun _ => none) 0 (some ge5)) 1 (some ge5)) 2 (some ge5)) 3 (some ge5))))))), (h2, .inl (k1, 5, .inl (upd (upd (upd (upd (upd (fun _ => 0) 0 l1) 1 3) 2 l3) 3 l4) 4 l5))), (q102, .inr (1, [.ref q103, .int 0, .int 0, .int 0])), (q103, .inl (cq104, 16, .inl (fun _ => 0)))] := hD
    refine va_ldcS hx hb hown g_sa dX5_type_103 ?_
    refine lv_iload hx hb dX5_type_105 (lv_at hl 1 rfl) ?_
    have hPc := hP.sub (ws' := []) [] rfl
    have hDc := hD.sub (ws' := []) [] (by decide) rfl
    have hKc := hK.sub (tys' := []) [] rfl
    have hFc := va_free (wc := []) hD hS hA [] rfl
    refine va_calli (va_runV (As := [.int 3]) (rest := [.ref q102]) ⟨hx, hb, hml, hown, hts⟩ (kx_J0_charAt_5068e_3 l dC dI ge5 gea gv5 gva gde gic gi0 H.size) (cwV 1 hts gX5_type_J0_charAt_5068e rfl rfl rfl (by decide +kernel) ⟨Nat.le_of_ble_eq_true rfl, Nat.le_of_ble_eq_true rfl⟩) ⟨fun a U g mk q => by obtain ⟨q0, q1, qP, qK, qD, qG⟩ := q; exact ⟨q0, q1, qP, va_K.moved (u := U) (U := U.calling g mk a) (Vm.Alike.refl U.vm) qK, qD, gv.fb qG⟩, (by obtain ⟨cell, k1, k2, k3, -⟩ := g_oa.kept hS.2.1; exact ⟨cell, k1, k2, k3⟩), fun U hU hW => ⟨rfl, by rw [hU], by rw [hU]; exact hPc, va_K.moved hW.alike hKc, hDc.weaken (fun _ _ _ _ => trivial), gv.pass hW hU hS hFc hG⟩⟩ rfl rfl hl.1 rfl (lv_room (Nat.le_of_ble_eq_true rfl)) dX5_type_107 ⟨Nat.le_of_ble_eq_true rfl, Nat.le_of_ble_eq_true rfl⟩) hS (fun q _ h => hFc q h) hFc (fun r9 u t H1 locs ht hvm hw hB hz1 hk1 hS => ?_)
    obtain rfl := hw
    obtain ⟨hP1, hK1, hD1⟩ := hB
    rw [ht] at hP1
    have hK1 := va_K.moved hvm.symm hK1
    obtain ⟨hP, hD⟩ := va_join (wr := [(h0, .inr (9, [.int 0, .ref h1, .ref z0, .ref z1, .int 0, .int 0, .int 0])), (h1, .inl (k0, 4, .inr (.inr (.inr (.inr (va_up (va_up (va_up (va_up (fun _ => none) 0 (some ge5)) 1 (some ge5)) 2 (some ge5)) 3 (some ge5))))))), (h2, .inl (k1, 5, .inl (upd (upd (upd (upd (upd (fun _ => 0) 0 l1) 1 3) 2 l3) 3 l4) 4 l5))), (q102, .inr (1, [.ref q103, .int 0, .int 0, .int 0])), (q103, .inl (cq104, 16, .inl (fun _ => 0)))]) (w1 := []) hP hD [] [0, 1, 2, 3, 4] rfl rfl (by decide) (by decide) hk1 hFc hP1 hD1
    generalize H1 = H at hP hS ⊢
    have hP : va_P (dC, dI) vwCl [(h0, .inr (9, [.int 0, .ref h1, .ref z0, .ref z1, .int 0, .int 0, .int 0])), (h1, .inl (k0, 4, .inr (.inr (.inr (.inr (va_up (va_up (va_up (va_up (fun _ => none) 0 (some ge5)) 1 (some ge5)) 2 (some ge5)) 3 (some ge5))))))), (h2, .inl (k1, 5, .inl (upd (upd (upd (upd (upd (fun _ => 0) 0 l1) 1 3) 2 l3) 3 l4) 4 l5))), (q102, .inr (1, [.ref q103, .int 0, .int 0, .int 0])), (q103, .inl (cq104, 16, .inl (fun _ => 0)))] H := hP
    have hD : va_D A [(h0, .inr (9, [.int 0, .ref h1, .ref z0, .ref z1, .int 0, .int 0, .int 0])), (h1, .inl (k0, 4, .inr (.inr (.inr (.inr (va_up (va_up (va_up (va_up (fun _ => none) 0 (some ge5)) 1 (some ge5)) 2 (some ge5)) 3 (some ge5))))))), (h2, .inl (k1, 5, .inl (upd (upd (upd (upd (upd (fun _ => 0) 0 l1) 1 3) 2 l3) 3 l4) 4 l5))), (q102, .inr (1, [.ref q103, .int 0, .int 0, .int 0])), (q103, .inl (cq104, 16, .inl (fun _ => 0)))] := hD
    have hPc := hP.sub (ws' := [(q102, .inr (1, [.ref q103, .int 0, .int 0, .int 0])), (q103, .inl (cq104, 16, .inl (fun _ => 0)))]) [3, 4] rfl
    have hDc := hD.sub (ws' := [(q102, .inr (1, [.ref q103, .int 0, .int 0, .int 0])), (q103, .inl (cq104, 16, .inl (fun _ => 0)))]) [3, 4] (by decide) rfl
    have hKc := hK.sub (tys' := [(cq104, .byte)]) [2] rfl
    have hFc := va_free (wc := [(q102, .inr (1, [.ref q103, .int 0, .int 0, .int 0])), (q103, .inl (cq104, 16, .inl (fun _ => 0)))]) hD hS hA [3, 4] rfl
    refine va_callr (va_runV (As := [.int 100]) (rest := []) ⟨hx, hb, hml, hown, hts⟩ (kx_J4_append_cf468_3 l dC dI ge5 gea gv5 gva gde gic gi0 q102 q103 cq104 H.size) (cwV 1 hts gX5_type_J4_append_cf468 rfl rfl rfl (by decide +kernel) ⟨Nat.le_of_ble_eq_true rfl, Nat.le_of_ble_eq_true rfl⟩) ⟨fun a U g mk q => by obtain ⟨q0, q1, qP, qK, qD, qG⟩ := q; exact ⟨q0, q1, qP, va_K.moved (u := U) (U := U.calling g mk a) (Vm.Alike.refl U.vm) qK, qD, gv.fb qG⟩, va_recv hKc hPc (ci := 1) (q0 := 0) rfl rfl, fun U hU hW => ⟨rfl, by rw [hU], by rw [hU]; exact hPc, va_K.moved hW.alike hKc, hDc.weaken (fun _ _ _ _ => trivial), gv.pass hW hU hS hFc hG⟩⟩ rfl rfl hl.1 rfl (lv_room (Nat.le_of_ble_eq_true rfl)) dX5_type_110 ⟨Nat.le_of_ble_eq_true rfl, Nat.le_of_ble_eq_true rfl⟩) hS (fun q _ h => hFc q h) hFc (fun u ra t H1 locs ht hvm hw hB hz1 hk1 hS => ?_)
    obtain ⟨f105, f105_t, hra, hP1, hK1, hD1⟩ := hB
    rw [hra]
    rw [ht] at hP1
    have hK1 := va_K.moved hvm.symm hK1
    obtain ⟨hP, hD⟩ := va_join (wr := [(h0, .inr (9, [.int 0, .ref h1, .ref z0, .ref z1, .int 0, .int 0, .int 0])), (h1, .inl (k0, 4, .inr (.inr (.inr (.inr (va_up (va_up (va_up (va_up (fun _ => none) 0 (some ge5)) 1 (some ge5)) 2 (some ge5)) 3 (some ge5))))))), (h2, .inl (k1, 5, .inl (upd (upd (upd (upd (upd (fun _ => 0) 0 l1) 1 3) 2 l3) 3 l4) 4 l5)))]) (w1 := [(q102, .inr (1, [.ref q103, .int 0, .int 0, .int 1])), (q103, .inl (cq104, 16, .inl f105))]) hP hD [3, 4] [0, 1, 2] rfl rfl (by decide) (by decide) hk1 hFc hP1 hD1
    generalize H1 = H at hP hS ⊢
    have hP : va_P (dC, dI) vwCl [(h0, .inr (9, [.int 0, .ref h1, .ref z0, .ref z1, .int 0, .int 0, .int 0])), (h1, .inl (k0, 4, .inr (.inr (.inr (.inr (va_up (va_up (va_up (va_up (fun _ => none) 0 (some ge5)) 1 (some ge5)) 2 (some ge5)) 3 (some ge5))))))), (h2, .inl (k1, 5, .inl (upd (upd (upd (upd (upd (fun _ => 0) 0 l1) 1 3) 2 l3) 3 l4) 4 l5))), (q102, .inr (1, [.ref q103, .int 0, .int 0, .int 1])), (q103, .inl (cq104, 16, .inl f105))] H := hP
    have hD : va_D A [(h0, .inr (9, [.int 0, .ref h1, .ref z0, .ref z1, .int 0, .int 0, .int 0])), (h1, .inl (k0, 4, .inr (.inr (.inr (.inr (va_up (va_up (va_up (va_up (fun _ => none) 0 (some ge5)) 1 (some ge5)) 2 (some ge5)) 3 (some ge5))))))), (h2, .inl (k1, 5, .inl (upd (upd (upd (upd (upd (fun _ => 0) 0 l1) 1 3) 2 l3) 3 l4) 4 l5))), (q102, .inr (1, [.ref q103, .int 0, .int 0, .int 1])), (q103, .inl (cq104, 16, .inl f105))] := hD
    have hPc := hP.sub (ws' := [(q102, .inr (1, [.ref q103, .int 0, .int 0, .int 1])), (q103, .inl (cq104, 16, .inl f105))]) [3, 4] rfl
    have hDc := hD.sub (ws' := [(q102, .inr (1, [.ref q103, .int 0, .int 0, .int 1])), (q103, .inl (cq104, 16, .inl f105))]) [3, 4] (by decide) rfl
    have hKc := hK.sub (tys' := [(cq104, .byte)]) [2] rfl
    have hFc := va_free (wc := [(q102, .inr (1, [.ref q103, .int 0, .int 0, .int 1])), (q103, .inl (cq104, 16, .inl f105))]) hD hS hA [3, 4] rfl
    refine va_callr (va_runV (As := []) (rest := []) ⟨hx, hb, hml, hown, hts⟩ (kx_J4_toString_0e30d_1 l dC dI ge5 gea gv5 gva gde gic gi0 q102 q103 cq104 H.size f105 f105_t) (cwV 0 hts gX5_type_J4_toString_0e30d rfl rfl rfl (by decide +kernel) ⟨Nat.le_of_ble_eq_true rfl, Nat.le_of_ble_eq_true rfl⟩) ⟨fun a U g mk q => by obtain ⟨q0, q1, qP, qK, qD, qG⟩ := q; exact ⟨q0, q1, qP, va_K.moved (u := U) (U := U.calling g mk a) (Vm.Alike.refl U.vm) qK, qD, gv.fb qG⟩, va_recv hKc hPc (ci := 1) (q0 := 0) rfl rfl, fun U hU hW => ⟨rfl, by rw [hU], by rw [hU]; exact hPc, va_K.moved hW.alike hKc, hDc.weaken (fun _ _ _ _ => trivial), gv.pass hW hU hS hFc hG⟩⟩ rfl rfl hl.1 rfl (lv_room (Nat.le_of_ble_eq_true rfl)) dX5_type_113 ⟨Nat.le_of_ble_eq_true rfl, Nat.le_of_ble_eq_true rfl⟩) hS (fun q _ h => hFc q h) hFc (fun u ra t H1 locs ht hvm hw hB hz1 hk1 hS => ?_)
    obtain ⟨q106, q107, cq108, f109, f109_t, hra, hP1, hK1, hD1⟩ := hB
    rw [hra]
    rw [ht] at hP1
    have hK1 := va_K.moved hvm.symm hK1
    obtain ⟨hP, hD⟩ := va_join (wr := [(h0, .inr (9, [.int 0, .ref h1, .ref z0, .ref z1, .int 0, .int 0, .int 0])), (h1, .inl (k0, 4, .inr (.inr (.inr (.inr (va_up (va_up (va_up (va_up (fun _ => none) 0 (some ge5)) 1 (some ge5)) 2 (some ge5)) 3 (some ge5))))))), (h2, .inl (k1, 5, .inl (upd (upd (upd (upd (upd (fun _ => 0) 0 l1) 1 3) 2 l3) 3 l4) 4 l5)))]) (w1 := [(q102, .inr (1, [.ref q103, .int 0, .int 0, .int 1])), (q103, .inl (cq104, 16, .inl f105)), (q106, .inr (0, [.ref q107, .int 0, .int 0, .int 0])), (q107, .inl (cq108, 1, .inl f109))]) hP hD [3, 4] [0, 1, 2] rfl rfl (by decide) (by decide) hk1 hFc hP1 hD1
    have hK := hK.app (hK1.sub (tys' := [(cq108, .byte)]) [1] rfl)
    generalize H1 = H at hP hS ⊢
    have hK : va_K (dC, dI) vwCl [(k0, .object "java/lang/String"), (k1, .int), (cq104, .byte), (cq108, .byte)] s := hK
    have hP : va_P (dC, dI) vwCl [(h0, .inr (9, [.int 0, .ref h1, .ref z0, .ref z1, .int 0, .int 0, .int 0])), (h1, .inl (k0, 4, .inr (.inr (.inr (.inr (va_up (va_up (va_up (va_up (fun _ => none) 0 (some ge5)) 1 (some ge5)) 2 (some ge5)) 3 (some ge5))))))), (h2, .inl (k1, 5, .inl (upd (upd (upd (upd (upd (fun _ => 0) 0 l1) 1 3) 2 l3) 3 l4) 4 l5))), (q102, .inr (1, [.ref q103, .int 0, .int 0, .int 1])), (q103, .inl (cq104, 16, .inl f105)), (q106, .inr (0, [.ref q107, .int 0, .int 0, .int 0])), (q107, .inl (cq108, 1, .inl f109))] H := hP
    have hD : va_D A [(h0, .inr (9, [.int 0, .ref h1, .ref z0, .ref z1, .int 0, .int 0, .int 0])), (h1, .inl (k0, 4, .inr (.inr (.inr (.inr (va_up (va_up (va_up (va_up (fun _ => none) 0 (some ge5)) 1 (some ge5)) 2 (some ge5)) 3 (some ge5))))))), (h2, .inl (k1, 5, .inl (upd (upd (upd (upd (upd (fun _ => 0) 0 l1) 1 3) 2 l3) 3 l4) 4 l5))), (q102, .inr (1, [.ref q103, .int 0, .int 0, .int 1])), (q103, .inl (cq104, 16, .inl f105)), (q106, .inr (0, [.ref q107, .int 0, .int 0, .int 0])), (q107, .inl (cq108, 1, .inl f109))] := hD
    refine W.widen (k := 5) (n := 30) (by omega) (by omega) ?_
    refine lv_astore (lv' := [(9, .ref q106), (8, .int 0), (13, .int 3), (0, .ref h0), (1, .int rp), (7, .ref h2), (10, .ref h2), (11, .int 5), (12, .int 1)]) hx hb dX5_type_116 hl (by decide) rfl (fun ls hl => ?_)
    refine lv_iinc (v := 2) (lv' := [(12, .int 2), (9, .ref q106), (8, .int 0), (13, .int 3), (0, .ref h0), (1, .int rp), (7, .ref h2), (10, .ref h2), (11, .int 5)]) hx hb dX5_type_118 hl (k := 8) rfl (by decide) (by decide) rfl (fun ls hl => ?_)
    refine lv_goto (tgt := 47) hx hb dX5_type_121 (by decide) ?_
    have hP := hP.sub (ws' := [(h0, .inr (9, [.int 0, .ref h1, .ref z0, .ref z1, .int 0, .int 0, .int 0])), (h1, .inl (k0, 4, .inr (.inr (.inr (.inr (va_up (va_up (va_up (va_up (fun _ => none) 0 (some ge5)) 1 (some ge5)) 2 (some ge5)) 3 (some ge5))))))), (h2, .inl (k1, 5, .inl (upd (upd (upd (upd (upd (fun _ => 0) 0 l1) 1 3) 2 l3) 3 l4) 4 l5))), (q106, .inr (0, [.ref q107, .int 0, .int 0, .int 0])), (q107, .inl (cq108, 1, .inl f109))]) [0, 1, 2, 5, 6] rfl
    have hD := hD.sub (ws' := [(h0, .inr (9, [.int 0, .ref h1, .ref z0, .ref z1, .int 0, .int 0, .int 0])), (h1, .inl (k0, 4, .inr (.inr (.inr (.inr (va_up (va_up (va_up (va_up (fun _ => none) 0 (some ge5)) 1 (some ge5)) 2 (some ge5)) 3 (some ge5))))))), (h2, .inl (k1, 5, .inl (upd (upd (upd (upd (upd (fun _ => 0) 0 l1) 1 3) 2 l3) 3 l4) 4 l5))), (q106, .inr (0, [.ref q107, .int 0, .int 0, .int 0])), (q107, .inl (cq108, 1, .inl f109))]) [0, 1, 2, 5, 6] (by decide) rfl
    have hK := hK.sub (tys' := [(k0, .object "java/lang/String"), (k1, .int), (cq108, .byte)]) [0, 1, 3] rfl
    have hl := lv_sub hl [4, 5, 6, 2, 1, 7, 8, 0] (show lv_pick [(12, .int 2), (9, .ref q106), (8, .int 0), (13, .int 3), (0, .ref h0), (1, .int rp), (7, .ref h2), (10, .ref h2), (11, .int 5)] [4, 5, 6, 2, 1, 7, 8, 0] = [(0, .ref h0), (1, .int rp), (7, .ref h2), (8, .int 0), (9, .ref q106), (10, .ref h2), (11, .int 5), (12, .int 2)] from rfl)
    exact kx_X5_type_h210 f109_t hR hx hb hr hml hown hts hlocks hA hG hS hK hP hD hl
  · have l2_l : (4 : Int) ≤ l2.toInt := by omega
    have l2_u : l2.toInt ≤ (2147483647 : Int) := by omega
    have hR : kz_ty rp 0 1 [l3, l4, l5] = (R, v) := (kz_ty_b (by omega)).symm.trans hR
    refine lv_iload hx hb dX5_type_47 (lv_at hl 7 rfl) ?_
    refine lv_iload hx hb dX5_type_49 (lv_at hl 6 rfl) ?_
    refine lv_icmp_ge (tgt := 124) hx hb dX5_type_51 (by decide) (fun c9 => absurd c9 (by decide)) (fun _ => ?_)
    refine lv_aload hx hb dX5_type_54 (lv_at hl 5 rfl) ?_
    refine lv_iload hx hb dX5_type_56 (lv_at hl 7 rfl) ?_
    refine va_iald (D := (dC, dI)) hx hb hK hP 2 1 rfl rfl (by unfold vp_in; decide) dX5_type_58 ?_
    refine W.eq (g2 := F0 m 59 ls [.int l2]) rfl ?_
    refine lv_istore (lv' := [(13, .int l2), (0, .ref h0), (1, .int rp), (7, .ref h2), (8, .int 0), (9, .ref ge5), (10, .ref h2), (11, .int 5), (12, .int 1)]) hx hb dX5_type_59 hl (by decide) rfl (fun ls hl => ?_)
    refine lv_iload hx hb dX5_type_61 (lv_at hl 4 rfl) ?_
    refine lv_iload hx hb dX5_type_63 (lv_at hl 0 rfl) ?_
    refine lv_iconst (v := (-1)) hx hb dX5_type_65 (by decide) ?_
    refine lv_iconst (v := 3) hx hb dX5_type_66 (by decide) ?_
    have hPc := hP.sub (ws' := []) [] rfl
    have hDc := hD.sub (ws' := []) [] (by decide) rfl
    have hKc := hK.sub (tys' := []) [] rfl
    have hFc := va_free (wc := []) hD hS hA [] rfl
    refine va_calli (va_runS (As := [.int l2, .int (-1), .int 3]) (rest := [.int 0]) ⟨hx, hb, hml, hown, hts⟩ (kx_X5_isIn_15 l dC dI H.size l2 l2_l l2_u) (cwS 3 hts gX5_type_X5_isIn rfl rfl rfl (by decide +kernel) ⟨Nat.le_of_ble_eq_true rfl, Nat.le_of_ble_eq_true rfl⟩) ⟨fun a U g mk q => by obtain ⟨q0, q1, qP, qK, qD⟩ := q; exact ⟨q0, q1, qP, va_K.moved (u := U) (U := U.calling g mk a) (Vm.Alike.refl U.vm) qK, qD⟩, fun U hU hW => ⟨rfl, by rw [hU], by rw [hU]; exact hPc, va_K.moved hW.alike hKc, hDc.weaken (fun _ _ _ _ => trivial)⟩⟩ rfl rfl hl.1 rfl (lv_room (Nat.le_of_ble_eq_true rfl)) dX5_type_67 ⟨Nat.le_of_ble_eq_true rfl, Nat.le_of_ble_eq_true rfl⟩) hS (fun q _ h => hFc q h) hFc (fun r9 u t H1 locs ht hvm hw hB hz1 hk1 hS => ?_)
    obtain rfl := hw
    obtain ⟨hP1, hK1, hD1⟩ := hB
    rw [ht] at hP1
    have hK1 := va_K.moved hvm.symm hK1
    obtain ⟨hP, hD⟩ := va_join (wr := [(h0, .inr (9, [.int 0, .ref h1, .ref z0, .ref z1, .int 0, .int 0, .int 0])), (h1, .inl (k0, 4, .inr (.inr (.inr (.inr (va_up (va_up (va_up (va_up (fun _ => none) 0 (some ge5)) 1 (some ge5)) 2 (some ge5)) 3 (some ge5))))))), (h2, .inl (k1, 5, .inl (upd (upd (upd (upd (upd (fun _ => 0) 0 l1) 1 l2) 2 l3) 3 l4) 4 l5)))]) (w1 := []) hP hD [] [0, 1, 2] rfl rfl (by decide) (by decide) hk1 hFc hP1 hD1
    generalize H1 = H at hP hS ⊢
    have hP : va_P (dC, dI) vwCl [(h0, .inr (9, [.int 0, .ref h1, .ref z0, .ref z1, .int 0, .int 0, .int 0])), (h1, .inl (k0, 4, .inr (.inr (.inr (.inr (va_up (va_up (va_up (va_up (fun _ => none) 0 (some ge5)) 1 (some ge5)) 2 (some ge5)) 3 (some ge5))))))), (h2, .inl (k1, 5, .inl (upd (upd (upd (upd (upd (fun _ => 0) 0 l1) 1 l2) 2 l3) 3 l4) 4 l5)))] H := hP
    have hD : va_D A [(h0, .inr (9, [.int 0, .ref h1, .ref z0, .ref z1, .int 0, .int 0, .int 0])), (h1, .inl (k0, 4, .inr (.inr (.inr (.inr (va_up (va_up (va_up (va_up (fun _ => none) 0 (some ge5)) 1 (some ge5)) 2 (some ge5)) 3 (some ge5))))))), (h2, .inl (k1, 5, .inl (upd (upd (upd (upd (upd (fun _ => 0) 0 l1) 1 l2) 2 l3) 3 l4) 4 l5)))] := hD
    refine lv_if_ne (tgt := 77) hx hb dX5_type_70 (by decide) (fun c9 => absurd (by decide) c9) (fun _ => ?_)
    refine lv_iconst (v := 1) hx hb dX5_type_73 (by decide) ?_
    refine lv_goto (tgt := 78) hx hb dX5_type_74 (by decide) ?_
    refine lv_ior hx hb dX5_type_78 ?_
    refine lv_topi (fun y101 ey101 => ?_)
    obtain rfl : y101 = 1 := ey101.trans (by decide)
    refine lv_istore (lv' := [(8, .int 1), (13, .int l2), (0, .ref h0), (1, .int rp), (7, .ref h2), (9, .ref ge5), (10, .ref h2), (11, .int 5), (12, .int 1)]) hx hb dX5_type_79 hl (by decide) rfl (fun ls hl => ?_)
    refine lv_iload hx hb dX5_type_81 (lv_at hl 1 rfl) ?_
    refine lv_iconst (v := 0) hx hb dX5_type_83 (by decide) ?_
    refine lv_iconst (v := 3) hx hb dX5_type_84 (by decide) ?_
    have hPc := hP.sub (ws' := []) [] rfl
    have hDc := hD.sub (ws' := []) [] (by decide) rfl
    have hKc := hK.sub (tys' := []) [] rfl
    have hFc := va_free (wc := []) hD hS hA [] rfl
    refine va_calli (va_runS (As := [.int l2, .int 0, .int 3]) (rest := []) ⟨hx, hb, hml, hown, hts⟩ (kx_X5_isIn_2 l dC dI H.size l2 l2_l l2_u) (cwS 3 hts gX5_type_X5_isIn rfl rfl rfl (by decide +kernel) ⟨Nat.le_of_ble_eq_true rfl, Nat.le_of_ble_eq_true rfl⟩) ⟨fun a U g mk q => by obtain ⟨q0, q1, qP, qK, qD⟩ := q; exact ⟨q0, q1, qP, va_K.moved (u := U) (U := U.calling g mk a) (Vm.Alike.refl U.vm) qK, qD⟩, fun U hU hW => ⟨rfl, by rw [hU], by rw [hU]; exact hPc, va_K.moved hW.alike hKc, hDc.weaken (fun _ _ _ _ => trivial)⟩⟩ rfl rfl hl.1 rfl (lv_room (Nat.le_of_ble_eq_true rfl)) dX5_type_85 ⟨Nat.le_of_ble_eq_true rfl, Nat.le_of_ble_eq_true rfl⟩) hS (fun q _ h => hFc q h) hFc (fun r9 u t H1 locs ht hvm hw hB hz1 hk1 hS => ?_)
    obtain rfl := hw
    obtain ⟨hP1, hK1, hD1⟩ := hB
    rw [ht] at hP1
    have hK1 := va_K.moved hvm.symm hK1
    obtain ⟨hP, hD⟩ := va_join (wr := [(h0, .inr (9, [.int 0, .ref h1, .ref z0, .ref z1, .int 0, .int 0, .int 0])), (h1, .inl (k0, 4, .inr (.inr (.inr (.inr (va_up (va_up (va_up (va_up (fun _ => none) 0 (some ge5)) 1 (some ge5)) 2 (some ge5)) 3 (some ge5))))))), (h2, .inl (k1, 5, .inl (upd (upd (upd (upd (upd (fun _ => 0) 0 l1) 1 l2) 2 l3) 3 l4) 4 l5)))]) (w1 := []) hP hD [] [0, 1, 2] rfl rfl (by decide) (by decide) hk1 hFc hP1 hD1
    generalize H1 = H at hP hS ⊢
    have hP : va_P (dC, dI) vwCl [(h0, .inr (9, [.int 0, .ref h1, .ref z0, .ref z1, .int 0, .int 0, .int 0])), (h1, .inl (k0, 4, .inr (.inr (.inr (.inr (va_up (va_up (va_up (va_up (fun _ => none) 0 (some ge5)) 1 (some ge5)) 2 (some ge5)) 3 (some ge5))))))), (h2, .inl (k1, 5, .inl (upd (upd (upd (upd (upd (fun _ => 0) 0 l1) 1 l2) 2 l3) 3 l4) 4 l5)))] H := hP
    have hD : va_D A [(h0, .inr (9, [.int 0, .ref h1, .ref z0, .ref z1, .int 0, .int 0, .int 0])), (h1, .inl (k0, 4, .inr (.inr (.inr (.inr (va_up (va_up (va_up (va_up (fun _ => none) 0 (some ge5)) 1 (some ge5)) 2 (some ge5)) 3 (some ge5))))))), (h2, .inl (k1, 5, .inl (upd (upd (upd (upd (upd (fun _ => 0) 0 l1) 1 l2) 2 l3) 3 l4) 4 l5)))] := hD
    refine lv_if_eq (tgt := 118) hx hb dX5_type_88 (by decide) (fun _ => ?_) (fun c9 => absurd (by decide) c9)
    refine lv_iinc (v := 2) (lv' := [(12, .int 2), (8, .int 1), (13, .int l2), (0, .ref h0), (1, .int rp), (7, .ref h2), (9, .ref ge5), (10, .ref h2), (11, .int 5)]) hx hb dX5_type_118 hl (k := 8) rfl (by decide) (by decide) rfl (fun ls hl => ?_)
    refine lv_goto (tgt := 47) hx hb dX5_type_121 (by decide) ?_
    have hP := hP.sub (ws' := [(h0, .inr (9, [.int 0, .ref h1, .ref z0, .ref z1, .int 0, .int 0, .int 0])), (h1, .inl (k0, 4, .inr (.inr (.inr (.inr (va_up (va_up (va_up (va_up (fun _ => none) 0 (some ge5)) 1 (some ge5)) 2 (some ge5)) 3 (some ge5))))))), (h2, .inl (k1, 5, .inl (upd (upd (upd (upd (upd (fun _ => 0) 0 l1) 1 l2) 2 l3) 3 l4) 4 l5)))]) [0, 1, 2] rfl
    have hD := hD.sub (ws' := [(h0, .inr (9, [.int 0, .ref h1, .ref z0, .ref z1, .int 0, .int 0, .int 0])), (h1, .inl (k0, 4, .inr (.inr (.inr (.inr (va_up (va_up (va_up (va_up (fun _ => none) 0 (some ge5)) 1 (some ge5)) 2 (some ge5)) 3 (some ge5))))))), (h2, .inl (k1, 5, .inl (upd (upd (upd (upd (upd (fun _ => 0) 0 l1) 1 l2) 2 l3) 3 l4) 4 l5)))]) [0, 1, 2] (by decide) rfl
    have hK := hK.sub (tys' := [(k0, .object "java/lang/String"), (k1, .int)]) [0, 1] rfl
    have hl := lv_sub hl [3, 4, 5, 1, 6, 7, 8, 0] (show lv_pick [(12, .int 2), (8, .int 1), (13, .int l2), (0, .ref h0), (1, .int rp), (7, .ref h2), (9, .ref ge5), (10, .ref h2), (11, .int 5)] [3, 4, 5, 1, 6, 7, 8, 0] = [(0, .ref h0), (1, .int rp), (7, .ref h2), (8, .int 1), (9, .ref ge5), (10, .ref h2), (11, .int 5), (12, .int 2)] from rfl)
    exact kx_X5_type_h201 hR hx hb hr hml hown hts hlocks hA hG hS hK hP hD hl
