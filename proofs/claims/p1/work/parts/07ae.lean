set_option maxHeartbeats 8000000 in
set_option maxRecDepth 100000 in
theorem kx_X5_type_h410 {l : Launch} {dC : Nat → ClassId} {dI : Nat → Nat → Nat} {ge5 gea gv5 gva gde gic gi0 : Nat} {h0 h1 h2 h3 h4 z0 z1 : Nat} {k0 k1 k2 : ClassId} {rp l1 l2 l3 l4 l5 R v : Int32} {p : Program} {e : Env} {s : State} {m : MethodId} {args : Array Value} {below : List Frame} {meth : Method} {c : Code} {A : Nat → Prop} {H : Heap} {locs : List Loc} {ls : Array Slot} {f0 : Nat → Int32} (f0_t : sb_Fit f0) (hR : kz_ty rp 1 0 [l5] = (R, v)) (hx : p.tables.exec = Jvm.exec) (hb : c.code = cX5_type) (hr : meth.sig.returnType = some .int) (hml : c.maxLocals = 14) (hown : s.vm.findClass RX5 = some m.cls) (hts : ∀ w ∈ wsX5_type, w.before args s = true) (hlocks : meth.locks = false) (hA : ∀ q : Nat, s.heap.size ≤ q → A q) (hG : gv ge5 gea gv5 gva gde gic gi0 A s s.heap) (hS : va_S A s.heap H locs) (hK : va_K (dC, dI) vwCl [(k0, .object "java/lang/String"), (k1, .int), (k2, .byte)] s) (hP : va_P (dC, dI) vwCl [(h0, .inr (9, [.int 0, .ref h1, .ref z0, .ref z1, .int 0, .int 0, .int 0])), (h1, .inl (k0, 4, .inr (.inr (.inr (.inr (va_up (va_up (va_up (va_up (fun _ => none) 0 (some ge5)) 1 (some ge5)) 2 (some ge5)) 3 (some ge5))))))), (h2, .inl (k1, 5, .inl (upd (upd (upd (upd (upd (fun _ => 0) 0 l1) 1 l2) 2 l3) 3 l4) 4 l5))), (h3, .inr (0, [.ref h4, .int 0, .int 0, .int 0])), (h4, .inl (k2, 1, .inl f0))] H) (hD : va_D A [(h0, .inr (9, [.int 0, .ref h1, .ref z0, .ref z1, .int 0, .int 0, .int 0])), (h1, .inl (k0, 4, .inr (.inr (.inr (.inr (va_up (va_up (va_up (va_up (fun _ => none) 0 (some ge5)) 1 (some ge5)) 2 (some ge5)) 3 (some ge5))))))), (h2, .inl (k1, 5, .inl (upd (upd (upd (upd (upd (fun _ => 0) 0 l1) 1 l2) 2 l3) 3 l4) 4 l5))), (h3, .inr (0, [.ref h4, .int 0, .int 0, .int 0])), (h4, .inl (k2, 1, .inl f0))]) (hl : lv_has ls 14 [(0, .ref h0), (1, .int rp), (7, .ref h2), (8, .int 0), (9, .ref h3), (10, .ref h2), (11, .int 5), (12, .int 4)]) : W p l e (headSpec wsX5_type ({ frames := 6, cells := 25, slots := 169, locals := 171 })).room s m args below meth c H locs 5 30 (MQ below (va_Qi (fun (r : Int32) (_ : Unit) => r = R) (fun (_ : Unit) (t : State) => va_P (dC, dI) vwCl [(h0, .inr (9, [.int v, .ref h1, .ref z0, .ref z1, .int 0, .int 0, .int 0]))] t.heap ∧ va_K (dC, dI) vwCl [(k0, .object "java/lang/String")] t ∧ va_D A [(h0, .inr (9, [.int v, .ref h1, .ref z0, .ref z1, .int 0, .int 0, .int 0]))]) A) args s 25 169 A) (F0 m 47 ls []) := by
  obtain ⟨⟨g_AO_Text, g_AO_String, g_AO_Object, g_nm_RX1_20, g_nm_RX0_17, g_nm_RX3_31, g_nm_RX2_44, g_nm_RL_121, g_nf_RL_13, g_nf_RL_47, g_ca_IO, g_ca_IA, g_ca_IS, g_ca_IntObj, g_ca_StrObj, g_de_RT, g_de_EX, g_de_TH, g_nc_IA_IO, g_nc_IS_IO, g_nc_IS_IA⟩, ⟨g_s3, g_s5, g_sa, g_x278, g_x280, g_x282, g_x284, g_x286, g_x180, g_x238, g_x250⟩, ⟨g_o5, g_c5, g_v5, g_t5, g_oa, g_ca, g_va, g_ta, g_zc, g_zd, g_td, g_zf, g_zU, g_zN, g_zh, g_zk, g_tk, g_oi, g_vi⟩⟩ := id hG
  have a9 := Int32.le_toInt l5
  have b9 := Int32.toInt_lt l5
  rcases kz_cls l5 with r9 | rfl | rfl | rfl | rfl | rfl | r9
  · have l5_l : ((-2147483648) : Int) ≤ l5.toInt := by omega
    have l5_u : l5.toInt ≤ ((-2) : Int) := by omega
    have hR : kz_ty rp 1 1 [] = (R, v) := (kz_ty_b (by omega)).symm.trans hR
    refine lv_iload hx hb dX5_type_47 (lv_at hl 7 rfl) ?_
    refine lv_iload hx hb dX5_type_49 (lv_at hl 6 rfl) ?_
    refine lv_icmp_ge (tgt := 124) hx hb dX5_type_51 (by decide) (fun c9 => absurd c9 (by decide)) (fun _ => ?_)
    refine lv_aload hx hb dX5_type_54 (lv_at hl 5 rfl) ?_
    refine lv_iload hx hb dX5_type_56 (lv_at hl 7 rfl) ?_
    refine va_iald (D := (dC, dI)) hx hb hK hP 2 1 rfl rfl (by unfold vp_in; decide) dX5_type_58 ?_
    refine W.eq (g2 := F0 m 59 ls [.int l5]) rfl ?_
    refine lv_istore (lv' := [(13, .int l5), (0, .ref h0), (1, .int rp), (7, .ref h2), (8, .int 0), (9, .ref h3), (10, .ref h2), (11, .int 5), (12, .int 4)]) hx hb dX5_type_59 hl (by decide) rfl (fun ls hl => ?_)
    refine lv_iload hx hb dX5_type_61 (lv_at hl 4 rfl) ?_
    refine lv_iload hx hb dX5_type_63 (lv_at hl 0 rfl) ?_
    refine lv_iconst (v := (-1)) hx hb dX5_type_65 (by decide) ?_
    refine lv_iconst (v := 3) hx hb dX5_type_66 (by decide) ?_
    have hPc := hP.sub (ws' := []) [] rfl
    have hDc := hD.sub (ws' := []) [] (by decide) rfl
    have hKc := hK.sub (tys' := []) [] rfl
    have hFc := va_free (wc := []) hD hS hA [] rfl
    refine va_calli (va_runS (As := [.int l5, .int (-1), .int 3]) (rest := [.int 0]) ⟨hx, hb, hml, hown, hts⟩ (kx_X5_isIn_3 l dC dI H.size l5 l5_l l5_u) (cwS 3 hts gX5_type_X5_isIn rfl rfl rfl (by decide +kernel) ⟨Nat.le_of_ble_eq_true rfl, Nat.le_of_ble_eq_true rfl⟩) ⟨fun a U g mk q => by obtain ⟨q0, q1, qP, qK, qD⟩ := q; exact ⟨q0, q1, qP, va_K.moved (u := U) (U := U.calling g mk a) (Vm.Alike.refl U.vm) qK, qD⟩, fun U hU hW => ⟨rfl, by rw [hU], by rw [hU]; exact hPc, va_K.moved hW.alike hKc, hDc.weaken (fun _ _ _ _ => trivial)⟩⟩ rfl rfl hl.1 rfl (lv_room (Nat.le_of_ble_eq_true rfl)) dX5_type_67 ⟨Nat.le_of_ble_eq_true rfl, Nat.le_of_ble_eq_true rfl⟩) hS (fun q _ h => hFc q h) hFc (fun r9 u t H1 locs ht hvm hw hB hz1 hk1 hS => ?_)
    obtain rfl := hw
    obtain ⟨hP1, hK1, hD1⟩ := hB
    rw [ht] at hP1
    have hK1 := va_K.moved hvm.symm hK1
    obtain ⟨hP, hD⟩ := va_join (wr := [(h0, .inr (9, [.int 0, .ref h1, .ref z0, .ref z1, .int 0, .int 0, .int 0])), (h1, .inl (k0, 4, .inr (.inr (.inr (.inr (va_up (va_up (va_up (va_up (fun _ => none) 0 (some ge5)) 1 (some ge5)) 2 (some ge5)) 3 (some ge5))))))), (h2, .inl (k1, 5, .inl (upd (upd (upd (upd (upd (fun _ => 0) 0 l1) 1 l2) 2 l3) 3 l4) 4 l5))), (h3, .inr (0, [.ref h4, .int 0, .int 0, .int 0])), (h4, .inl (k2, 1, .inl f0))]) (w1 := []) hP hD [] [0, 1, 2, 3, 4] rfl rfl (by decide) (by decide) hk1 hFc hP1 hD1
    generalize H1 = H at hP hS ⊢
    have hP : va_P (dC, dI) vwCl [(h0, .inr (9, [.int 0, .ref h1, .ref z0, .ref z1, .int 0, .int 0, .int 0])), (h1, .inl (k0, 4, .inr (.inr (.inr (.inr (va_up (va_up (va_up (va_up (fun _ => none) 0 (some ge5)) 1 (some ge5)) 2 (some ge5)) 3 (some ge5))))))), (h2, .inl (k1, 5, .inl (upd (upd (upd (upd (upd (fun _ => 0) 0 l1) 1 l2) 2 l3) 3 l4) 4 l5))), (h3, .inr (0, [.ref h4, .int 0, .int 0, .int 0])), (h4, .inl (k2, 1, .inl f0))] H := hP
    have hD : va_D A [(h0, .inr (9, [.int 0, .ref h1, .ref z0, .ref z1, .int 0, .int 0, .int 0])), (h1, .inl (k0, 4, .inr (.inr (.inr (.inr (va_up (va_up (va_up (va_up (fun _ => none) 0 (some ge5)) 1 (some ge5)) 2 (some ge5)) 3 (some ge5))))))), (h2, .inl (k1, 5, .inl (upd (upd (upd (upd (upd (fun _ => 0) 0 l1) 1 l2) 2 l3) 3 l4) 4 l5))), (h3, .inr (0, [.ref h4, .int 0, .int 0, .int 0])), (h4, .inl (k2, 1, .inl f0))] := hD
    refine lv_if_ne (tgt := 77) hx hb dX5_type_70 (by decide) (fun c9 => absurd (by decide) c9) (fun _ => ?_)
    refine lv_iconst (v := 1) hx hb dX5_type_73 (by decide) ?_
    refine lv_goto (tgt := 78) hx hb dX5_type_74 (by decide) ?_
    refine lv_ior hx hb dX5_type_78 ?_
    refine lv_topi (fun y101 ey101 => ?_)
    obtain rfl : y101 = 1 := ey101.trans (by decide)
    refine lv_istore (lv' := [(8, .int 1), (13, .int l5), (0, .ref h0), (1, .int rp), (7, .ref h2), (9, .ref h3), (10, .ref h2), (11, .int 5), (12, .int 4)]) hx hb dX5_type_79 hl (by decide) rfl (fun ls hl => ?_)
    refine lv_iload hx hb dX5_type_81 (lv_at hl 1 rfl) ?_
    refine lv_iconst (v := 0) hx hb dX5_type_83 (by decide) ?_
    refine lv_iconst (v := 3) hx hb dX5_type_84 (by decide) ?_
    have hPc := hP.sub (ws' := []) [] rfl
    have hDc := hD.sub (ws' := []) [] (by decide) rfl
    have hKc := hK.sub (tys' := []) [] rfl
    have hFc := va_free (wc := []) hD hS hA [] rfl
    refine va_calli (va_runS (As := [.int l5, .int 0, .int 3]) (rest := []) ⟨hx, hb, hml, hown, hts⟩ (kx_X5_isIn_4 l dC dI H.size l5 l5_l l5_u) (cwS 3 hts gX5_type_X5_isIn rfl rfl rfl (by decide +kernel) ⟨Nat.le_of_ble_eq_true rfl, Nat.le_of_ble_eq_true rfl⟩) ⟨fun a U g mk q => by obtain ⟨q0, q1, qP, qK, qD⟩ := q; exact ⟨q0, q1, qP, va_K.moved (u := U) (U := U.calling g mk a) (Vm.Alike.refl U.vm) qK, qD⟩, fun U hU hW => ⟨rfl, by rw [hU], by rw [hU]; exact hPc, va_K.moved hW.alike hKc, hDc.weaken (fun _ _ _ _ => trivial)⟩⟩ rfl rfl hl.1 rfl (lv_room (Nat.le_of_ble_eq_true rfl)) dX5_type_85 ⟨Nat.le_of_ble_eq_true rfl, Nat.le_of_ble_eq_true rfl⟩) hS (fun q _ h => hFc q h) hFc (fun r9 u t H1 locs ht hvm hw hB hz1 hk1 hS => ?_)
    obtain rfl := hw
    obtain ⟨hP1, hK1, hD1⟩ := hB
    rw [ht] at hP1
    have hK1 := va_K.moved hvm.symm hK1
    obtain ⟨hP, hD⟩ := va_join (wr := [(h0, .inr (9, [.int 0, .ref h1, .ref z0, .ref z1, .int 0, .int 0, .int 0])), (h1, .inl (k0, 4, .inr (.inr (.inr (.inr (va_up (va_up (va_up (va_up (fun _ => none) 0 (some ge5)) 1 (some ge5)) 2 (some ge5)) 3 (some ge5))))))), (h2, .inl (k1, 5, .inl (upd (upd (upd (upd (upd (fun _ => 0) 0 l1) 1 l2) 2 l3) 3 l4) 4 l5))), (h3, .inr (0, [.ref h4, .int 0, .int 0, .int 0])), (h4, .inl (k2, 1, .inl f0))]) (w1 := []) hP hD [] [0, 1, 2, 3, 4] rfl rfl (by decide) (by decide) hk1 hFc hP1 hD1
    generalize H1 = H at hP hS ⊢
    have hP : va_P (dC, dI) vwCl [(h0, .inr (9, [.int 0, .ref h1, .ref z0, .ref z1, .int 0, .int 0, .int 0])), (h1, .inl (k0, 4, .inr (.inr (.inr (.inr (va_up (va_up (va_up (va_up (fun _ => none) 0 (some ge5)) 1 (some ge5)) 2 (some ge5)) 3 (some ge5))))))), (h2, .inl (k1, 5, .inl (upd (upd (upd (upd (upd (fun _ => 0) 0 l1) 1 l2) 2 l3) 3 l4) 4 l5))), (h3, .inr (0, [.ref h4, .int 0, .int 0, .int 0])), (h4, .inl (k2, 1, .inl f0))] H := hP
    have hD : va_D A [(h0, .inr (9, [.int 0, .ref h1, .ref z0, .ref z1, .int 0, .int 0, .int 0])), (h1, .inl (k0, 4, .inr (.inr (.inr (.inr (va_up (va_up (va_up (va_up (fun _ => none) 0 (some ge5)) 1 (some ge5)) 2 (some ge5)) 3 (some ge5))))))), (h2, .inl (k1, 5, .inl (upd (upd (upd (upd (upd (fun _ => 0) 0 l1) 1 l2) 2 l3) 3 l4) 4 l5))), (h3, .inr (0, [.ref h4, .int 0, .int 0, .int 0])), (h4, .inl (k2, 1, .inl f0))] := hD
    refine lv_if_eq (tgt := 118) hx hb dX5_type_88 (by decide) (fun _ => ?_) (fun c9 => absurd (by decide) c9)
    refine lv_iinc (v := 5) (lv' := [(12, .int 5), (8, .int 1), (13, .int l5), (0, .ref h0), (1, .int rp), (7, .ref h2), (9, .ref h3), (10, .ref h2), (11, .int 5)]) hx hb dX5_type_118 hl (k := 8) rfl (by decide) (by decide) rfl (fun ls hl => ?_)
    refine lv_goto (tgt := 47) hx hb dX5_type_121 (by decide) ?_
    have hP := hP.sub (ws' := [(h0, .inr (9, [.int 0, .ref h1, .ref z0, .ref z1, .int 0, .int 0, .int 0])), (h1, .inl (k0, 4, .inr (.inr (.inr (.inr (va_up (va_up (va_up (va_up (fun _ => none) 0 (some ge5)) 1 (some ge5)) 2 (some ge5)) 3 (some ge5))))))), (h2, .inl (k1, 5, .inl (upd (upd (upd (upd (upd (fun _ => 0) 0 l1) 1 l2) 2 l3) 3 l4) 4 l5))), (h3, .inr (0, [.ref h4, .int 0, .int 0, .int 0])), (h4, .inl (k2, 1, .inl f0))]) [0, 1, 2, 3, 4] rfl
    have hD := hD.sub (ws' := [(h0, .inr (9, [.int 0, .ref h1, .ref z0, .ref z1, .int 0, .int 0, .int 0])), (h1, .inl (k0, 4, .inr (.inr (.inr (.inr (va_up (va_up (va_up (va_up (fun _ => none) 0 (some ge5)) 1 (some ge5)) 2 (some ge5)) 3 (some ge5))))))), (h2, .inl (k1, 5, .inl (upd (upd (upd (upd (upd (fun _ => 0) 0 l1) 1 l2) 2 l3) 3 l4) 4 l5))), (h3, .inr (0, [.ref h4, .int 0, .int 0, .int 0])), (h4, .inl (k2, 1, .inl f0))]) [0, 1, 2, 3, 4] (by decide) rfl
    have hK := hK.sub (tys' := [(k0, .object "java/lang/String"), (k1, .int), (k2, .byte)]) [0, 1, 2] rfl
    have hl := lv_sub hl [3, 4, 5, 1, 6, 7, 8, 0] (show lv_pick [(12, .int 5), (8, .int 1), (13, .int l5), (0, .ref h0), (1, .int rp), (7, .ref h2), (9, .ref h3), (10, .ref h2), (11, .int 5)] [3, 4, 5, 1, 6, 7, 8, 0] = [(0, .ref h0), (1, .int rp), (7, .ref h2), (8, .int 1), (9, .ref h3), (10, .ref h2), (11, .int 5), (12, .int 5)] from rfl)
    exact kx_X5_type_h511 f0_t hR hx hb hr hml hown hts hlocks hA hG hS hK hP hD hl
  · have hR : kz_ty rp 1 0 [] = (R, v) := kz_ty_n.symm.trans hR
    refine lv_iload hx hb dX5_type_47 (lv_at hl 7 rfl) ?_
    refine lv_iload hx hb dX5_type_49 (lv_at hl 6 rfl) ?_
    refine lv_icmp_ge (tgt := 124) hx hb dX5_type_51 (by decide) (fun c9 => absurd c9 (by decide)) (fun _ => ?_)
    refine lv_aload hx hb dX5_type_54 (lv_at hl 5 rfl) ?_
    refine lv_iload hx hb dX5_type_56 (lv_at hl 7 rfl) ?_
    refine va_iald (D := (dC, dI)) hx hb hK hP 2 1 rfl rfl (by unfold vp_in; decide) dX5_type_58 ?_
    refine W.eq (g2 := F0 m 59 ls [.int (-1)]) rfl ?_
    refine lv_istore (lv' := [(13, .int (-1)), (0, .ref h0), (1, .int rp), (7, .ref h2), (8, .int 0), (9, .ref h3), (10, .ref h2), (11, .int 5), (12, .int 4)]) hx hb dX5_type_59 hl (by decide) rfl (fun ls hl => ?_)
    refine lv_iload hx hb dX5_type_61 (lv_at hl 4 rfl) ?_
    refine lv_iload hx hb dX5_type_63 (lv_at hl 0 rfl) ?_
    refine lv_iconst (v := (-1)) hx hb dX5_type_65 (by decide) ?_
    refine lv_iconst (v := 3) hx hb dX5_type_66 (by decide) ?_
    have hPc := hP.sub (ws' := []) [] rfl
    have hDc := hD.sub (ws' := []) [] (by decide) rfl
    have hKc := hK.sub (tys' := []) [] rfl
    have hFc := va_free (wc := []) hD hS hA [] rfl
    refine va_calli (va_runS (As := [.int (-1), .int (-1), .int 3]) (rest := [.int 0]) ⟨hx, hb, hml, hown, hts⟩ (kx_X5_isIn_5 l dC dI H.size) (cwS 3 hts gX5_type_X5_isIn rfl rfl rfl (by decide +kernel) ⟨Nat.le_of_ble_eq_true rfl, Nat.le_of_ble_eq_true rfl⟩) ⟨fun a U g mk q => by obtain ⟨q0, q1, qP, qK, qD⟩ := q; exact ⟨q0, q1, qP, va_K.moved (u := U) (U := U.calling g mk a) (Vm.Alike.refl U.vm) qK, qD⟩, fun U hU hW => ⟨rfl, by rw [hU], by rw [hU]; exact hPc, va_K.moved hW.alike hKc, hDc.weaken (fun _ _ _ _ => trivial)⟩⟩ rfl rfl hl.1 rfl (lv_room (Nat.le_of_ble_eq_true rfl)) dX5_type_67 ⟨Nat.le_of_ble_eq_true rfl, Nat.le_of_ble_eq_true rfl⟩) hS (fun q _ h => hFc q h) hFc (fun r9 u t H1 locs ht hvm hw hB hz1 hk1 hS => ?_)
    obtain rfl := hw
    obtain ⟨hP1, hK1, hD1⟩ := hB
    rw [ht] at hP1
    have hK1 := va_K.moved hvm.symm hK1
    obtain ⟨hP, hD⟩ := va_join (wr := [(h0, .inr (9, [.int 0, .ref h1, .ref z0, .ref z1, .int 0, .int 0, .int 0])), (h1, .inl (k0, 4, .inr (.inr (.inr (.inr (va_up (va_up (va_up (va_up (fun _ => none) 0 (some ge5)) 1 (some ge5)) 2 (some ge5)) 3 (some ge5))))))), (h2, .inl (k1, 5, .inl (upd (upd (upd (upd (upd (fun _ => 0) 0 l1) 1 l2) 2 l3) 3 l4) 4 (-1)))), (h3, .inr (0, [.ref h4, .int 0, .int 0, .int 0])), (h4, .inl (k2, 1, .inl f0))]) (w1 := []) hP hD [] [0, 1, 2, 3, 4] rfl rfl (by decide) (by decide) hk1 hFc hP1 hD1
    generalize H1 = H at hP hS ⊢
    have hP : va_P (dC, dI) vwCl [(h0, .inr (9, [.int 0, .ref h1, .ref z0, .ref z1, .int 0, .int 0, .int 0])), (h1, .inl (k0, 4, .inr (.inr (.inr (.inr (va_up (va_up (va_up (va_up (fun _ => none) 0 (some ge5)) 1 (some ge5)) 2 (some ge5)) 3 (some ge5))))))), (h2, .inl (k1, 5, .inl (upd (upd (upd (upd (upd (fun _ => 0) 0 l1) 1 l2) 2 l3) 3 l4) 4 (-1)))), (h3, .inr (0, [.ref h4, .int 0, .int 0, .int 0])), (h4, .inl (k2, 1, .inl f0))] H := hP
    have hD : va_D A [(h0, .inr (9, [.int 0, .ref h1, .ref z0, .ref z1, .int 0, .int 0, .int 0])), (h1, .inl (k0, 4, .inr (.inr (.inr (.inr (va_up (va_up (va_up (va_up (fun _ => none) 0 (some ge5)) 1 (some ge5)) 2 (some ge5)) 3 (some ge5))))))), (h2, .inl (k1, 5, .inl (upd (upd (upd (upd (upd (fun _ => 0) 0 l1) 1 l2) 2 l3) 3 l4) 4 (-1)))), (h3, .inr (0, [.ref h4, .int 0, .int 0, .int 0])), (h4, .inl (k2, 1, .inl f0))] := hD
    refine lv_if_ne (tgt := 77) hx hb dX5_type_70 (by decide) (fun _ => ?_) (fun c9 => absurd c9 (by decide))
    refine lv_iconst (v := 0) hx hb dX5_type_77 (by decide) ?_
    refine lv_ior hx hb dX5_type_78 ?_
    refine lv_topi (fun y101 ey101 => ?_)
    obtain rfl : y101 = 0 := ey101.trans (by decide)
    refine lv_istore (lv' := [(8, .int 0), (13, .int (-1)), (0, .ref h0), (1, .int rp), (7, .ref h2), (9, .ref h3), (10, .ref h2), (11, .int 5), (12, .int 4)]) hx hb dX5_type_79 hl (by decide) rfl (fun ls hl => ?_)
    refine lv_iload hx hb dX5_type_81 (lv_at hl 1 rfl) ?_
    refine lv_iconst (v := 0) hx hb dX5_type_83 (by decide) ?_
    refine lv_iconst (v := 3) hx hb dX5_type_84 (by decide) ?_
    have hPc := hP.sub (ws' := []) [] rfl
    have hDc := hD.sub (ws' := []) [] (by decide) rfl
    have hKc := hK.sub (tys' := []) [] rfl
    have hFc := va_free (wc := []) hD hS hA [] rfl
    refine va_calli (va_runS (As := [.int (-1), .int 0, .int 3]) (rest := []) ⟨hx, hb, hml, hown, hts⟩ (kx_X5_isIn_6 l dC dI H.size) (cwS 3 hts gX5_type_X5_isIn rfl rfl rfl (by decide +kernel) ⟨Nat.le_of_ble_eq_true rfl, Nat.le_of_ble_eq_true rfl⟩) ⟨fun a U g mk q => by obtain ⟨q0, q1, qP, qK, qD⟩ := q; exact ⟨q0, q1, qP, va_K.moved (u := U) (U := U.calling g mk a) (Vm.Alike.refl U.vm) qK, qD⟩, fun U hU hW => ⟨rfl, by rw [hU], by rw [hU]; exact hPc, va_K.moved hW.alike hKc, hDc.weaken (fun _ _ _ _ => trivial)⟩⟩ rfl rfl hl.1 rfl (lv_room (Nat.le_of_ble_eq_true rfl)) dX5_type_85 ⟨Nat.le_of_ble_eq_true rfl, Nat.le_of_ble_eq_true rfl⟩) hS (fun q _ h => hFc q h) hFc (fun r9 u t H1 locs ht hvm hw hB hz1 hk1 hS => ?_)
    obtain rfl := hw
    obtain ⟨hP1, hK1, hD1⟩ := hB
    rw [ht] at hP1
    have hK1 := va_K.moved hvm.symm hK1
    obtain ⟨hP, hD⟩ := va_join (wr := [(h0, .inr (9, [.int 0, .ref h1, .ref z0, .ref z1, .int 0, .int 0, .int 0])), (h1, .inl (k0, 4, .inr (.inr (.inr (.inr (va_up (va_up (va_up (va_up (fun _ => none) 0 (some ge5)) 1 (some ge5)) 2 (some ge5)) 3 (some ge5))))))), (h2, .inl (k1, 5, .inl (upd (upd (upd (upd (upd (fun _ => 0) 0 l1) 1 l2) 2 l3) 3 l4) 4 (-1)))), (h3, .inr (0, [.ref h4, .int 0, .int 0, .int 0])), (h4, .inl (k2, 1, .inl f0))]) (w1 := []) hP hD [] [0, 1, 2, 3, 4] rfl rfl (by decide) (by decide) hk1 hFc hP1 hD1
    generalize H1 = H at hP hS ⊢
    have hP : va_P (dC, dI) vwCl [(h0, .inr (9, [.int 0, .ref h1, .ref z0, .ref z1, .int 0, .int 0, .int 0])), (h1, .inl (k0, 4, .inr (.inr (.inr (.inr (va_up (va_up (va_up (va_up (fun _ => none) 0 (some ge5)) 1 (some ge5)) 2 (some ge5)) 3 (some ge5))))))), (h2, .inl (k1, 5, .inl (upd (upd (upd (upd (upd (fun _ => 0) 0 l1) 1 l2) 2 l3) 3 l4) 4 (-1)))), (h3, .inr (0, [.ref h4, .int 0, .int 0, .int 0])), (h4, .inl (k2, 1, .inl f0))] H := hP
    have hD : va_D A [(h0, .inr (9, [.int 0, .ref h1, .ref z0, .ref z1, .int 0, .int 0, .int 0])), (h1, .inl (k0, 4, .inr (.inr (.inr (.inr (va_up (va_up (va_up (va_up (fun _ => none) 0 (some ge5)) 1 (some ge5)) 2 (some ge5)) 3 (some ge5))))))), (h2, .inl (k1, 5, .inl (upd (upd (upd (upd (upd (fun _ => 0) 0 l1) 1 l2) 2 l3) 3 l4) 4 (-1)))), (h3, .inr (0, [.ref h4, .int 0, .int 0, .int 0])), (h4, .inl (k2, 1, .inl f0))] := hD
    refine lv_if_eq (tgt := 118) hx hb dX5_type_88 (by decide) (fun _ => ?_) (fun c9 => absurd (by decide) c9)
    refine lv_iinc (v := 5) (lv' := [(12, .int 5), (8, .int 0), (13, .int (-1)), (0, .ref h0), (1, .int rp), (7, .ref h2), (9, .ref h3), (10, .ref h2), (11, .int 5)]) hx hb dX5_type_118 hl (k := 8) rfl (by decide) (by decide) rfl (fun ls hl => ?_)
    refine lv_goto (tgt := 47) hx hb dX5_type_121 (by decide) ?_
    have hP := hP.sub (ws' := [(h0, .inr (9, [.int 0, .ref h1, .ref z0, .ref z1, .int 0, .int 0, .int 0])), (h1, .inl (k0, 4, .inr (.inr (.inr (.inr (va_up (va_up (va_up (va_up (fun _ => none) 0 (some ge5)) 1 (some ge5)) 2 (some ge5)) 3 (some ge5))))))), (h2, .inl (k1, 5, .inl (upd (upd (upd (upd (upd (fun _ => 0) 0 l1) 1 l2) 2 l3) 3 l4) 4 (-1)))), (h3, .inr (0, [.ref h4, .int 0, .int 0, .int 0])), (h4, .inl (k2, 1, .inl f0))]) [0, 1, 2, 3, 4] rfl
    have hD := hD.sub (ws' := [(h0, .inr (9, [.int 0, .ref h1, .ref z0, .ref z1, .int 0, .int 0, .int 0])), (h1, .inl (k0, 4, .inr (.inr (.inr (.inr (va_up (va_up (va_up (va_up (fun _ => none) 0 (some ge5)) 1 (some ge5)) 2 (some ge5)) 3 (some ge5))))))), (h2, .inl (k1, 5, .inl (upd (upd (upd (upd (upd (fun _ => 0) 0 l1) 1 l2) 2 l3) 3 l4) 4 (-1)))), (h3, .inr (0, [.ref h4, .int 0, .int 0, .int 0])), (h4, .inl (k2, 1, .inl f0))]) [0, 1, 2, 3, 4] (by decide) rfl
    have hK := hK.sub (tys' := [(k0, .object "java/lang/String"), (k1, .int), (k2, .byte)]) [0, 1, 2] rfl
    have hl := lv_sub hl [3, 4, 5, 1, 6, 7, 8, 0] (show lv_pick [(12, .int 5), (8, .int 0), (13, .int (-1)), (0, .ref h0), (1, .int rp), (7, .ref h2), (9, .ref h3), (10, .ref h2), (11, .int 5)] [3, 4, 5, 1, 6, 7, 8, 0] = [(0, .ref h0), (1, .int rp), (7, .ref h2), (8, .int 0), (9, .ref h3), (10, .ref h2), (11, .int 5), (12, .int 5)] from rfl)
    exact kx_X5_type_h510 f0_t hR hx hb hr hml hown hts hlocks hA hG hS hK hP hD hl
  · have hR : kz_ty rp 2 0 [] = (R, v) := (kz_ty_g (by decide) (by decide)).symm.trans hR
    refine lv_iload hx hb dX5_type_47 (lv_at hl 7 rfl) ?_
    refine lv_iload hx hb dX5_type_49 (lv_at hl 6 rfl) ?_
    refine lv_icmp_ge (tgt := 124) hx hb dX5_type_51 (by decide) (fun c9 => absurd c9 (by decide)) (fun _ => ?_)
    refine lv_aload hx hb dX5_type_54 (lv_at hl 5 rfl) ?_
    refine lv_iload hx hb dX5_type_56 (lv_at hl 7 rfl) ?_
    refine va_iald (D := (dC, dI)) hx hb hK hP 2 1 rfl rfl (by unfold vp_in; decide) dX5_type_58 ?_
    refine W.eq (g2 := F0 m 59 ls [.int 0]) rfl ?_
    refine lv_istore (lv' := [(13, .int 0), (0, .ref h0), (1, .int rp), (7, .ref h2), (8, .int 0), (9, .ref h3), (10, .ref h2), (11, .int 5), (12, .int 4)]) hx hb dX5_type_59 hl (by decide) rfl (fun ls hl => ?_)
    refine lv_iload hx hb dX5_type_61 (lv_at hl 4 rfl) ?_
    refine lv_iload hx hb dX5_type_63 (lv_at hl 0 rfl) ?_
    refine lv_iconst (v := (-1)) hx hb dX5_type_65 (by decide) ?_
    refine lv_iconst (v := 3) hx hb dX5_type_66 (by decide) ?_
    have hPc := hP.sub (ws' := []) [] rfl
    have hDc := hD.sub (ws' := []) [] (by decide) rfl
    have hKc := hK.sub (tys' := []) [] rfl
    have hFc := va_free (wc := []) hD hS hA [] rfl
    refine va_calli (va_runS (As := [.int 0, .int (-1), .int 3]) (rest := [.int 0]) ⟨hx, hb, hml, hown, hts⟩ (kx_X5_isIn_7 l dC dI H.size) (cwS 3 hts gX5_type_X5_isIn rfl rfl rfl (by decide +kernel) ⟨Nat.le_of_ble_eq_true rfl, Nat.le_of_ble_eq_true rfl⟩) ⟨fun a U g mk q => by obtain ⟨q0, q1, qP, qK, qD⟩ := q; exact ⟨q0, q1, qP, va_K.moved (u := U) (U := U.calling g mk a) (Vm.Alike.refl U.vm) qK, qD⟩, fun U hU hW => ⟨rfl, by rw [hU], by rw [hU]; exact hPc, va_K.moved hW.alike hKc, hDc.weaken (fun _ _ _ _ => trivial)⟩⟩ rfl rfl hl.1 rfl (lv_room (Nat.le_of_ble_eq_true rfl)) dX5_type_67 ⟨Nat.le_of_ble_eq_true rfl, Nat.le_of_ble_eq_true rfl⟩) hS (fun q _ h => hFc q h) hFc (fun r9 u t H1 locs ht hvm hw hB hz1 hk1 hS => ?_)
    obtain rfl := hw
    obtain ⟨hP1, hK1, hD1⟩ := hB
    rw [ht] at hP1
    have hK1 := va_K.moved hvm.symm hK1
    obtain ⟨hP, hD⟩ := va_join (wr := [(h0, .inr (9, [.int 0, .ref h1, .ref z0, .ref z1, .int 0, .int 0, .int 0])), (h1, .inl (k0, 4, .inr (.inr (.inr (.inr (va_up (va_up (va_up (va_up (fun _ => none) 0 (some ge5)) 1 (some ge5)) 2 (some ge5)) 3 (some ge5))))))), (h2, .inl (k1, 5, .inl (upd (upd (upd (upd (upd (fun _ => 0) 0 l1) 1 l2) 2 l3) 3 l4) 4 0))), (h3, .inr (0, [.ref h4, .int 0, .int 0, .int 0])), (h4, .inl (k2, 1, .inl f0))]) (w1 := []) hP hD [] [0, 1, 2, 3, 4] rfl rfl (by decide) (by decide) hk1 hFc hP1 hD1
    generalize H1 = H at hP hS ⊢
    have hP : va_P (dC, dI) vwCl [(h0, .inr (9, [.int 0, .ref h1, .ref z0, .ref z1, .int 0, .int 0, .int 0])), (h1, .inl (k0, 4, .inr (.inr (.inr (.inr (va_up (va_up (va_up (va_up (fun _ => none) 0 (some ge5)) 1 (some ge5)) 2 (some ge5)) 3 (some ge5))))))), (h2, .inl (k1, 5, .inl (upd (upd (upd (upd (upd (fun _ => 0) 0 l1) 1 l2) 2 l3) 3 l4) 4 0))), (h3, .inr (0, [.ref h4, .int 0, .int 0, .int 0])), (h4, .inl (k2, 1, .inl f0))] H := hP
    have hD : va_D A [(h0, .inr (9, [.int 0, .ref h1, .ref z0, .ref z1, .int 0, .int 0, .int 0])), (h1, .inl (k0, 4, .inr (.inr (.inr (.inr (va_up (va_up (va_up (va_up (fun _ => none) 0 (some ge5)) 1 (some ge5)) 2 (some ge5)) 3 (some ge5))))))), (h2, .inl (k1, 5, .inl (upd (upd (upd (upd (upd (fun _ => 0) 0 l1) 1 l2) 2 l3) 3 l4) 4 0))), (h3, .inr (0, [.ref h4, .int 0, .int 0, .int 0])), (h4, .inl (k2, 1, .inl f0))] := hD
    refine lv_if_ne (tgt := 77) hx hb dX5_type_70 (by decide) (fun _ => ?_) (fun c9 => absurd c9 (by decide))
    refine lv_iconst (v := 0) hx hb dX5_type_77 (by decide) ?_
    refine lv_ior hx hb dX5_type_78 ?_
    refine lv_topi (fun y101 ey101 => ?_)
    obtain rfl : y101 = 0 := ey101.trans (by decide)
    refine lv_istore (lv' := [(8, .int 0), (13, .int 0), (0, .ref h0), (1, .int rp), (7, .ref h2), (9, .ref h3), (10, .ref h2), (11, .int 5), (12, .int 4)]) hx hb dX5_type_79 hl (by decide) rfl (fun ls hl => ?_)
    refine lv_iload hx hb dX5_type_81 (lv_at hl 1 rfl) ?_
    refine lv_iconst (v := 0) hx hb dX5_type_83 (by decide) ?_
    refine lv_iconst (v := 3) hx hb dX5_type_84 (by decide) ?_
    have hPc := hP.sub (ws' := []) [] rfl
    have hDc := hD.sub (ws' := []) [] (by decide) rfl
    have hKc := hK.sub (tys' := []) [] rfl
    have hFc := va_free (wc := []) hD hS hA [] rfl
    refine va_calli (va_runS (As := [.int 0, .int 0, .int 3]) (rest := []) ⟨hx, hb, hml, hown, hts⟩ (kx_X5_isIn_8 l dC dI H.size) (cwS 3 hts gX5_type_X5_isIn rfl rfl rfl (by decide +kernel) ⟨Nat.le_of_ble_eq_true rfl, Nat.le_of_ble_eq_true rfl⟩) ⟨fun a U g mk q => by obtain ⟨q0, q1, qP, qK, qD⟩ := q; exact ⟨q0, q1, qP, va_K.moved (u := U) (U := U.calling g mk a) (Vm.Alike.refl U.vm) qK, qD⟩, fun U hU hW => ⟨rfl, by rw [hU], by rw [hU]; exact hPc, va_K.moved hW.alike hKc, hDc.weaken (fun _ _ _ _ => trivial)⟩⟩ rfl rfl hl.1 rfl (lv_room (Nat.le_of_ble_eq_true rfl)) dX5_type_85 ⟨Nat.le_of_ble_eq_true rfl, Nat.le_of_ble_eq_true rfl⟩) hS (fun q _ h => hFc q h) hFc (fun r9 u t H1 locs ht hvm hw hB hz1 hk1 hS => ?_)
    obtain rfl := hw
    obtain ⟨hP1, hK1, hD1⟩ := hB
    rw [ht] at hP1
    have hK1 := va_K.moved hvm.symm hK1
    obtain ⟨hP, hD⟩ := va_join (wr := [(h0, .inr (9, [.int 0, .ref h1, .ref z0, .ref z1, .int 0, .int 0, .int 0])), (h1, .inl (k0, 4, .inr (.inr (.inr (.inr (va_up (va_up (va_up (va_up (fun _ => none) 0 (some ge5)) 1 (some ge5)) 2 (some ge5)) 3 (some ge5))))))), (h2, .inl (k1, 5, .inl (upd (upd (upd (upd (upd (fun _ => 0) 0 l1) 1 l2) 2 l3) 3 l4) 4 0))), (h3, .inr (0, [.ref h4, .int 0, .int 0, .int 0])), (h4, .inl (k2, 1, .inl f0))]) (w1 := []) hP hD [] [0, 1, 2, 3, 4] rfl rfl (by decide) (by decide) hk1 hFc hP1 hD1
    generalize H1 = H at hP hS ⊢
    have hP : va_P (dC, dI) vwCl [(h0, .inr (9, [.int 0, .ref h1, .ref z0, .ref z1, .int 0, .int 0, .int 0])), (h1, .inl (k0, 4, .inr (.inr (.inr (.inr (va_up (va_up (va_up (va_up (fun _ => none) 0 (some ge5)) 1 (some ge5)) 2 (some ge5)) 3 (some ge5))))))), (h2, .inl (k1, 5, .inl (upd (upd (upd (upd (upd (fun _ => 0) 0 l1) 1 l2) 2 l3) 3 l4) 4 0))), (h3, .inr (0, [.ref h4, .int 0, .int 0, .int 0])), (h4, .inl (k2, 1, .inl f0))] H := hP
    have hD : va_D A [(h0, .inr (9, [.int 0, .ref h1, .ref z0, .ref z1, .int 0, .int 0, .int 0])), (h1, .inl (k0, 4, .inr (.inr (.inr (.inr (va_up (va_up (va_up (va_up (fun _ => none) 0 (some ge5)) 1 (some ge5)) 2 (some ge5)) 3 (some ge5))))))), (h2, .inl (k1, 5, .inl (upd (upd (upd (upd (upd (fun _ => 0) 0 l1) 1 l2) 2 l3) 3 l4) 4 0))), (h3, .inr (0, [.ref h4, .int 0, .int 0, .int 0])), (h4, .inl (k2, 1, .inl f0))] := hD
    refine lv_if_eq (tgt := 118) hx hb dX5_type_88 (by decide) (fun c9 => absurd c9 (by decide)) (fun _ => ?_)
    refine va_new (ci := 1) (fs := [.null, .int 0, .int 0, .int 0]) (C := RJ4) (T := TJ4) (N := 4) hx hb hts (by decide +kernel) tyJ4 tyJ4_ok hown (hts (.classLink RX5 49 RJ4) (by decide +kernel)) (hts (.instantiable RJ4 4) (by decide +kernel)) (hts (.initialized RJ4) (by decide +kernel)) hK hP hD hS hA rfl (fun j hj => by rcases (show j = 0 ∨ j = 1 ∨ j = 2 ∨ j = 3 by omega) with rfl | rfl | rfl | rfl <;> rfl) (Nat.le_of_ble_eq_true rfl) (Nat.le_of_ble_eq_true rfl) dX5_type_91 (fun q102 H hP hD hS => ?_)
    have hP : va_P (dC, dI) vwCl [(h0, .inr (9, [.int 0, .ref h1, .ref z0, .ref z1, .int 0, .int 0, .int 0])), (h1, .inl (k0, 4, .inr (.inr (.inr (.inr (va_up (va_up (va_up (va_up (fun _ => none) 0 (some ge5)) 1 (some ge5)) 2 (some ge5)) 3 (some ge5))))))), (h2, .inl (k1, 5, .inl (upd (upd (upd (upd (upd (fun _ => 0) 0 l1) 1 l2) 2 l3) 3 l4) 4 0))), (h3, .inr (0, [.ref h4, .int 0, .int 0, .int 0])), (h4, .inl (k2, 1, .inl f0)), (q102, .inr (1, [.null, .int 0, .int 0, .int 0]))] H := hP
    have hD : va_D A [(h0, .inr (9, [.int 0, .ref h1, .ref z0, .ref z1, .int 0, .int 0, .int 0])), (h1, .inl (k0, 4, .inr (.inr (.inr (.inr (va_up (va_up (va_up (va_up (fun _ => none) 0 (some ge5)) 1 (some ge5)) 2 (some ge5)) 3 (some ge5))))))), (h2, .inl (k1, 5, .inl (upd (upd (upd (upd (upd (fun _ => 0) 0 l1) 1 l2) 2 l3) 3 l4) 4 0))), (h3, .inr (0, [.ref h4, .int 0, .int 0, .int 0])), (h4, .inl (k2, 1, .inl f0)), (q102, .inr (1, [.null, .int 0, .int 0, .int 0]))] := hD
    refine W.widen (k := 6) (n := 34) (by omega) (by omega) ?_
    refine lv_dup hx hb dX5_type_94 rfl ?_
    have hPc := hP.sub (ws' := [(q102, .inr (1, [.null, .int 0, .int 0, .int 0]))]) [5] rfl
    have hDc := hD.sub (ws' := [(q102, .inr (1, [.null, .int 0, .int 0, .int 0]))]) [5] (by decide) rfl
    have hKc := hK.sub (tys' := []) [] rfl
    have hFc := va_free (wc := [(q102, .inr (1, [.null, .int 0, .int 0, .int 0]))]) hD hS hA [5] rfl
    refine va_callv (va_runI (As := []) (rest := [.ref q102]) ⟨hx, hb, hml, hown, hts⟩ (kx_J4_init_da8c8_0 l dC dI ge5 gea gv5 gva gde gic gi0 q102 H.size) (cwI 0 hts gX5_type_J4_init_da8c8 rfl rfl rfl (hts (.initialized RJ4) (by decide +kernel)) (hts (.methodLink RX5 51 yJ4_init_da8c8) (by decide +kernel)) (hts (.instanceMethod yJ4_init_da8c8) (by decide +kernel)) rfl (by decide +kernel) ⟨Nat.le_of_ble_eq_true rfl, Nat.le_of_ble_eq_true rfl⟩) ⟨fun a U g mk q => by obtain ⟨q0, q1, qP, qK, qD, qG⟩ := q; exact ⟨q0, q1, qP, va_K.moved (u := U) (U := U.calling g mk a) (Vm.Alike.refl U.vm) qK, qD, gv.fb qG⟩, fun U hU hW => ⟨rfl, by rw [hU], by rw [hU]; exact hPc, va_K.moved hW.alike hKc, hDc.weaken (fun _ _ _ _ => trivial), gv.pass hW hU hS hFc hG⟩⟩ rfl rfl hl.1 rfl (lv_room (Nat.le_of_ble_eq_true rfl)) dX5_type_95 ⟨Nat.le_of_ble_eq_true rfl, Nat.le_of_ble_eq_true rfl⟩) hS (fun q _ h => hFc q h) hFc (fun u t H1 locs ht hvm hw hB hz1 hk1 hS => ?_)
    obtain ⟨q103, cq104, hP1, hK1, hD1⟩ := hB
    rw [ht] at hP1
    have hK1 := va_K.moved hvm.symm hK1
    obtain ⟨hP, hD⟩ := va_join (wr := [(h0, .inr (9, [.int 0, .ref h1, .ref z0, .ref z1, .int 0, .int 0, .int 0])), (h1, .inl (k0, 4, .inr (.inr (.inr (.inr (va_up (va_up (va_up (va_up (fun _ => none) 0 (some ge5)) 1 (some ge5)) 2 (some ge5)) 3 (some ge5))))))), (h2, .inl (k1, 5, .inl (upd (upd (upd (upd (upd (fun _ => 0) 0 l1) 1 l2) 2 l3) 3 l4) 4 0))), (h3, .inr (0, [.ref h4, .int 0, .int 0, .int 0])), (h4, .inl (k2, 1, .inl f0))]) (w1 := [(q102, .inr (1, [.ref q103, .int 0, .int 0, .int 0])), (q103, .inl (cq104, 16, .inl (fun _ => 0)))]) hP hD [5] [0, 1, 2, 3, 4] rfl rfl (by decide) (by decide) hk1 hFc hP1 hD1
    have hK := hK.app (hK1.sub (tys' := [(cq104, .byte)]) [0] rfl)
    generalize H1 = H at hP hS ⊢
    have hK : va_K (dC, dI) vwCl [(k0, .object "java/lang/String"), (k1, .int), (k2, .byte), (cq104, .byte)] s := hK
    have hP : va_P (dC, dI) vwCl [(h0, .inr (9, [.int 0, .ref h1, .ref z0, .ref z1, .int 0, .int 0, .int 0])), (h1, .inl (k0, 4, .inr (.inr (.inr (.inr (va_up (va_up (va_up (va_up (fun _ => none) 0 (some ge5)) 1 (some ge5)) 2 (some ge5)) 3 (some ge5))))))), (h2, .inl (k1, 5, .inl (upd (upd (upd (upd (upd (fun _ => 0) 0 l1) 1 l2) 2 l3) 3 l4) 4 0))), (h3, .inr (0, [.ref h4, .int 0, .int 0, .int 0])), (h4, .inl (k2, 1, .inl f0)), (q102, .inr (1, [.ref q103, .int 0, .int 0, .int 0])), (q103, .inl (cq104, 16, .inl (fun _ => 0)))] H := hP
    have hD : va_D A [(h0, .inr (9, [.int 0, .ref h1, .ref z0, .ref z1, .int 0, .int 0, .int 0])), (h1, .inl (k0, 4, .inr (.inr (.inr (.inr (va_up (va_up (va_up (va_up (fun _ => none) 0 (some ge5)) 1 (some ge5)) 2 (some ge5)) 3 (some ge5))))))), (h2, .inl (k1, 5, .inl (upd (upd (upd (upd (upd (fun _ => 0) 0 l1) 1 l2) 2 l3) 3 l4) 4 0))), (h3, .inr (0, [.ref h4, .int 0, .int 0, .int 0])), (h4, .inl (k2, 1, .inl f0)), (q102, .inr (1, [.ref q103, .int 0, .int 0, .int 0])), (q103, .inl (cq104, 16, .inl (fun _ => 0)))] := hD
    refine W.widen (k := 7) (n := 50) (by omega) (by omega) ?_
    refine lv_aload hx hb dX5_type_98 (lv_at hl 5 rfl) ?_
    have hPc := hP.sub (ws' := [(h3, .inr (0, [.ref h4, .int 0, .int 0, .int 0])), (h4, .inl (k2, 1, .inl f0)), (q102, .inr (1, [.ref q103, .int 0, .int 0, .int 0])), (q103, .inl (cq104, 16, .inl (fun _ => 0)))]) [3, 4, 5, 6] rfl
    have hDc := hD.sub (ws' := [(h3, .inr (0, [.ref h4, .int 0, .int 0, .int 0])), (h4, .inl (k2, 1, .inl f0)), (q102, .inr (1, [.ref q103, .int 0, .int 0, .int 0])), (q103, .inl (cq104, 16, .inl (fun _ => 0)))]) [3, 4, 5, 6] (by decide) rfl
    have hKc := hK.sub (tys' := [(k2, .byte), (cq104, .byte)]) [2, 3] rfl
    have hFc := va_free (wc := [(h3, .inr (0, [.ref h4, .int 0, .int 0, .int 0])), (h4, .inl (k2, 1, .inl f0)), (q102, .inr (1, [.ref q103, .int 0, .int 0, .int 0])), (q103, .inl (cq104, 16, .inl (fun _ => 0)))]) hD hS hA [3, 4, 5, 6] rfl
    refine va_callr (va_runV (As := [.ref h3]) (rest := []) ⟨hx, hb, hml, hown, hts⟩ (kx_J4_append_15ec4_1 l dC dI ge5 gea gv5 gva gde gic gi0 h3 h4 q102 q103 k2 cq104 H.size f0 f0_t) (cwV 1 hts gX5_type_J4_append_15ec4 rfl rfl rfl (by decide +kernel) ⟨Nat.le_of_ble_eq_true rfl, Nat.le_of_ble_eq_true rfl⟩) ⟨fun a U g mk q => by obtain ⟨q0, q1, qP, qK, qD, qG⟩ := q; exact ⟨q0, q1, qP, va_K.moved (u := U) (U := U.calling g mk a) (Vm.Alike.refl U.vm) qK, qD, gv.fb qG⟩, va_recv hKc hPc (ci := 1) (q0 := 2) rfl rfl, fun U hU hW => ⟨rfl, by rw [hU], by rw [hU]; exact hPc, va_K.moved hW.alike hKc, hDc.weaken (fun _ _ _ _ => trivial), gv.pass hW hU hS hFc hG⟩⟩ rfl rfl hl.1 rfl (lv_room (Nat.le_of_ble_eq_true rfl)) dX5_type_100 ⟨Nat.le_of_ble_eq_true rfl, Nat.le_of_ble_eq_true rfl⟩) hS (fun q _ h => hFc q h) hFc (fun u ra t H1 locs ht hvm hw hB hz1 hk1 hS => ?_)
    obtain ⟨f105, f105_t, hra, hP1, hK1, hD1⟩ := hB
    rw [hra]
    rw [ht] at hP1
    have hK1 := va_K.moved hvm.symm hK1
    obtain ⟨hP, hD⟩ := va_join (wr := [(h0, .inr (9, [.int 0, .ref h1, .ref z0, .ref z1, .int 0, .int 0, .int 0])), (h1, .inl (k0, 4, .inr (.inr (.inr (.inr (va_up (va_up (va_up (va_up (fun _ => none) 0 (some ge5)) 1 (some ge5)) 2 (some ge5)) 3 (some ge5))))))), (h2, .inl (k1, 5, .inl (upd (upd (upd (upd (upd (fun _ => 0) 0 l1) 1 l2) 2 l3) 3 l4) 4 0)))]) (w1 := [(h3, .inr (0, [.ref h4, .int 0, .int 0, .int 0])), (h4, .inl (k2, 1, .inl f0)), (q102, .inr (1, [.ref q103, .int 0, .int 0, .int 1])), (q103, .inl (cq104, 16, .inl f105))]) hP hD [3, 4, 5, 6] [0, 1, 2] rfl rfl (by decide) (by decide) hk1 hFc hP1 hD1
    generalize H1 = H at hP hS ⊢
    have hP : va_P (dC, dI) vwCl [(h0, .inr (9, [.int 0, .ref h1, .ref z0, .ref z1, .int 0, .int 0, .int 0])), (h1, .inl (k0, 4, .inr (.inr (.inr (.inr (va_up (va_up (va_up (va_up (fun _ => none) 0 (some ge5)) 1 (some ge5)) 2 (some ge5)) 3 (some ge5))))))), (h2, .inl (k1, 5, .inl (upd (upd (upd (upd (upd (fun _ => 0) 0 l1) 1 l2) 2 l3) 3 l4) 4 0))), (h3, .inr (0, [.ref h4, .int 0, .int 0, .int 0])), (h4, .inl (k2, 1, .inl f0)), (q102, .inr (1, [.ref q103, .int 0, .int 0, .int 1])), (q103, .inl (cq104, 16, .inl f105))] H := hP
    have hD : va_D A [(h0, .inr (9, [.int 0, .ref h1, .ref z0, .ref z1, .int 0, .int 0, .int 0])), (h1, .inl (k0, 4, .inr (.inr (.inr (.inr (va_up (va_up (va_up (va_up (fun _ => none) 0 (some ge5)) 1 (some ge5)) 2 (some ge5)) 3 (some ge5))))))), (h2, .inl (k1, 5, .inl (upd (upd (upd (upd (upd (fun _ => 0) 0 l1) 1 l2) 2 l3) 3 l4) 4 0))), (h3, .inr (0, [.ref h4, .int 0, .int 0, .int 0])), (h4, .inl (k2, 1, .inl f0)), (q102, .inr (1, [.ref q103, .int 0, .int 0, .int 1])), (q103, .inl (cq104, 16, .inl f105))] := hD
    refine va_ldcS hx hb hown g_sa dX5_type_103 ?_
    refine lv_iload hx hb dX5_type_105 (lv_at hl 1 rfl) ?_
    have hPc := hP.sub (ws' := []) [] rfl
    have hDc := hD.sub (ws' := []) [] (by decide) rfl
    have hKc := hK.sub (tys' := []) [] rfl
    have hFc := va_free (wc := []) hD hS hA [] rfl
    refine va_calli (va_runV (As := [.int 0]) (rest := [.ref q102]) ⟨hx, hb, hml, hown, hts⟩ (kx_J0_charAt_5068e_0 l dC dI ge5 gea gv5 gva gde gic gi0 H.size) (cwV 1 hts gX5_type_J0_charAt_5068e rfl rfl rfl (by decide +kernel) ⟨Nat.le_of_ble_eq_true rfl, Nat.le_of_ble_eq_true rfl⟩) ⟨fun a U g mk q => by obtain ⟨q0, q1, qP, qK, qD, qG⟩ := q; exact ⟨q0, q1, qP, va_K.moved (u := U) (U := U.calling g mk a) (Vm.Alike.refl U.vm) qK, qD, gv.fb qG⟩, (by obtain ⟨cell, k1, k2, k3, -⟩ := g_oa.kept hS.2.1; exact ⟨cell, k1, k2, k3⟩), fun U hU hW => ⟨rfl, by rw [hU], by rw [hU]; exact hPc, va_K.moved hW.alike hKc, hDc.weaken (fun _ _ _ _ => trivial), gv.pass hW hU hS hFc hG⟩⟩ rfl rfl hl.1 rfl (lv_room (Nat.le_of_ble_eq_true rfl)) dX5_type_107 ⟨Nat.le_of_ble_eq_true rfl, Nat.le_of_ble_eq_true rfl⟩) hS (fun q _ h => hFc q h) hFc (fun r9 u t H1 locs ht hvm hw hB hz1 hk1 hS => ?_)
    obtain rfl := hw
    obtain ⟨hP1, hK1, hD1⟩ := hB
    rw [ht] at hP1
    have hK1 := va_K.moved hvm.symm hK1
    obtain ⟨hP, hD⟩ := va_join (wr := [(h0, .inr (9, [.int 0, .ref h1, .ref z0, .ref z1, .int 0, .int 0, .int 0])), (h1, .inl (k0, 4, .inr (.inr (.inr (.inr (va_up (va_up (va_up (va_up (fun _ => none) 0 (some ge5)) 1 (some ge5)) 2 (some ge5)) 3 (some ge5))))))), (h2, .inl (k1, 5, .inl (upd (upd (upd (upd (upd (fun _ => 0) 0 l1) 1 l2) 2 l3) 3 l4) 4 0))), (h3, .inr (0, [.ref h4, .int 0, .int 0, .int 0])), (h4, .inl (k2, 1, .inl f0)), (q102, .inr (1, [.ref q103, .int 0, .int 0, .int 1])), (q103, .inl (cq104, 16, .inl f105))]) (w1 := []) hP hD [] [0, 1, 2, 3, 4, 5, 6] rfl rfl (by decide) (by decide) hk1 hFc hP1 hD1
    generalize H1 = H at hP hS ⊢
    have hP : va_P (dC, dI) vwCl [(h0, .inr (9, [.int 0, .ref h1, .ref z0, .ref z1, .int 0, .int 0, .int 0])), (h1, .inl (k0, 4, .inr (.inr (.inr (.inr (va_up (va_up (va_up (va_up (fun _ => none) 0 (some ge5)) 1 (some ge5)) 2 (some ge5)) 3 (some ge5))))))), (h2, .inl (k1, 5, .inl (upd (upd (upd (upd (upd (fun _ => 0) 0 l1) 1 l2) 2 l3) 3 l4) 4 0))), (h3, .inr (0, [.ref h4, .int 0, .int 0, .int 0])), (h4, .inl (k2, 1, .inl f0)), (q102, .inr (1, [.ref q103, .int 0, .int 0, .int 1])), (q103, .inl (cq104, 16, .inl f105))] H := hP
    have hD : va_D A [(h0, .inr (9, [.int 0, .ref h1, .ref z0, .ref z1, .int 0, .int 0, .int 0])), (h1, .inl (k0, 4, .inr (.inr (.inr (.inr (va_up (va_up (va_up (va_up (fun _ => none) 0 (some ge5)) 1 (some ge5)) 2 (some ge5)) 3 (some ge5))))))), (h2, .inl (k1, 5, .inl (upd (upd (upd (upd (upd (fun _ => 0) 0 l1) 1 l2) 2 l3) 3 l4) 4 0))), (h3, .inr (0, [.ref h4, .int 0, .int 0, .int 0])), (h4, .inl (k2, 1, .inl f0)), (q102, .inr (1, [.ref q103, .int 0, .int 0, .int 1])), (q103, .inl (cq104, 16, .inl f105))] := hD
    have hPc := hP.sub (ws' := [(q102, .inr (1, [.ref q103, .int 0, .int 0, .int 1])), (q103, .inl (cq104, 16, .inl f105))]) [5, 6] rfl
    have hDc := hD.sub (ws' := [(q102, .inr (1, [.ref q103, .int 0, .int 0, .int 1])), (q103, .inl (cq104, 16, .inl f105))]) [5, 6] (by decide) rfl
    have hKc := hK.sub (tys' := [(cq104, .byte)]) [3] rfl
    have hFc := va_free (wc := [(q102, .inr (1, [.ref q103, .int 0, .int 0, .int 1])), (q103, .inl (cq104, 16, .inl f105))]) hD hS hA [5, 6] rfl
    refine va_callr (va_runV (As := [.int 97]) (rest := []) ⟨hx, hb, hml, hown, hts⟩ (kx_J4_append_cf468_4 l dC dI ge5 gea gv5 gva gde gic gi0 q102 q103 cq104 H.size f105 f105_t) (cwV 1 hts gX5_type_J4_append_cf468 rfl rfl rfl (by decide +kernel) ⟨Nat.le_of_ble_eq_true rfl, Nat.le_of_ble_eq_true rfl⟩) ⟨fun a U g mk q => by obtain ⟨q0, q1, qP, qK, qD, qG⟩ := q; exact ⟨q0, q1, qP, va_K.moved (u := U) (U := U.calling g mk a) (Vm.Alike.refl U.vm) qK, qD, gv.fb qG⟩, va_recv hKc hPc (ci := 1) (q0 := 0) rfl rfl, fun U hU hW => ⟨rfl, by rw [hU], by rw [hU]; exact hPc, va_K.moved hW.alike hKc, hDc.weaken (fun _ _ _ _ => trivial), gv.pass hW hU hS hFc hG⟩⟩ rfl rfl hl.1 rfl (lv_room (Nat.le_of_ble_eq_true rfl)) dX5_type_110 ⟨Nat.le_of_ble_eq_true rfl, Nat.le_of_ble_eq_true rfl⟩) hS (fun q _ h => hFc q h) hFc (fun u ra t H1 locs ht hvm hw hB hz1 hk1 hS => ?_)
    obtain ⟨f106, f106_t, hra, hP1, hK1, hD1⟩ := hB
    rw [hra]
    rw [ht] at hP1
    have hK1 := va_K.moved hvm.symm hK1
    obtain ⟨hP, hD⟩ := va_join (wr := [(h0, .inr (9, [.int 0, .ref h1, .ref z0, .ref z1, .int 0, .int 0, .int 0])), (h1, .inl (k0, 4, .inr (.inr (.inr (.inr (va_up (va_up (va_up (va_up (fun _ => none) 0 (some ge5)) 1 (some ge5)) 2 (some ge5)) 3 (some ge5))))))), (h2, .inl (k1, 5, .inl (upd (upd (upd (upd (upd (fun _ => 0) 0 l1) 1 l2) 2 l3) 3 l4) 4 0))), (h3, .inr (0, [.ref h4, .int 0, .int 0, .int 0])), (h4, .inl (k2, 1, .inl f0))]) (w1 := [(q102, .inr (1, [.ref q103, .int 0, .int 0, .int 2])), (q103, .inl (cq104, 16, .inl f106))]) hP hD [5, 6] [0, 1, 2, 3, 4] rfl rfl (by decide) (by decide) hk1 hFc hP1 hD1
    generalize H1 = H at hP hS ⊢
    have hP : va_P (dC, dI) vwCl [(h0, .inr (9, [.int 0, .ref h1, .ref z0, .ref z1, .int 0, .int 0, .int 0])), (h1, .inl (k0, 4, .inr (.inr (.inr (.inr (va_up (va_up (va_up (va_up (fun _ => none) 0 (some ge5)) 1 (some ge5)) 2 (some ge5)) 3 (some ge5))))))), (h2, .inl (k1, 5, .inl (upd (upd (upd (upd (upd (fun _ => 0) 0 l1) 1 l2) 2 l3) 3 l4) 4 0))), (h3, .inr (0, [.ref h4, .int 0, .int 0, .int 0])), (h4, .inl (k2, 1, .inl f0)), (q102, .inr (1, [.ref q103, .int 0, .int 0, .int 2])), (q103, .inl (cq104, 16, .inl f106))] H := hP
    have hD : va_D A [(h0, .inr (9, [.int 0, .ref h1, .ref z0, .ref z1, .int 0, .int 0, .int 0])), (h1, .inl (k0, 4, .inr (.inr (.inr (.inr (va_up (va_up (va_up (va_up (fun _ => none) 0 (some ge5)) 1 (some ge5)) 2 (some ge5)) 3 (some ge5))))))), (h2, .inl (k1, 5, .inl (upd (upd (upd (upd (upd (fun _ => 0) 0 l1) 1 l2) 2 l3) 3 l4) 4 0))), (h3, .inr (0, [.ref h4, .int 0, .int 0, .int 0])), (h4, .inl (k2, 1, .inl f0)), (q102, .inr (1, [.ref q103, .int 0, .int 0, .int 2])), (q103, .inl (cq104, 16, .inl f106))] := hD
    have hPc := hP.sub (ws' := [(q102, .inr (1, [.ref q103, .int 0, .int 0, .int 2])), (q103, .inl (cq104, 16, .inl f106))]) [5, 6] rfl
    have hDc := hD.sub (ws' := [(q102, .inr (1, [.ref q103, .int 0, .int 0, .int 2])), (q103, .inl (cq104, 16, .inl f106))]) [5, 6] (by decide) rfl
    have hKc := hK.sub (tys' := [(cq104, .byte)]) [3] rfl
    have hFc := va_free (wc := [(q102, .inr (1, [.ref q103, .int 0, .int 0, .int 2])), (q103, .inl (cq104, 16, .inl f106))]) hD hS hA [5, 6] rfl
    refine va_callr (va_runV (As := []) (rest := []) ⟨hx, hb, hml, hown, hts⟩ (kx_J4_toString_0e30d_2 l dC dI ge5 gea gv5 gva gde gic gi0 q102 q103 cq104 H.size f106 f106_t) (cwV 0 hts gX5_type_J4_toString_0e30d rfl rfl rfl (by decide +kernel) ⟨Nat.le_of_ble_eq_true rfl, Nat.le_of_ble_eq_true rfl⟩) ⟨fun a U g mk q => by obtain ⟨q0, q1, qP, qK, qD, qG⟩ := q; exact ⟨q0, q1, qP, va_K.moved (u := U) (U := U.calling g mk a) (Vm.Alike.refl U.vm) qK, qD, gv.fb qG⟩, va_recv hKc hPc (ci := 1) (q0 := 0) rfl rfl, fun U hU hW => ⟨rfl, by rw [hU], by rw [hU]; exact hPc, va_K.moved hW.alike hKc, hDc.weaken (fun _ _ _ _ => trivial), gv.pass hW hU hS hFc hG⟩⟩ rfl rfl hl.1 rfl (lv_room (Nat.le_of_ble_eq_true rfl)) dX5_type_113 ⟨Nat.le_of_ble_eq_true rfl, Nat.le_of_ble_eq_true rfl⟩) hS (fun q _ h => hFc q h) hFc (fun u ra t H1 locs ht hvm hw hB hz1 hk1 hS => ?_)
    obtain ⟨q107, q108, cq109, f110, f110_t, hra, hP1, hK1, hD1⟩ := hB
    rw [hra]
    rw [ht] at hP1
    have hK1 := va_K.moved hvm.symm hK1
    obtain ⟨hP, hD⟩ := va_join (wr := [(h0, .inr (9, [.int 0, .ref h1, .ref z0, .ref z1, .int 0, .int 0, .int 0])), (h1, .inl (k0, 4, .inr (.inr (.inr (.inr (va_up (va_up (va_up (va_up (fun _ => none) 0 (some ge5)) 1 (some ge5)) 2 (some ge5)) 3 (some ge5))))))), (h2, .inl (k1, 5, .inl (upd (upd (upd (upd (upd (fun _ => 0) 0 l1) 1 l2) 2 l3) 3 l4) 4 0))), (h3, .inr (0, [.ref h4, .int 0, .int 0, .int 0])), (h4, .inl (k2, 1, .inl f0))]) (w1 := [(q102, .inr (1, [.ref q103, .int 0, .int 0, .int 2])), (q103, .inl (cq104, 16, .inl f106)), (q107, .inr (0, [.ref q108, .int 0, .int 0, .int 0])), (q108, .inl (cq109, 2, .inl f110))]) hP hD [5, 6] [0, 1, 2, 3, 4] rfl rfl (by decide) (by decide) hk1 hFc hP1 hD1
    have hK := hK.app (hK1.sub (tys' := [(cq109, .byte)]) [1] rfl)
    generalize H1 = H at hP hS ⊢
    have hK : va_K (dC, dI) vwCl [(k0, .object "java/lang/String"), (k1, .int), (k2, .byte), (cq104, .byte), (cq109, .byte)] s := hK
    have hP : va_P (dC, dI) vwCl [(h0, .inr (9, [.int 0, .ref h1, .ref z0, .ref z1, .int 0, .int 0, .int 0])), (h1, .inl (k0, 4, .inr (.inr (.inr (.inr (va_up (va_up (va_up (va_up (fun _ => none) 0 (some ge5)) 1 (some ge5)) 2 (some ge5)) 3 (some ge5))))))), (h2, .inl (k1, 5, .inl (upd (upd (upd (upd (upd (fun _ => 0) 0 l1) 1 l2) 2 l3) 3 l4) 4 0))), (h3, .inr (0, [.ref h4, .int 0, .int 0, .int 0])), (h4, .inl (k2, 1, .inl f0)), (q102, .inr (1, [.ref q103, .int 0, .int 0, .int 2])), (q103, .inl (cq104, 16, .inl f106)), (q107, .inr (0, [.ref q108, .int 0, .int 0, .int 0])), (q108, .inl (cq109, 2, .inl f110))] H := hP
    have hD : va_D A [(h0, .inr (9, [.int 0, .ref h1, .ref z0, .ref z1, .int 0, .int 0, .int 0])), (h1, .inl (k0, 4, .inr (.inr (.inr (.inr (va_up (va_up (va_up (va_up (fun _ => none) 0 (some ge5)) 1 (some ge5)) 2 (some ge5)) 3 (some ge5))))))), (h2, .inl (k1, 5, .inl (upd (upd (upd (upd (upd (fun _ => 0) 0 l1) 1 l2) 2 l3) 3 l4) 4 0))), (h3, .inr (0, [.ref h4, .int 0, .int 0, .int 0])), (h4, .inl (k2, 1, .inl f0)), (q102, .inr (1, [.ref q103, .int 0, .int 0, .int 2])), (q103, .inl (cq104, 16, .inl f106)), (q107, .inr (0, [.ref q108, .int 0, .int 0, .int 0])), (q108, .inl (cq109, 2, .inl f110))] := hD
    refine W.widen (k := 9) (n := 56) (by omega) (by omega) ?_
    refine lv_astore (lv' := [(9, .ref q107), (8, .int 0), (13, .int 0), (0, .ref h0), (1, .int rp), (7, .ref h2), (10, .ref h2), (11, .int 5), (12, .int 4)]) hx hb dX5_type_116 hl (by decide) rfl (fun ls hl => ?_)
    refine lv_iinc (v := 5) (lv' := [(12, .int 5), (9, .ref q107), (8, .int 0), (13, .int 0), (0, .ref h0), (1, .int rp), (7, .ref h2), (10, .ref h2), (11, .int 5)]) hx hb dX5_type_118 hl (k := 8) rfl (by decide) (by decide) rfl (fun ls hl => ?_)
    refine lv_goto (tgt := 47) hx hb dX5_type_121 (by decide) ?_
    have hP := hP.sub (ws' := [(h0, .inr (9, [.int 0, .ref h1, .ref z0, .ref z1, .int 0, .int 0, .int 0])), (h1, .inl (k0, 4, .inr (.inr (.inr (.inr (va_up (va_up (va_up (va_up (fun _ => none) 0 (some ge5)) 1 (some ge5)) 2 (some ge5)) 3 (some ge5))))))), (h2, .inl (k1, 5, .inl (upd (upd (upd (upd (upd (fun _ => 0) 0 l1) 1 l2) 2 l3) 3 l4) 4 0))), (q107, .inr (0, [.ref q108, .int 0, .int 0, .int 0])), (q108, .inl (cq109, 2, .inl f110))]) [0, 1, 2, 7, 8] rfl
    have hD := hD.sub (ws' := [(h0, .inr (9, [.int 0, .ref h1, .ref z0, .ref z1, .int 0, .int 0, .int 0])), (h1, .inl (k0, 4, .inr (.inr (.inr (.inr (va_up (va_up (va_up (va_up (fun _ => none) 0 (some ge5)) 1 (some ge5)) 2 (some ge5)) 3 (some ge5))))))), (h2, .inl (k1, 5, .inl (upd (upd (upd (upd (upd (fun _ => 0) 0 l1) 1 l2) 2 l3) 3 l4) 4 0))), (q107, .inr (0, [.ref q108, .int 0, .int 0, .int 0])), (q108, .inl (cq109, 2, .inl f110))]) [0, 1, 2, 7, 8] (by decide) rfl
    have hK := hK.sub (tys' := [(k0, .object "java/lang/String"), (k1, .int), (cq109, .byte)]) [0, 1, 4] rfl
    have hl := lv_sub hl [4, 5, 6, 2, 1, 7, 8, 0] (show lv_pick [(12, .int 5), (9, .ref q107), (8, .int 0), (13, .int 0), (0, .ref h0), (1, .int rp), (7, .ref h2), (10, .ref h2), (11, .int 5)] [4, 5, 6, 2, 1, 7, 8, 0] = [(0, .ref h0), (1, .int rp), (7, .ref h2), (8, .int 0), (9, .ref q107), (10, .ref h2), (11, .int 5), (12, .int 5)] from rfl)
    exact kx_X5_type_h520 f110_t hR hx hb hr hml hown hts hlocks hA hG hS hK hP hD hl
  · have hR : kz_ty rp 2 0 [] = (R, v) := (kz_ty_g (by decide) (by decide)).symm.trans hR
    refine lv_iload hx hb dX5_type_47 (lv_at hl 7 rfl) ?_
    refine lv_iload hx hb dX5_type_49 (lv_at hl 6 rfl) ?_
    refine lv_icmp_ge (tgt := 124) hx hb dX5_type_51 (by decide) (fun c9 => absurd c9 (by decide)) (fun _ => ?_)
    refine lv_aload hx hb dX5_type_54 (lv_at hl 5 rfl) ?_
    refine lv_iload hx hb dX5_type_56 (lv_at hl 7 rfl) ?_
    refine va_iald (D := (dC, dI)) hx hb hK hP 2 1 rfl rfl (by unfold vp_in; decide) dX5_type_58 ?_
    refine W.eq (g2 := F0 m 59 ls [.int 1]) rfl ?_
    refine lv_istore (lv' := [(13, .int 1), (0, .ref h0), (1, .int rp), (7, .ref h2), (8, .int 0), (9, .ref h3), (10, .ref h2), (11, .int 5), (12, .int 4)]) hx hb dX5_type_59 hl (by decide) rfl (fun ls hl => ?_)
    refine lv_iload hx hb dX5_type_61 (lv_at hl 4 rfl) ?_
    refine lv_iload hx hb dX5_type_63 (lv_at hl 0 rfl) ?_
    refine lv_iconst (v := (-1)) hx hb dX5_type_65 (by decide) ?_
    refine lv_iconst (v := 3) hx hb dX5_type_66 (by decide) ?_
    have hPc := hP.sub (ws' := []) [] rfl
    have hDc := hD.sub (ws' := []) [] (by decide) rfl
    have hKc := hK.sub (tys' := []) [] rfl
    have hFc := va_free (wc := []) hD hS hA [] rfl
    refine va_calli (va_runS (As := [.int 1, .int (-1), .int 3]) (rest := [.int 0]) ⟨hx, hb, hml, hown, hts⟩ (kx_X5_isIn_9 l dC dI H.size) (cwS 3 hts gX5_type_X5_isIn rfl rfl rfl (by decide +kernel) ⟨Nat.le_of_ble_eq_true rfl, Nat.le_of_ble_eq_true rfl⟩) ⟨fun a U g mk q => by obtain ⟨q0, q1, qP, qK, qD⟩ := q; exact ⟨q0, q1, qP, va_K.moved (u := U) (U := U.calling g mk a) (Vm.Alike.refl U.vm) qK, qD⟩, fun U hU hW => ⟨rfl, by rw [hU], by rw [hU]; exact hPc, va_K.moved hW.alike hKc, hDc.weaken (fun _ _ _ _ => trivial)⟩⟩ rfl rfl hl.1 rfl (lv_room (Nat.le_of_ble_eq_true rfl)) dX5_type_67 ⟨Nat.le_of_ble_eq_true rfl, Nat.le_of_ble_eq_true rfl⟩) hS (fun q _ h => hFc q h) hFc (fun r9 u t H1 locs ht hvm hw hB hz1 hk1 hS => ?_)
    obtain rfl := hw
    obtain ⟨hP1, hK1, hD1⟩ := hB
    rw [ht] at hP1
    have hK1 := va_K.moved hvm.symm hK1
    obtain ⟨hP, hD⟩ := va_join (wr := [(h0, .inr (9, [.int 0, .ref h1, .ref z0, .ref z1, .int 0, .int 0, .int 0])), (h1, .inl (k0, 4, .inr (.inr (.inr (.inr (va_up (va_up (va_up (va_up (fun _ => none) 0 (some ge5)) 1 (some ge5)) 2 (some ge5)) 3 (some ge5))))))), (h2, .inl (k1, 5, .inl (upd (upd (upd (upd (upd (fun _ => 0) 0 l1) 1 l2) 2 l3) 3 l4) 4 1))), (h3, .inr (0, [.ref h4, .int 0, .int 0, .int 0])), (h4, .inl (k2, 1, .inl f0))]) (w1 := []) hP hD [] [0, 1, 2, 3, 4] rfl rfl (by decide) (by decide) hk1 hFc hP1 hD1
    generalize H1 = H at hP hS ⊢
    have hP : va_P (dC, dI) vwCl [(h0, .inr (9, [.int 0, .ref h1, .ref z0, .ref z1, .int 0, .int 0, .int 0])), (h1, .inl (k0, 4, .inr (.inr (.inr (.inr (va_up (va_up (va_up (va_up (fun _ => none) 0 (some ge5)) 1 (some ge5)) 2 (some ge5)) 3 (some ge5))))))), (h2, .inl (k1, 5, .inl (upd (upd (upd (upd (upd (fun _ => 0) 0 l1) 1 l2) 2 l3) 3 l4) 4 1))), (h3, .inr (0, [.ref h4, .int 0, .int 0, .int 0])), (h4, .inl (k2, 1, .inl f0))] H := hP
    have hD : va_D A [(h0, .inr (9, [.int 0, .ref h1, .ref z0, .ref z1, .int 0, .int 0, .int 0])), (h1, .inl (k0, 4, .inr (.inr (.inr (.inr (va_up (va_up (va_up (va_up (fun _ => none) 0 (some ge5)) 1 (some ge5)) 2 (some ge5)) 3 (some ge5))))))), (h2, .inl (k1, 5, .inl (upd (upd (upd (upd (upd (fun _ => 0) 0 l1) 1 l2) 2 l3) 3 l4) 4 1))), (h3, .inr (0, [.ref h4, .int 0, .int 0, .int 0])), (h4, .inl (k2, 1, .inl f0))] := hD
    refine lv_if_ne (tgt := 77) hx hb dX5_type_70 (by decide) (fun _ => ?_) (fun c9 => absurd c9 (by decide))
    refine lv_iconst (v := 0) hx hb dX5_type_77 (by decide) ?_
    refine lv_ior hx hb dX5_type_78 ?_
    refine lv_topi (fun y101 ey101 => ?_)
    obtain rfl : y101 = 0 := ey101.trans (by decide)
    refine lv_istore (lv' := [(8, .int 0), (13, .int 1), (0, .ref h0), (1, .int rp), (7, .ref h2), (9, .ref h3), (10, .ref h2), (11, .int 5), (12, .int 4)]) hx hb dX5_type_79 hl (by decide) rfl (fun ls hl => ?_)
    refine lv_iload hx hb dX5_type_81 (lv_at hl 1 rfl) ?_
    refine lv_iconst (v := 0) hx hb dX5_type_83 (by decide) ?_
    refine lv_iconst (v := 3) hx hb dX5_type_84 (by decide) ?_
    have hPc := hP.sub (ws' := []) [] rfl
    have hDc := hD.sub (ws' := []) [] (by decide) rfl
    have hKc := hK.sub (tys' := []) [] rfl
    have hFc := va_free (wc := []) hD hS hA [] rfl
    refine va_calli (va_runS (As := [.int 1, .int 0, .int 3]) (rest := []) ⟨hx, hb, hml, hown, hts⟩ (kx_X5_isIn_10 l dC dI H.size) (cwS 3 hts gX5_type_X5_isIn rfl rfl rfl (by decide +kernel) ⟨Nat.le_of_ble_eq_true rfl, Nat.le_of_ble_eq_true rfl⟩) ⟨fun a U g mk q => by obtain ⟨q0, q1, qP, qK, qD⟩ := q; exact ⟨q0, q1, qP, va_K.moved (u := U) (U := U.calling g mk a) (Vm.Alike.refl U.vm) qK, qD⟩, fun U hU hW => ⟨rfl, by rw [hU], by rw [hU]; exact hPc, va_K.moved hW.alike hKc, hDc.weaken (fun _ _ _ _ => trivial)⟩⟩ rfl rfl hl.1 rfl (lv_room (Nat.le_of_ble_eq_true rfl)) dX5_type_85 ⟨Nat.le_of_ble_eq_true rfl, Nat.le_of_ble_eq_true rfl⟩) hS (fun q _ h => hFc q h) hFc (fun r9 u t H1 locs ht hvm hw hB hz1 hk1 hS => ?_)
    obtain rfl := hw
    obtain ⟨hP1, hK1, hD1⟩ := hB
    rw [ht] at hP1
    have hK1 := va_K.moved hvm.symm hK1
    obtain ⟨hP, hD⟩ := va_join (wr := [(h0, .inr (9, [.int 0, .ref h1, .ref z0, .ref z1, .int 0, .int 0, .int 0])), (h1, .inl (k0, 4, .inr (.inr (.inr (.inr (va_up (va_up (va_up (va_up (fun _ => none) 0 (some ge5)) 1 (some ge5)) 2 (some ge5)) 3 (some ge5))))))), (h2, .inl (k1, 5, .inl (upd (upd (upd (upd (upd (fun _ => 0) 0 l1) 1 l2) 2 l3) 3 l4) 4 1))), (h3, .inr (0, [.ref h4, .int 0, .int 0, .int 0])), (h4, .inl (k2, 1, .inl f0))]) (w1 := []) hP hD [] [0, 1, 2, 3, 4] rfl rfl (by decide) (by decide) hk1 hFc hP1 hD1
    generalize H1 = H at hP hS ⊢
    have hP : va_P (dC, dI) vwCl [(h0, .inr (9, [.int 0, .ref h1, .ref z0, .ref z1, .int 0, .int 0, .int 0])), (h1, .inl (k0, 4, .inr (.inr (.inr (.inr (va_up (va_up (va_up (va_up (fun _ => none) 0 (some ge5)) 1 (some ge5)) 2 (some ge5)) 3 (some ge5))))))), (h2, .inl (k1, 5, .inl (upd (upd (upd (upd (upd (fun _ => 0) 0 l1) 1 l2) 2 l3) 3 l4) 4 1))), (h3, .inr (0, [.ref h4, .int 0, .int 0, .int 0])), (h4, .inl (k2, 1, .inl f0))] H := hP
    have hD : va_D A [(h0, .inr (9, [.int 0, .ref h1, .ref z0, .ref z1, .int 0, .int 0, .int 0])), (h1, .inl (k0, 4, .inr (.inr (.inr (.inr (va_up (va_up (va_up (va_up (fun _ => none) 0 (some ge5)) 1 (some ge5)) 2 (some ge5)) 3 (some ge5))))))), (h2, .inl (k1, 5, .inl (upd (upd (upd (upd (upd (fun _ => 0) 0 l1) 1 l2) 2 l3) 3 l4) 4 1))), (h3, .inr (0, [.ref h4, .int 0, .int 0, .int 0])), (h4, .inl (k2, 1, .inl f0))] := hD
    refine lv_if_eq (tgt := 118) hx hb dX5_type_88 (by decide) (fun c9 => absurd c9 (by decide)) (fun _ => ?_)
    refine va_new (ci := 1) (fs := [.null, .int 0, .int 0, .int 0]) (C := RJ4) (T := TJ4) (N := 4) hx hb hts (by decide +kernel) tyJ4 tyJ4_ok hown (hts (.classLink RX5 49 RJ4) (by decide +kernel)) (hts (.instantiable RJ4 4) (by decide +kernel)) (hts (.initialized RJ4) (by decide +kernel)) hK hP hD hS hA rfl (fun j hj => by rcases (show j = 0 ∨ j = 1 ∨ j = 2 ∨ j = 3 by omega) with rfl | rfl | rfl | rfl <;> rfl) (Nat.le_of_ble_eq_true rfl) (Nat.le_of_ble_eq_true rfl) dX5_type_91 (fun q102 H hP hD hS => ?_)
    have hP : va_P (dC, dI) vwCl [(h0, .inr (9, [.int 0, .ref h1, .ref z0, .ref z1, .int 0, .int 0, .int 0])), (h1, .inl (k0, 4, .inr (.inr (.inr (.inr (va_up (va_up (va_up (va_up (fun _ => none) 0 (some ge5)) 1 (some ge5)) 2 (some ge5)) 3 (some ge5))))))), (h2, .inl (k1, 5, .inl (upd (upd (upd (upd (upd (fun _ => 0) 0 l1) 1 l2) 2 l3) 3 l4) 4 1))), (h3, .inr (0, [.ref h4, .int 0, .int 0, .int 0])), (h4, .inl (k2, 1, .inl f0)), (q102, .inr (1, [.null, .int 0, .int 0, .int 0]))] H := hP
    have hD : va_D A [(h0, .inr (9, [.int 0, .ref h1, .ref z0, .ref z1, .int 0, .int 0, .int 0])), (h1, .inl (k0, 4, .inr (.inr (.inr (.inr (va_up (va_up (va_up (va_up (fun _ => none) 0 (some ge5)) 1 (some ge5)) 2 (some ge5)) 3 (some ge5))))))), (h2, .inl (k1, 5, .inl (upd (upd (upd (upd (upd (fun _ => 0) 0 l1) 1 l2) 2 l3) 3 l4) 4 1))), (h3, .inr (0, [.ref h4, .int 0, .int 0, .int 0])), (h4, .inl (k2, 1, .inl f0)), (q102, .inr (1, [.null, .int 0, .int 0, .int 0]))] := hD
    refine W.widen (k := 6) (n := 34) (by omega) (by omega) ?_
    refine lv_dup hx hb dX5_type_94 rfl ?_
    have hPc := hP.sub (ws' := [(q102, .inr (1, [.null, .int 0, .int 0, .int 0]))]) [5] rfl
    have hDc := hD.sub (ws' := [(q102, .inr (1, [.null, .int 0, .int 0, .int 0]))]) [5] (by decide) rfl
    have hKc := hK.sub (tys' := []) [] rfl
    have hFc := va_free (wc := [(q102, .inr (1, [.null, .int 0, .int 0, .int 0]))]) hD hS hA [5] rfl
    refine va_callv (va_runI (As := []) (rest := [.ref q102]) ⟨hx, hb, hml, hown, hts⟩ (kx_J4_init_da8c8_0 l dC dI ge5 gea gv5 gva gde gic gi0 q102 H.size) (cwI 0 hts gX5_type_J4_init_da8c8 rfl rfl rfl (hts (.initialized RJ4) (by decide +kernel)) (hts (.methodLink RX5 51 yJ4_init_da8c8) (by decide +kernel)) (hts (.instanceMethod yJ4_init_da8c8) (by decide +kernel)) rfl (by decide +kernel) ⟨Nat.le_of_ble_eq_true rfl, Nat.le_of_ble_eq_true rfl⟩) ⟨fun a U g mk q => by obtain ⟨q0, q1, qP, qK, qD, qG⟩ := q; exact ⟨q0, q1, qP, va_K.moved (u := U) (U := U.calling g mk a) (Vm.Alike.refl U.vm) qK, qD, gv.fb qG⟩, fun U hU hW => ⟨rfl, by rw [hU], by rw [hU]; exact hPc, va_K.moved hW.alike hKc, hDc.weaken (fun _ _ _ _ => trivial), gv.pass hW hU hS hFc hG⟩⟩ rfl rfl hl.1 rfl (lv_room (Nat.le_of_ble_eq_true rfl)) dX5_type_95 ⟨Nat.le_of_ble_eq_true rfl, Nat.le_of_ble_eq_true rfl⟩) hS (fun q _ h => hFc q h) hFc (fun u t H1 locs ht hvm hw hB hz1 hk1 hS => ?_)
    obtain ⟨q103, cq104, hP1, hK1, hD1⟩ := hB
    rw [ht] at hP1
    have hK1 := va_K.moved hvm.symm hK1
    obtain ⟨hP, hD⟩ := va_join (wr := [(h0, .inr (9, [.int 0, .ref h1, .ref z0, .ref z1, .int 0, .int 0, .int 0])), (h1, .inl (k0, 4, .inr (.inr (.inr (.inr (va_up (va_up (va_up (va_up (fun _ => none) 0 (some ge5)) 1 (some ge5)) 2 (some ge5)) 3 (some ge5))))))), (h2, .inl (k1, 5, .inl (upd (upd (upd (upd (upd (fun _ => 0) 0 l1) 1 l2) 2 l3) 3 l4) 4 1))), (h3, .inr (0, [.ref h4, .int 0, .int 0, .int 0])), (h4, .inl (k2, 1, .inl f0))]) (w1 := [(q102, .inr (1, [.ref q103, .int 0, .int 0, .int 0])), (q103, .inl (cq104, 16, .inl (fun _ => 0)))]) hP hD [5] [0, 1, 2, 3, 4] rfl rfl (by decide) (by decide) hk1 hFc hP1 hD1
    have hK := hK.app (hK1.sub (tys' := [(cq104, .byte)]) [0] rfl)
    generalize H1 = H at hP hS ⊢
    have hK : va_K (dC, dI) vwCl [(k0, .object "java/lang/String"), (k1, .int), (k2, .byte), (cq104, .byte)] s := hK
    have hP : va_P (dC, dI) vwCl [(h0, .inr (9, [.int 0, .ref h1, .ref z0, .ref z1, .int 0, .int 0, .int 0])), (h1, .inl (k0, 4, .inr (.inr (.inr (.inr (va_up (va_up (va_up (va_up (fun _ => none) 0 (some ge5)) 1 (some ge5)) 2 (some ge5)) 3 (some ge5))))))), (h2, .inl (k1, 5, .inl (upd (upd (upd (upd (upd (fun _ => 0) 0 l1) 1 l2) 2 l3) 3 l4) 4 1))), (h3, .inr (0, [.ref h4, .int 0, .int 0, .int 0])), (h4, .inl (k2, 1, .inl f0)), (q102, .inr (1, [.ref q103, .int 0, .int 0, .int 0])), (q103, .inl (cq104, 16, .inl (fun _ => 0)))] H := hP
    have hD : va_D A [(h0, .inr (9, [.int 0, .ref h1, .ref z0, .ref z1, .int 0, .int 0, .int 0])), (h1, .inl (k0, 4, .inr (.inr (.inr (.inr (va_up (va_up (va_up (va_up (fun _ => none) 0 (some ge5)) 1 (some ge5)) 2 (some ge5)) 3 (some ge5))))))), (h2, .inl (k1, 5, .inl (upd (upd (upd (upd (upd (fun _ => 0) 0 l1) 1 l2) 2 l3) 3 l4) 4 1))), (h3, .inr (0, [.ref h4, .int 0, .int 0, .int 0])), (h4, .inl (k2, 1, .inl f0)), (q102, .inr (1, [.ref q103, .int 0, .int 0, .int 0])), (q103, .inl (cq104, 16, .inl (fun _ => 0)))] := hD
    refine W.widen (k := 7) (n := 50) (by omega) (by omega) ?_
    refine lv_aload hx hb dX5_type_98 (lv_at hl 5 rfl) ?_
    have hPc := hP.sub (ws' := [(h3, .inr (0, [.ref h4, .int 0, .int 0, .int 0])), (h4, .inl (k2, 1, .inl f0)), (q102, .inr (1, [.ref q103, .int 0, .int 0, .int 0])), (q103, .inl (cq104, 16, .inl (fun _ => 0)))]) [3, 4, 5, 6] rfl
    have hDc := hD.sub (ws' := [(h3, .inr (0, [.ref h4, .int 0, .int 0, .int 0])), (h4, .inl (k2, 1, .inl f0)), (q102, .inr (1, [.ref q103, .int 0, .int 0, .int 0])), (q103, .inl (cq104, 16, .inl (fun _ => 0)))]) [3, 4, 5, 6] (by decide) rfl
    have hKc := hK.sub (tys' := [(k2, .byte), (cq104, .byte)]) [2, 3] rfl
    have hFc := va_free (wc := [(h3, .inr (0, [.ref h4, .int 0, .int 0, .int 0])), (h4, .inl (k2, 1, .inl f0)), (q102, .inr (1, [.ref q103, .int 0, .int 0, .int 0])), (q103, .inl (cq104, 16, .inl (fun _ => 0)))]) hD hS hA [3, 4, 5, 6] rfl
    refine va_callr (va_runV (As := [.ref h3]) (rest := []) ⟨hx, hb, hml, hown, hts⟩ (kx_J4_append_15ec4_1 l dC dI ge5 gea gv5 gva gde gic gi0 h3 h4 q102 q103 k2 cq104 H.size f0 f0_t) (cwV 1 hts gX5_type_J4_append_15ec4 rfl rfl rfl (by decide +kernel) ⟨Nat.le_of_ble_eq_true rfl, Nat.le_of_ble_eq_true rfl⟩) ⟨fun a U g mk q => by obtain ⟨q0, q1, qP, qK, qD, qG⟩ := q; exact ⟨q0, q1, qP, va_K.moved (u := U) (U := U.calling g mk a) (Vm.Alike.refl U.vm) qK, qD, gv.fb qG⟩, va_recv hKc hPc (ci := 1) (q0 := 2) rfl rfl, fun U hU hW => ⟨rfl, by rw [hU], by rw [hU]; exact hPc, va_K.moved hW.alike hKc, hDc.weaken (fun _ _ _ _ => trivial), gv.pass hW hU hS hFc hG⟩⟩ rfl rfl hl.1 rfl (lv_room (Nat.le_of_ble_eq_true rfl)) dX5_type_100 ⟨Nat.le_of_ble_eq_true rfl, Nat.le_of_ble_eq_true rfl⟩) hS (fun q _ h => hFc q h) hFc (fun u ra t H1 locs ht hvm hw hB hz1 hk1 hS => ?_)
    obtain ⟨f105, f105_t, hra, hP1, hK1, hD1⟩ := hB
    rw [hra]
    rw [ht] at hP1
    have hK1 := va_K.moved hvm.symm hK1
    obtain ⟨hP, hD⟩ := va_join (wr := [(h0, .inr (9, [.int 0, .ref h1, .ref z0, .ref z1, .int 0, .int 0, .int 0])), (h1, .inl (k0, 4, .inr (.inr (.inr (.inr (va_up (va_up (va_up (va_up (fun _ => none) 0 (some ge5)) 1 (some ge5)) 2 (some ge5)) 3 (some ge5))))))), (h2, .inl (k1, 5, .inl (upd (upd (upd (upd (upd (fun _ => 0) 0 l1) 1 l2) 2 l3) 3 l4) 4 1)))]) (w1 := [(h3, .inr (0, [.ref h4, .int 0, .int 0, .int 0])), (h4, .inl (k2, 1, .inl f0)), (q102, .inr (1, [.ref q103, .int 0, .int 0, .int 1])), (q103, .inl (cq104, 16, .inl f105))]) hP hD [3, 4, 5, 6] [0, 1, 2] rfl rfl (by decide) (by decide) hk1 hFc hP1 hD1
    generalize H1 = H at hP hS ⊢
    have hP : va_P (dC, dI) vwCl [(h0, .inr (9, [.int 0, .ref h1, .ref z0, .ref z1, .int 0, .int 0, .int 0])), (h1, .inl (k0, 4, .inr (.inr (.inr (.inr (va_up (va_up (va_up (va_up (fun _ => none) 0 (some ge5)) 1 (some ge5)) 2 (some ge5)) 3 (some ge5))))))), (h2, .inl (k1, 5, .inl (upd (upd (upd (upd (upd (fun _ => 0) 0 l1) 1 l2) 2 l3) 3 l4) 4 1))), (h3, .inr (0, [.ref h4, .int 0, .int 0, .int 0])), (h4, .inl (k2, 1, .inl f0)), (q102, .inr (1, [.ref q103, .int 0, .int 0, .int 1])), (q103, .inl (cq104, 16, .inl f105))] H := hP
    have hD : va_D A [(h0, .inr (9, [.int 0, .ref h1, .ref z0, .ref z1, .int 0, .int 0, .int 0])), (h1, .inl (k0, 4, .inr (.inr (.inr (.inr (va_up (va_up (va_up (va_up (fun _ => none) 0 (some ge5)) 1 (some ge5)) 2 (some ge5)) 3 (some ge5))))))), (h2, .inl (k1, 5, .inl (upd (upd (upd (upd (upd (fun _ => 0) 0 l1) 1 l2) 2 l3) 3 l4) 4 1))), (h3, .inr (0, [.ref h4, .int 0, .int 0, .int 0])), (h4, .inl (k2, 1, .inl f0)), (q102, .inr (1, [.ref q103, .int 0, .int 0, .int 1])), (q103, .inl (cq104, 16, .inl f105))] := hD
    refine va_ldcS hx hb hown g_sa dX5_type_103 ?_
    refine lv_iload hx hb dX5_type_105 (lv_at hl 1 rfl) ?_
    have hPc := hP.sub (ws' := []) [] rfl
    have hDc := hD.sub (ws' := []) [] (by decide) rfl
    have hKc := hK.sub (tys' := []) [] rfl
    have hFc := va_free (wc := []) hD hS hA [] rfl
    refine va_calli (va_runV (As := [.int 1]) (rest := [.ref q102]) ⟨hx, hb, hml, hown, hts⟩ (kx_J0_charAt_5068e_1 l dC dI ge5 gea gv5 gva gde gic gi0 H.size) (cwV 1 hts gX5_type_J0_charAt_5068e rfl rfl rfl (by decide +kernel) ⟨Nat.le_of_ble_eq_true rfl, Nat.le_of_ble_eq_true rfl⟩) ⟨fun a U g mk q => by obtain ⟨q0, q1, qP, qK, qD, qG⟩ := q; exact ⟨q0, q1, qP, va_K.moved (u := U) (U := U.calling g mk a) (Vm.Alike.refl U.vm) qK, qD, gv.fb qG⟩, (by obtain ⟨cell, k1, k2, k3, -⟩ := g_oa.kept hS.2.1; exact ⟨cell, k1, k2, k3⟩), fun U hU hW => ⟨rfl, by rw [hU], by rw [hU]; exact hPc, va_K.moved hW.alike hKc, hDc.weaken (fun _ _ _ _ => trivial), gv.pass hW hU hS hFc hG⟩⟩ rfl rfl hl.1 rfl (lv_room (Nat.le_of_ble_eq_true rfl)) dX5_type_107 ⟨Nat.le_of_ble_eq_true rfl, Nat.le_of_ble_eq_true rfl⟩) hS (fun q _ h => hFc q h) hFc (fun r9 u t H1 locs ht hvm hw hB hz1 hk1 hS => ?_)
    obtain rfl := hw
    obtain ⟨hP1, hK1, hD1⟩ := hB
    rw [ht] at hP1
    have hK1 := va_K.moved hvm.symm hK1
    obtain ⟨hP, hD⟩ := va_join (wr := [(h0, .inr (9, [.int 0, .ref h1, .ref z0, .ref z1, .int 0, .int 0, .int 0])), (h1, .inl (k0, 4, .inr (.inr (.inr (.inr (va_up (va_up (va_up (va_up (fun _ => none) 0 (some ge5)) 1 (some ge5)) 2 (some ge5)) 3 (some ge5))))))), (h2, .inl (k1, 5, .inl (upd (upd (upd (upd (upd (fun _ => 0) 0 l1) 1 l2) 2 l3) 3 l4) 4 1))), (h3, .inr (0, [.ref h4, .int 0, .int 0, .int 0])), (h4, .inl (k2, 1, .inl f0)), (q102, .inr (1, [.ref q103, .int 0, .int 0, .int 1])), (q103, .inl (cq104, 16, .inl f105))]) (w1 := []) hP hD [] [0, 1, 2, 3, 4, 5, 6] rfl rfl (by decide) (by decide) hk1 hFc hP1 hD1
    generalize H1 = H at hP hS ⊢
    have hP : va_P (dC, dI) vwCl [(h0, .inr (9, [.int 0, .ref h1, .ref z0, .ref z1, .int 0, .int 0, .int 0])), (h1, .inl (k0, 4, .inr (.inr (.inr (.inr (va_up (va_up (va_up (va_up (fun _ => none) 0 (some ge5)) 1 (some ge5)) 2 (some ge5)) 3 (some ge5))))))), (h2, .inl (k1, 5, .inl (upd (upd (upd (upd (upd (fun _ => 0) 0 l1) 1 l2) 2 l3) 3 l4) 4 1))), (h3, .inr (0, [.ref h4, .int 0, .int 0, .int 0])), (h4, .inl (k2, 1, .inl f0)), (q102, .inr (1, [.ref q103, .int 0, .int 0, .int 1])), (q103, .inl (cq104, 16, .inl f105))] H := hP
    have hD : va_D A [(h0, .inr (9, [.int 0, .ref h1, .ref z0, .ref z1, .int 0, .int 0, .int 0])), (h1, .inl (k0, 4, .inr (.inr (.inr (.inr (va_up (va_up (va_up (va_up (fun _ => none) 0 (some ge5)) 1 (some ge5)) 2 (some ge5)) 3 (some ge5))))))), (h2, .inl (k1, 5, .inl (upd (upd (upd (upd (upd (fun _ => 0) 0 l1) 1 l2) 2 l3) 3 l4) 4 1))), (h3, .inr (0, [.ref h4, .int 0, .int 0, .int 0])), (h4, .inl (k2, 1, .inl f0)), (q102, .inr (1, [.ref q103, .int 0, .int 0, .int 1])), (q103, .inl (cq104, 16, .inl f105))] := hD
    have hPc := hP.sub (ws' := [(q102, .inr (1, [.ref q103, .int 0, .int 0, .int 1])), (q103, .inl (cq104, 16, .inl f105))]) [5, 6] rfl
    have hDc := hD.sub (ws' := [(q102, .inr (1, [.ref q103, .int 0, .int 0, .int 1])), (q103, .inl (cq104, 16, .inl f105))]) [5, 6] (by decide) rfl
    have hKc := hK.sub (tys' := [(cq104, .byte)]) [3] rfl
    have hFc := va_free (wc := [(q102, .inr (1, [.ref q103, .int 0, .int 0, .int 1])), (q103, .inl (cq104, 16, .inl f105))]) hD hS hA [5, 6] rfl
    refine va_callr (va_runV (As := [.int 98]) (rest := []) ⟨hx, hb, hml, hown, hts⟩ (kx_J4_append_cf468_5 l dC dI ge5 gea gv5 gva gde gic gi0 q102 q103 cq104 H.size f105 f105_t) (cwV 1 hts gX5_type_J4_append_cf468 rfl rfl rfl (by decide +kernel) ⟨Nat.le_of_ble_eq_true rfl, Nat.le_of_ble_eq_true rfl⟩) ⟨fun a U g mk q => by obtain ⟨q0, q1, qP, qK, qD, qG⟩ := q; exact ⟨q0, q1, qP, va_K.moved (u := U) (U := U.calling g mk a) (Vm.Alike.refl U.vm) qK, qD, gv.fb qG⟩, va_recv hKc hPc (ci := 1) (q0 := 0) rfl rfl, fun U hU hW => ⟨rfl, by rw [hU], by rw [hU]; exact hPc, va_K.moved hW.alike hKc, hDc.weaken (fun _ _ _ _ => trivial), gv.pass hW hU hS hFc hG⟩⟩ rfl rfl hl.1 rfl (lv_room (Nat.le_of_ble_eq_true rfl)) dX5_type_110 ⟨Nat.le_of_ble_eq_true rfl, Nat.le_of_ble_eq_true rfl⟩) hS (fun q _ h => hFc q h) hFc (fun u ra t H1 locs ht hvm hw hB hz1 hk1 hS => ?_)
    obtain ⟨f106, f106_t, hra, hP1, hK1, hD1⟩ := hB
    rw [hra]
    rw [ht] at hP1
    have hK1 := va_K.moved hvm.symm hK1
    obtain ⟨hP, hD⟩ := va_join (wr := [(h0, .inr (9, [.int 0, .ref h1, .ref z0, .ref z1, .int 0, .int 0, .int 0])), (h1, .inl (k0, 4, .inr (.inr (.inr (.inr (va_up (va_up (va_up (va_up (fun _ => none) 0 (some ge5)) 1 (some ge5)) 2 (some ge5)) 3 (some ge5))))))), (h2, .inl (k1, 5, .inl (upd (upd (upd (upd (upd (fun _ => 0) 0 l1) 1 l2) 2 l3) 3 l4) 4 1))), (h3, .inr (0, [.ref h4, .int 0, .int 0, .int 0])), (h4, .inl (k2, 1, .inl f0))]) (w1 := [(q102, .inr (1, [.ref q103, .int 0, .int 0, .int 2])), (q103, .inl (cq104, 16, .inl f106))]) hP hD [5, 6] [0, 1, 2, 3, 4] rfl rfl (by decide) (by decide) hk1 hFc hP1 hD1
    generalize H1 = H at hP hS ⊢
    have hP : va_P (dC, dI) vwCl [(h0, .inr (9, [.int 0, .ref h1, .ref z0, .ref z1, .int 0, .int 0, .int 0])), (h1, .inl (k0, 4, .inr (.inr (.inr (.inr (va_up (va_up (va_up (va_up (fun _ => none) 0 (some ge5)) 1 (some ge5)) 2 (some ge5)) 3 (some ge5))))))), (h2, .inl (k1, 5, .inl (upd (upd (upd (upd (upd (fun _ => 0) 0 l1) 1 l2) 2 l3) 3 l4) 4 1))), (h3, .inr (0, [.ref h4, .int 0, .int 0, .int 0])), (h4, .inl (k2, 1, .inl f0)), (q102, .inr (1, [.ref q103, .int 0, .int 0, .int 2])), (q103, .inl (cq104, 16, .inl f106))] H := hP
    have hD : va_D A [(h0, .inr (9, [.int 0, .ref h1, .ref z0, .ref z1, .int 0, .int 0, .int 0])), (h1, .inl (k0, 4, .inr (.inr (.inr (.inr (va_up (va_up (va_up (va_up (fun _ => none) 0 (some ge5)) 1 (some ge5)) 2 (some ge5)) 3 (some ge5))))))), (h2, .inl (k1, 5, .inl (upd (upd (upd (upd (upd (fun _ => 0) 0 l1) 1 l2) 2 l3) 3 l4) 4 1))), (h3, .inr (0, [.ref h4, .int 0, .int 0, .int 0])), (h4, .inl (k2, 1, .inl f0)), (q102, .inr (1, [.ref q103, .int 0, .int 0, .int 2])), (q103, .inl (cq104, 16, .inl f106))] := hD
    have hPc := hP.sub (ws' := [(q102, .inr (1, [.ref q103, .int 0, .int 0, .int 2])), (q103, .inl (cq104, 16, .inl f106))]) [5, 6] rfl
    have hDc := hD.sub (ws' := [(q102, .inr (1, [.ref q103, .int 0, .int 0, .int 2])), (q103, .inl (cq104, 16, .inl f106))]) [5, 6] (by decide) rfl
    have hKc := hK.sub (tys' := [(cq104, .byte)]) [3] rfl
    have hFc := va_free (wc := [(q102, .inr (1, [.ref q103, .int 0, .int 0, .int 2])), (q103, .inl (cq104, 16, .inl f106))]) hD hS hA [5, 6] rfl
    refine va_callr (va_runV (As := []) (rest := []) ⟨hx, hb, hml, hown, hts⟩ (kx_J4_toString_0e30d_2 l dC dI ge5 gea gv5 gva gde gic gi0 q102 q103 cq104 H.size f106 f106_t) (cwV 0 hts gX5_type_J4_toString_0e30d rfl rfl rfl (by decide +kernel) ⟨Nat.le_of_ble_eq_true rfl, Nat.le_of_ble_eq_true rfl⟩) ⟨fun a U g mk q => by obtain ⟨q0, q1, qP, qK, qD, qG⟩ := q; exact ⟨q0, q1, qP, va_K.moved (u := U) (U := U.calling g mk a) (Vm.Alike.refl U.vm) qK, qD, gv.fb qG⟩, va_recv hKc hPc (ci := 1) (q0 := 0) rfl rfl, fun U hU hW => ⟨rfl, by rw [hU], by rw [hU]; exact hPc, va_K.moved hW.alike hKc, hDc.weaken (fun _ _ _ _ => trivial), gv.pass hW hU hS hFc hG⟩⟩ rfl rfl hl.1 rfl (lv_room (Nat.le_of_ble_eq_true rfl)) dX5_type_113 ⟨Nat.le_of_ble_eq_true rfl, Nat.le_of_ble_eq_true rfl⟩) hS (fun q _ h => hFc q h) hFc (fun u ra t H1 locs ht hvm hw hB hz1 hk1 hS => ?_)
    obtain ⟨q107, q108, cq109, f110, f110_t, hra, hP1, hK1, hD1⟩ := hB
    rw [hra]
    rw [ht] at hP1
    have hK1 := va_K.moved hvm.symm hK1
    obtain ⟨hP, hD⟩ := va_join (wr := [(h0, .inr (9, [.int 0, .ref h1, .ref z0, .ref z1, .int 0, .int 0, .int 0])), (h1, .inl (k0, 4, .inr (.inr (.inr (.inr (va_up (va_up (va_up (va_up (fun _ => none) 0 (some ge5)) 1 (some ge5)) 2 (some ge5)) 3 (some ge5))))))), (h2, .inl (k1, 5, .inl (upd (upd (upd (upd (upd (fun _ => 0) 0 l1) 1 l2) 2 l3) 3 l4) 4 1))), (h3, .inr (0, [.ref h4, .int 0, .int 0, .int 0])), (h4, .inl (k2, 1, .inl f0))]) (w1 := [(q102, .inr (1, [.ref q103, .int 0, .int 0, .int 2])), (q103, .inl (cq104, 16, .inl f106)), (q107, .inr (0, [.ref q108, .int 0, .int 0, .int 0])), (q108, .inl (cq109, 2, .inl f110))]) hP hD [5, 6] [0, 1, 2, 3, 4] rfl rfl (by decide) (by decide) hk1 hFc hP1 hD1
    have hK := hK.app (hK1.sub (tys' := [(cq109, .byte)]) [1] rfl)
    generalize H1 = H at hP hS ⊢
    have hK : va_K (dC, dI) vwCl [(k0, .object "java/lang/String"), (k1, .int), (k2, .byte), (cq104, .byte), (cq109, .byte)] s := hK
    have hP : va_P (dC, dI) vwCl [(h0, .inr (9, [.int 0, .ref h1, .ref z0, .ref z1, .int 0, .int 0, .int 0])), (h1, .inl (k0, 4, .inr (.inr (.inr (.inr (va_up (va_up (va_up (va_up (fun _ => none) 0 (some ge5)) 1 (some ge5)) 2 (some ge5)) 3 (some ge5))))))), (h2, .inl (k1, 5, .inl (upd (upd (upd (upd (upd (fun _ => 0) 0 l1) 1 l2) 2 l3) 3 l4) 4 1))), (h3, .inr (0, [.ref h4, .int 0, .int 0, .int 0])), (h4, .inl (k2, 1, .inl f0)), (q102, .inr (1, [.ref q103, .int 0, .int 0, .int 2])), (q103, .inl (cq104, 16, .inl f106)), (q107, .inr (0, [.ref q108, .int 0, .int 0, .int 0])), (q108, .inl (cq109, 2, .inl f110))] H := hP
    have hD : va_D A [(h0, .inr (9, [.int 0, .ref h1, .ref z0, .ref z1, .int 0, .int 0, .int 0])), (h1, .inl (k0, 4, .inr (.inr (.inr (.inr (va_up (va_up (va_up (va_up (fun _ => none) 0 (some ge5)) 1 (some ge5)) 2 (some ge5)) 3 (some ge5))))))), (h2, .inl (k1, 5, .inl (upd (upd (upd (upd (upd (fun _ => 0) 0 l1) 1 l2) 2 l3) 3 l4) 4 1))), (h3, .inr (0, [.ref h4, .int 0, .int 0, .int 0])), (h4, .inl (k2, 1, .inl f0)), (q102, .inr (1, [.ref q103, .int 0, .int 0, .int 2])), (q103, .inl (cq104, 16, .inl f106)), (q107, .inr (0, [.ref q108, .int 0, .int 0, .int 0])), (q108, .inl (cq109, 2, .inl f110))] := hD
    refine W.widen (k := 9) (n := 56) (by omega) (by omega) ?_
    refine lv_astore (lv' := [(9, .ref q107), (8, .int 0), (13, .int 1), (0, .ref h0), (1, .int rp), (7, .ref h2), (10, .ref h2), (11, .int 5), (12, .int 4)]) hx hb dX5_type_116 hl (by decide) rfl (fun ls hl => ?_)
    refine lv_iinc (v := 5) (lv' := [(12, .int 5), (9, .ref q107), (8, .int 0), (13, .int 1), (0, .ref h0), (1, .int rp), (7, .ref h2), (10, .ref h2), (11, .int 5)]) hx hb dX5_type_118 hl (k := 8) rfl (by decide) (by decide) rfl (fun ls hl => ?_)
    refine lv_goto (tgt := 47) hx hb dX5_type_121 (by decide) ?_
    have hP := hP.sub (ws' := [(h0, .inr (9, [.int 0, .ref h1, .ref z0, .ref z1, .int 0, .int 0, .int 0])), (h1, .inl (k0, 4, .inr (.inr (.inr (.inr (va_up (va_up (va_up (va_up (fun _ => none) 0 (some ge5)) 1 (some ge5)) 2 (some ge5)) 3 (some ge5))))))), (h2, .inl (k1, 5, .inl (upd (upd (upd (upd (upd (fun _ => 0) 0 l1) 1 l2) 2 l3) 3 l4) 4 1))), (q107, .inr (0, [.ref q108, .int 0, .int 0, .int 0])), (q108, .inl (cq109, 2, .inl f110))]) [0, 1, 2, 7, 8] rfl
    have hD := hD.sub (ws' := [(h0, .inr (9, [.int 0, .ref h1, .ref z0, .ref z1, .int 0, .int 0, .int 0])), (h1, .inl (k0, 4, .inr (.inr (.inr (.inr (va_up (va_up (va_up (va_up (fun _ => none) 0 (some ge5)) 1 (some ge5)) 2 (some ge5)) 3 (some ge5))))))), (h2, .inl (k1, 5, .inl (upd (upd (upd (upd (upd (fun _ => 0) 0 l1) 1 l2) 2 l3) 3 l4) 4 1))), (q107, .inr (0, [.ref q108, .int 0, .int 0, .int 0])), (q108, .inl (cq109, 2, .inl f110))]) [0, 1, 2, 7, 8] (by decide) rfl
    have hK := hK.sub (tys' := [(k0, .object "java/lang/String"), (k1, .int), (cq109, .byte)]) [0, 1, 4] rfl
    have hl := lv_sub hl [4, 5, 6, 2, 1, 7, 8, 0] (show lv_pick [(12, .int 5), (9, .ref q107), (8, .int 0), (13, .int 1), (0, .ref h0), (1, .int rp), (7, .ref h2), (10, .ref h2), (11, .int 5)] [4, 5, 6, 2, 1, 7, 8, 0] = [(0, .ref h0), (1, .int rp), (7, .ref h2), (8, .int 0), (9, .ref q107), (10, .ref h2), (11, .int 5), (12, .int 5)] from rfl)
    exact kx_X5_type_h520 f110_t hR hx hb hr hml hown hts hlocks hA hG hS hK hP hD hl
  · have hR : kz_ty rp 2 0 [] = (R, v) := (kz_ty_g (by decide) (by decide)).symm.trans hR
    refine lv_iload hx hb dX5_type_47 (lv_at hl 7 rfl) ?_
    refine lv_iload hx hb dX5_type_49 (lv_at hl 6 rfl) ?_
    refine lv_icmp_ge (tgt := 124) hx hb dX5_type_51 (by decide) (fun c9 => absurd c9 (by decide)) (fun _ => ?_)
    refine lv_aload hx hb dX5_type_54 (lv_at hl 5 rfl) ?_
    refine lv_iload hx hb dX5_type_56 (lv_at hl 7 rfl) ?_
    refine va_iald (D := (dC, dI)) hx hb hK hP 2 1 rfl rfl (by unfold vp_in; decide) dX5_type_58 ?_
    refine W.eq (g2 := F0 m 59 ls [.int 2]) rfl ?_
    refine lv_istore (lv' := [(13, .int 2), (0, .ref h0), (1, .int rp), (7, .ref h2), (8, .int 0), (9, .ref h3), (10, .ref h2), (11, .int 5), (12, .int 4)]) hx hb dX5_type_59 hl (by decide) rfl (fun ls hl => ?_)
    refine lv_iload hx hb dX5_type_61 (lv_at hl 4 rfl) ?_
    refine lv_iload hx hb dX5_type_63 (lv_at hl 0 rfl) ?_
    refine lv_iconst (v := (-1)) hx hb dX5_type_65 (by decide) ?_
    refine lv_iconst (v := 3) hx hb dX5_type_66 (by decide) ?_
    have hPc := hP.sub (ws' := []) [] rfl
    have hDc := hD.sub (ws' := []) [] (by decide) rfl
    have hKc := hK.sub (tys' := []) [] rfl
    have hFc := va_free (wc := []) hD hS hA [] rfl
    refine va_calli (va_runS (As := [.int 2, .int (-1), .int 3]) (rest := [.int 0]) ⟨hx, hb, hml, hown, hts⟩ (kx_X5_isIn_11 l dC dI H.size) (cwS 3 hts gX5_type_X5_isIn rfl rfl rfl (by decide +kernel) ⟨Nat.le_of_ble_eq_true rfl, Nat.le_of_ble_eq_true rfl⟩) ⟨fun a U g mk q => by obtain ⟨q0, q1, qP, qK, qD⟩ := q; exact ⟨q0, q1, qP, va_K.moved (u := U) (U := U.calling g mk a) (Vm.Alike.refl U.vm) qK, qD⟩, fun U hU hW => ⟨rfl, by rw [hU], by rw [hU]; exact hPc, va_K.moved hW.alike hKc, hDc.weaken (fun _ _ _ _ => trivial)⟩⟩ rfl rfl hl.1 rfl (lv_room (Nat.le_of_ble_eq_true rfl)) dX5_type_67 ⟨Nat.le_of_ble_eq_true rfl, Nat.le_of_ble_eq_true rfl⟩) hS (fun q _ h => hFc q h) hFc (fun r9 u t H1 locs ht hvm hw hB hz1 hk1 hS => ?_)
    obtain rfl := hw
    obtain ⟨hP1, hK1, hD1⟩ := hB
    rw [ht] at hP1
    have hK1 := va_K.moved hvm.symm hK1
    obtain ⟨hP, hD⟩ := va_join (wr := [(h0, .inr (9, [.int 0, .ref h1, .ref z0, .ref z1, .int 0, .int 0, .int 0])), (h1, .inl (k0, 4, .inr (.inr (.inr (.inr (va_up (va_up (va_up (va_up (fun _ => none) 0 (some ge5)) 1 (some ge5)) 2 (some ge5)) 3 (some ge5))))))), (h2, .inl (k1, 5, .inl (upd (upd (upd (upd (upd (fun _ => 0) 0 l1) 1 l2) 2 l3) 3 l4) 4 2))), (h3, .inr (0, [.ref h4, .int 0, .int 0, .int 0])), (h4, .inl (k2, 1, .inl f0))]) (w1 := []) hP hD [] [0, 1, 2, 3, 4] rfl rfl (by decide) (by decide) hk1 hFc hP1 hD1
    generalize H1 = H at hP hS ⊢
    have hP : va_P (dC, dI) vwCl [(h0, .inr (9, [.int 0, .ref h1, .ref z0, .ref z1, .int 0, .int 0, .int 0])), (h1, .inl (k0, 4, .inr (.inr (.inr (.inr (va_up (va_up (va_up (va_up (fun _ => none) 0 (some ge5)) 1 (some ge5)) 2 (some ge5)) 3 (some ge5))))))), (h2, .inl (k1, 5, .inl (upd (upd (upd (upd (upd (fun _ => 0) 0 l1) 1 l2) 2 l3) 3 l4) 4 2))), (h3, .inr (0, [.ref h4, .int 0, .int 0, .int 0])), (h4, .inl (k2, 1, .inl f0))] H := hP
    have hD : va_D A [(h0, .inr (9, [.int 0, .ref h1, .ref z0, .ref z1, .int 0, .int 0, .int 0])), (h1, .inl (k0, 4, .inr (.inr (.inr (.inr (va_up (va_up (va_up (va_up (fun _ => none) 0 (some ge5)) 1 (some ge5)) 2 (some ge5)) 3 (some ge5))))))), (h2, .inl (k1, 5, .inl (upd (upd (upd (upd (upd (fun _ => 0) 0 l1) 1 l2) 2 l3) 3 l4) 4 2))), (h3, .inr (0, [.ref h4, .int 0, .int 0, .int 0])), (h4, .inl (k2, 1, .inl f0))] := hD
    refine lv_if_ne (tgt := 77) hx hb dX5_type_70 (by decide) (fun _ => ?_) (fun c9 => absurd c9 (by decide))
    refine lv_iconst (v := 0) hx hb dX5_type_77 (by decide) ?_
    refine lv_ior hx hb dX5_type_78 ?_
    refine lv_topi (fun y101 ey101 => ?_)
    obtain rfl : y101 = 0 := ey101.trans (by decide)
    refine lv_istore (lv' := [(8, .int 0), (13, .int 2), (0, .ref h0), (1, .int rp), (7, .ref h2), (9, .ref h3), (10, .ref h2), (11, .int 5), (12, .int 4)]) hx hb dX5_type_79 hl (by decide) rfl (fun ls hl => ?_)
    refine lv_iload hx hb dX5_type_81 (lv_at hl 1 rfl) ?_
    refine lv_iconst (v := 0) hx hb dX5_type_83 (by decide) ?_
    refine lv_iconst (v := 3) hx hb dX5_type_84 (by decide) ?_
    have hPc := hP.sub (ws' := []) [] rfl
    have hDc := hD.sub (ws' := []) [] (by decide) rfl
    have hKc := hK.sub (tys' := []) [] rfl
    have hFc := va_free (wc := []) hD hS hA [] rfl
    refine va_calli (va_runS (As := [.int 2, .int 0, .int 3]) (rest := []) ⟨hx, hb, hml, hown, hts⟩ (kx_X5_isIn_12 l dC dI H.size) (cwS 3 hts gX5_type_X5_isIn rfl rfl rfl (by decide +kernel) ⟨Nat.le_of_ble_eq_true rfl, Nat.le_of_ble_eq_true rfl⟩) ⟨fun a U g mk q => by obtain ⟨q0, q1, qP, qK, qD⟩ := q; exact ⟨q0, q1, qP, va_K.moved (u := U) (U := U.calling g mk a) (Vm.Alike.refl U.vm) qK, qD⟩, fun U hU hW => ⟨rfl, by rw [hU], by rw [hU]; exact hPc, va_K.moved hW.alike hKc, hDc.weaken (fun _ _ _ _ => trivial)⟩⟩ rfl rfl hl.1 rfl (lv_room (Nat.le_of_ble_eq_true rfl)) dX5_type_85 ⟨Nat.le_of_ble_eq_true rfl, Nat.le_of_ble_eq_true rfl⟩) hS (fun q _ h => hFc q h) hFc (fun r9 u t H1 locs ht hvm hw hB hz1 hk1 hS => ?_)
    obtain rfl := hw
    obtain ⟨hP1, hK1, hD1⟩ := hB
    rw [ht] at hP1
    have hK1 := va_K.moved hvm.symm hK1
    obtain ⟨hP, hD⟩ := va_join (wr := [(h0, .inr (9, [.int 0, .ref h1, .ref z0, .ref z1, .int 0, .int 0, .int 0])), (h1, .inl (k0, 4, .inr (.inr (.inr (.inr (va_up (va_up (va_up (va_up (fun _ => none) 0 (some ge5)) 1 (some ge5)) 2 (some ge5)) 3 (some ge5))))))), (h2, .inl (k1, 5, .inl (upd (upd (upd (upd (upd (fun _ => 0) 0 l1) 1 l2) 2 l3) 3 l4) 4 2))), (h3, .inr (0, [.ref h4, .int 0, .int 0, .int 0])), (h4, .inl (k2, 1, .inl f0))]) (w1 := []) hP hD [] [0, 1, 2, 3, 4] rfl rfl (by decide) (by decide) hk1 hFc hP1 hD1
    generalize H1 = H at hP hS ⊢
    have hP : va_P (dC, dI) vwCl [(h0, .inr (9, [.int 0, .ref h1, .ref z0, .ref z1, .int 0, .int 0, .int 0])), (h1, .inl (k0, 4, .inr (.inr (.inr (.inr (va_up (va_up (va_up (va_up (fun _ => none) 0 (some ge5)) 1 (some ge5)) 2 (some ge5)) 3 (some ge5))))))), (h2, .inl (k1, 5, .inl (upd (upd (upd (upd (upd (fun _ => 0) 0 l1) 1 l2) 2 l3) 3 l4) 4 2))), (h3, .inr (0, [.ref h4, .int 0, .int 0, .int 0])), (h4, .inl (k2, 1, .inl f0))] H := hP
    have hD : va_D A [(h0, .inr (9, [.int 0, .ref h1, .ref z0, .ref z1, .int 0, .int 0, .int 0])), (h1, .inl (k0, 4, .inr (.inr (.inr (.inr (va_up (va_up (va_up (va_up (fun _ => none) 0 (some ge5)) 1 (some ge5)) 2 (some ge5)) 3 (some ge5))))))), (h2, .inl (k1, 5, .inl (upd (upd (upd (upd (upd (fun _ => 0) 0 l1) 1 l2) 2 l3) 3 l4) 4 2))), (h3, .inr (0, [.ref h4, .int 0, .int 0, .int 0])), (h4, .inl (k2, 1, .inl f0))] := hD
    refine lv_if_eq (tgt := 118) hx hb dX5_type_88 (by decide) (fun c9 => absurd c9 (by decide)) (fun _ => ?_)
    refine va_new (ci := 1) (fs := [.null, .int 0, .int 0, .int 0]) (C := RJ4) (T := TJ4) (N := 4) hx hb hts (by decide +kernel) tyJ4 tyJ4_ok hown (hts (.classLink RX5 49 RJ4) (by decide +kernel)) (hts (.instantiable RJ4 4) (by decide +kernel)) (hts (.initialized RJ4) (by decide +kernel)) hK hP hD hS hA rfl (fun j hj => by rcases (show j = 0 ∨ j = 1 ∨ j = 2 ∨ j = 3 by omega) with rfl | rfl | rfl | rfl <;> rfl) (Nat.le_of_ble_eq_true rfl) (Nat.le_of_ble_eq_true rfl) dX5_type_91 (fun q102 H hP hD hS => ?_)
    have hP : va_P (dC, dI) vwCl [(h0, .inr (9, [.int 0, .ref h1, .ref z0, .ref z1, .int 0, .int 0, .int 0])), (h1, .inl (k0, 4, .inr (.inr (.inr (.inr (va_up (va_up (va_up (va_up (fun _ => none) 0 (some ge5)) 1 (some ge5)) 2 (some ge5)) 3 (some ge5))))))), (h2, .inl (k1, 5, .inl (upd (upd (upd (upd (upd (fun _ => 0) 0 l1) 1 l2) 2 l3) 3 l4) 4 2))), (h3, .inr (0, [.ref h4, .int 0, .int 0, .int 0])), (h4, .inl (k2, 1, .inl f0)), (q102, .inr (1, [.null, .int 0, .int 0, .int 0]))] H := hP
    have hD : va_D A [(h0, .inr (9, [.int 0, .ref h1, .ref z0, .ref z1, .int 0, .int 0, .int 0])), (h1, .inl (k0, 4, .inr (.inr (.inr (.inr (va_up (va_up (va_up (va_up (fun _ => none) 0 (some ge5)) 1 (some ge5)) 2 (some ge5)) 3 (some ge5))))))), (h2, .inl (k1, 5, .inl (upd (upd (upd (upd (upd (fun _ => 0) 0 l1) 1 l2) 2 l3) 3 l4) 4 2))), (h3, .inr (0, [.ref h4, .int 0, .int 0, .int 0])), (h4, .inl (k2, 1, .inl f0)), (q102, .inr (1, [.null, .int 0, .int 0, .int 0]))] := hD
    refine W.widen (k := 6) (n := 34) (by omega) (by omega) ?_
    refine lv_dup hx hb dX5_type_94 rfl ?_
    have hPc := hP.sub (ws' := [(q102, .inr (1, [.null, .int 0, .int 0, .int 0]))]) [5] rfl
    have hDc := hD.sub (ws' := [(q102, .inr (1, [.null, .int 0, .int 0, .int 0]))]) [5] (by decide) rfl
    have hKc := hK.sub (tys' := []) [] rfl
    have hFc := va_free (wc := [(q102, .inr (1, [.null, .int 0, .int 0, .int 0]))]) hD hS hA [5] rfl
    refine va_callv (va_runI (As := []) (rest := [.ref q102]) ⟨hx, hb, hml, hown, hts⟩ (kx_J4_init_da8c8_0 l dC dI ge5 gea gv5 gva gde gic gi0 q102 H.size) (cwI 0 hts gX5_type_J4_init_da8c8 rfl rfl rfl (hts (.initialized RJ4) (by decide +kernel)) (hts (.methodLink RX5 51 yJ4_init_da8c8) (by decide +kernel)) (hts (.instanceMethod yJ4_init_da8c8) (by decide +kernel)) rfl (by decide +kernel) ⟨Nat.le_of_ble_eq_true rfl, Nat.le_of_ble_eq_true rfl⟩) ⟨fun a U g mk q => by obtain ⟨q0, q1, qP, qK, qD, qG⟩ := q; exact ⟨q0, q1, qP, va_K.moved (u := U) (U := U.calling g mk a) (Vm.Alike.refl U.vm) qK, qD, gv.fb qG⟩, fun U hU hW => ⟨rfl, by rw [hU], by rw [hU]; exact hPc, va_K.moved hW.alike hKc, hDc.weaken (fun _ _ _ _ => trivial), gv.pass hW hU hS hFc hG⟩⟩ rfl rfl hl.1 rfl (lv_room (Nat.le_of_ble_eq_true rfl)) dX5_type_95 ⟨Nat.le_of_ble_eq_true rfl, Nat.le_of_ble_eq_true rfl⟩) hS (fun q _ h => hFc q h) hFc (fun u t H1 locs ht hvm hw hB hz1 hk1 hS => ?_)
    obtain ⟨q103, cq104, hP1, hK1, hD1⟩ := hB
    rw [ht] at hP1
    have hK1 := va_K.moved hvm.symm hK1
    obtain ⟨hP, hD⟩ := va_join (wr := [(h0, .inr (9, [.int 0, .ref h1, .ref z0, .ref z1, .int 0, .int 0, .int 0])), (h1, .inl (k0, 4, .inr (.inr (.inr (.inr (va_up (va_up (va_up (va_up (fun _ => none) 0 (some ge5)) 1 (some ge5)) 2 (some ge5)) 3 (some ge5))))))), (h2, .inl (k1, 5, .inl (upd (upd (upd (upd (upd (fun _ => 0) 0 l1) 1 l2) 2 l3) 3 l4) 4 2))), (h3, .inr (0, [.ref h4, .int 0, .int 0, .int 0])), (h4, .inl (k2, 1, .inl f0))]) (w1 := [(q102, .inr (1, [.ref q103, .int 0, .int 0, .int 0])), (q103, .inl (cq104, 16, .inl (fun _ => 0)))]) hP hD [5] [0, 1, 2, 3, 4] rfl rfl (by decide) (by decide) hk1 hFc hP1 hD1
    have hK := hK.app (hK1.sub (tys' := [(cq104, .byte)]) [0] rfl)
    generalize H1 = H at hP hS ⊢
    have hK : va_K (dC, dI) vwCl [(k0, .object "java/lang/String"), (k1, .int), (k2, .byte), (cq104, .byte)] s := hK
    have hP : va_P (dC, dI) vwCl [(h0, .inr (9, [.int 0, .ref h1, .ref z0, .ref z1, .int 0, .int 0, .int 0])), (h1, .inl (k0, 4, .inr (.inr (.inr (.inr (va_up (va_up (va_up (va_up (fun _ => none) 0 (some ge5)) 1 (some ge5)) 2 (some ge5)) 3 (some ge5))))))), (h2, .inl (k1, 5, .inl (upd (upd (upd (upd (upd (fun _ => 0) 0 l1) 1 l2) 2 l3) 3 l4) 4 2))), (h3, .inr (0, [.ref h4, .int 0, .int 0, .int 0])), (h4, .inl (k2, 1, .inl f0)), (q102, .inr (1, [.ref q103, .int 0, .int 0, .int 0])), (q103, .inl (cq104, 16, .inl (fun _ => 0)))] H := hP
    have hD : va_D A [(h0, .inr (9, [.int 0, .ref h1, .ref z0, .ref z1, .int 0, .int 0, .int 0])), (h1, .inl (k0, 4, .inr (.inr (.inr (.inr (va_up (va_up (va_up (va_up (fun _ => none) 0 (some ge5)) 1 (some ge5)) 2 (some ge5)) 3 (some ge5))))))), (h2, .inl (k1, 5, .inl (upd (upd (upd (upd (upd (fun _ => 0) 0 l1) 1 l2) 2 l3) 3 l4) 4 2))), (h3, .inr (0, [.ref h4, .int 0, .int 0, .int 0])), (h4, .inl (k2, 1, .inl f0)), (q102, .inr (1, [.ref q103, .int 0, .int 0, .int 0])), (q103, .inl (cq104, 16, .inl (fun _ => 0)))] := hD
    refine W.widen (k := 7) (n := 50) (by omega) (by omega) ?_
    refine lv_aload hx hb dX5_type_98 (lv_at hl 5 rfl) ?_
    have hPc := hP.sub (ws' := [(h3, .inr (0, [.ref h4, .int 0, .int 0, .int 0])), (h4, .inl (k2, 1, .inl f0)), (q102, .inr (1, [.ref q103, .int 0, .int 0, .int 0])), (q103, .inl (cq104, 16, .inl (fun _ => 0)))]) [3, 4, 5, 6] rfl
    have hDc := hD.sub (ws' := [(h3, .inr (0, [.ref h4, .int 0, .int 0, .int 0])), (h4, .inl (k2, 1, .inl f0)), (q102, .inr (1, [.ref q103, .int 0, .int 0, .int 0])), (q103, .inl (cq104, 16, .inl (fun _ => 0)))]) [3, 4, 5, 6] (by decide) rfl
    have hKc := hK.sub (tys' := [(k2, .byte), (cq104, .byte)]) [2, 3] rfl
    have hFc := va_free (wc := [(h3, .inr (0, [.ref h4, .int 0, .int 0, .int 0])), (h4, .inl (k2, 1, .inl f0)), (q102, .inr (1, [.ref q103, .int 0, .int 0, .int 0])), (q103, .inl (cq104, 16, .inl (fun _ => 0)))]) hD hS hA [3, 4, 5, 6] rfl
    refine va_callr (va_runV (As := [.ref h3]) (rest := []) ⟨hx, hb, hml, hown, hts⟩ (kx_J4_append_15ec4_1 l dC dI ge5 gea gv5 gva gde gic gi0 h3 h4 q102 q103 k2 cq104 H.size f0 f0_t) (cwV 1 hts gX5_type_J4_append_15ec4 rfl rfl rfl (by decide +kernel) ⟨Nat.le_of_ble_eq_true rfl, Nat.le_of_ble_eq_true rfl⟩) ⟨fun a U g mk q => by obtain ⟨q0, q1, qP, qK, qD, qG⟩ := q; exact ⟨q0, q1, qP, va_K.moved (u := U) (U := U.calling g mk a) (Vm.Alike.refl U.vm) qK, qD, gv.fb qG⟩, va_recv hKc hPc (ci := 1) (q0 := 2) rfl rfl, fun U hU hW => ⟨rfl, by rw [hU], by rw [hU]; exact hPc, va_K.moved hW.alike hKc, hDc.weaken (fun _ _ _ _ => trivial), gv.pass hW hU hS hFc hG⟩⟩ rfl rfl hl.1 rfl (lv_room (Nat.le_of_ble_eq_true rfl)) dX5_type_100 ⟨Nat.le_of_ble_eq_true rfl, Nat.le_of_ble_eq_true rfl⟩) hS (fun q _ h => hFc q h) hFc (fun u ra t H1 locs ht hvm hw hB hz1 hk1 hS => ?_)
    obtain ⟨f105, f105_t, hra, hP1, hK1, hD1⟩ := hB
    rw [hra]
    rw [ht] at hP1
    have hK1 := va_K.moved hvm.symm hK1
    obtain ⟨hP, hD⟩ := va_join (wr := [(h0, .inr (9, [.int 0, .ref h1, .ref z0, .ref z1, .int 0, .int 0, .int 0])), (h1, .inl (k0, 4, .inr (.inr (.inr (.inr (va_up (va_up (va_up (va_up (fun _ => none) 0 (some ge5)) 1 (some ge5)) 2 (some ge5)) 3 (some ge5))))))), (h2, .inl (k1, 5, .inl (upd (upd (upd (upd (upd (fun _ => 0) 0 l1) 1 l2) 2 l3) 3 l4) 4 2)))]) (w1 := [(h3, .inr (0, [.ref h4, .int 0, .int 0, .int 0])), (h4, .inl (k2, 1, .inl f0)), (q102, .inr (1, [.ref q103, .int 0, .int 0, .int 1])), (q103, .inl (cq104, 16, .inl f105))]) hP hD [3, 4, 5, 6] [0, 1, 2] rfl rfl (by decide) (by decide) hk1 hFc hP1 hD1
    generalize H1 = H at hP hS ⊢
    have hP : va_P (dC, dI) vwCl [(h0, .inr (9, [.int 0, .ref h1, .ref z0, .ref z1, .int 0, .int 0, .int 0])), (h1, .inl (k0, 4, .inr (.inr (.inr (.inr (va_up (va_up (va_up (va_up (fun _ => none) 0 (some ge5)) 1 (some ge5)) 2 (some ge5)) 3 (some ge5))))))), (h2, .inl (k1, 5, .inl (upd (upd (upd (upd (upd (fun _ => 0) 0 l1) 1 l2) 2 l3) 3 l4) 4 2))), (h3, .inr (0, [.ref h4, .int 0, .int 0, .int 0])), (h4, .inl (k2, 1, .inl f0)), (q102, .inr (1, [.ref q103, .int 0, .int 0, .int 1])), (q103, .inl (cq104, 16, .inl f105))] H := hP
    have hD : va_D A [(h0, .inr (9, [.int 0, .ref h1, .ref z0, .ref z1, .int 0, .int 0, .int 0])), (h1, .inl (k0, 4, .inr (.inr (.inr (.inr (va_up (va_up (va_up (va_up (fun _ => none) 0 (some ge5)) 1 (some ge5)) 2 (some ge5)) 3 (some ge5))))))), (h2, .inl (k1, 5, .inl (upd (upd (upd (upd (upd (fun _ => 0) 0 l1) 1 l2) 2 l3) 3 l4) 4 2))), (h3, .inr (0, [.ref h4, .int 0, .int 0, .int 0])), (h4, .inl (k2, 1, .inl f0)), (q102, .inr (1, [.ref q103, .int 0, .int 0, .int 1])), (q103, .inl (cq104, 16, .inl f105))] := hD
    refine va_ldcS hx hb hown g_sa dX5_type_103 ?_
    refine lv_iload hx hb dX5_type_105 (lv_at hl 1 rfl) ?_
    have hPc := hP.sub (ws' := []) [] rfl
    have hDc := hD.sub (ws' := []) [] (by decide) rfl
    have hKc := hK.sub (tys' := []) [] rfl
    have hFc := va_free (wc := []) hD hS hA [] rfl
    refine va_calli (va_runV (As := [.int 2]) (rest := [.ref q102]) ⟨hx, hb, hml, hown, hts⟩ (kx_J0_charAt_5068e_2 l dC dI ge5 gea gv5 gva gde gic gi0 H.size) (cwV 1 hts gX5_type_J0_charAt_5068e rfl rfl rfl (by decide +kernel) ⟨Nat.le_of_ble_eq_true rfl, Nat.le_of_ble_eq_true rfl⟩) ⟨fun a U g mk q => by obtain ⟨q0, q1, qP, qK, qD, qG⟩ := q; exact ⟨q0, q1, qP, va_K.moved (u := U) (U := U.calling g mk a) (Vm.Alike.refl U.vm) qK, qD, gv.fb qG⟩, (by obtain ⟨cell, k1, k2, k3, -⟩ := g_oa.kept hS.2.1; exact ⟨cell, k1, k2, k3⟩), fun U hU hW => ⟨rfl, by rw [hU], by rw [hU]; exact hPc, va_K.moved hW.alike hKc, hDc.weaken (fun _ _ _ _ => trivial), gv.pass hW hU hS hFc hG⟩⟩ rfl rfl hl.1 rfl (lv_room (Nat.le_of_ble_eq_true rfl)) dX5_type_107 ⟨Nat.le_of_ble_eq_true rfl, Nat.le_of_ble_eq_true rfl⟩) hS (fun q _ h => hFc q h) hFc (fun r9 u t H1 locs ht hvm hw hB hz1 hk1 hS => ?_)
    obtain rfl := hw
    obtain ⟨hP1, hK1, hD1⟩ := hB
    rw [ht] at hP1
    have hK1 := va_K.moved hvm.symm hK1
    obtain ⟨hP, hD⟩ := va_join (wr := [(h0, .inr (9, [.int 0, .ref h1, .ref z0, .ref z1, .int 0, .int 0, .int 0])), (h1, .inl (k0, 4, .inr (.inr (.inr (.inr (va_up (va_up (va_up (va_up (fun _ => none) 0 (some ge5)) 1 (some ge5)) 2 (some ge5)) 3 (some ge5))))))), (h2, .inl (k1, 5, .inl (upd (upd (upd (upd (upd (fun _ => 0) 0 l1) 1 l2) 2 l3) 3 l4) 4 2))), (h3, .inr (0, [.ref h4, .int 0, .int 0, .int 0])), (h4, .inl (k2, 1, .inl f0)), (q102, .inr (1, [.ref q103, .int 0, .int 0, .int 1])), (q103, .inl (cq104, 16, .inl f105))]) (w1 := []) hP hD [] [0, 1, 2, 3, 4, 5, 6] rfl rfl (by decide) (by decide) hk1 hFc hP1 hD1
    generalize H1 = H at hP hS ⊢
    have hP : va_P (dC, dI) vwCl [(h0, .inr (9, [.int 0, .ref h1, .ref z0, .ref z1, .int 0, .int 0, .int 0])), (h1, .inl (k0, 4, .inr (.inr (.inr (.inr (va_up (va_up (va_up (va_up (fun _ => none) 0 (some ge5)) 1 (some ge5)) 2 (some ge5)) 3 (some ge5))))))), (h2, .inl (k1, 5, .inl (upd (upd (upd (upd (upd (fun _ => 0) 0 l1) 1 l2) 2 l3) 3 l4) 4 2))), (h3, .inr (0, [.ref h4, .int 0, .int 0, .int 0])), (h4, .inl (k2, 1, .inl f0)), (q102, .inr (1, [.ref q103, .int 0, .int 0, .int 1])), (q103, .inl (cq104, 16, .inl f105))] H := hP
    have hD : va_D A [(h0, .inr (9, [.int 0, .ref h1, .ref z0, .ref z1, .int 0, .int 0, .int 0])), (h1, .inl (k0, 4, .inr (.inr (.inr (.inr (va_up (va_up (va_up (va_up (fun _ => none) 0 (some ge5)) 1 (some ge5)) 2 (some ge5)) 3 (some ge5))))))), (h2, .inl (k1, 5, .inl (upd (upd (upd (upd (upd (fun _ => 0) 0 l1) 1 l2) 2 l3) 3 l4) 4 2))), (h3, .inr (0, [.ref h4, .int 0, .int 0, .int 0])), (h4, .inl (k2, 1, .inl f0)), (q102, .inr (1, [.ref q103, .int 0, .int 0, .int 1])), (q103, .inl (cq104, 16, .inl f105))] := hD
    have hPc := hP.sub (ws' := [(q102, .inr (1, [.ref q103, .int 0, .int 0, .int 1])), (q103, .inl (cq104, 16, .inl f105))]) [5, 6] rfl
    have hDc := hD.sub (ws' := [(q102, .inr (1, [.ref q103, .int 0, .int 0, .int 1])), (q103, .inl (cq104, 16, .inl f105))]) [5, 6] (by decide) rfl
    have hKc := hK.sub (tys' := [(cq104, .byte)]) [3] rfl
    have hFc := va_free (wc := [(q102, .inr (1, [.ref q103, .int 0, .int 0, .int 1])), (q103, .inl (cq104, 16, .inl f105))]) hD hS hA [5, 6] rfl
    refine va_callr (va_runV (As := [.int 99]) (rest := []) ⟨hx, hb, hml, hown, hts⟩ (kx_J4_append_cf468_6 l dC dI ge5 gea gv5 gva gde gic gi0 q102 q103 cq104 H.size f105 f105_t) (cwV 1 hts gX5_type_J4_append_cf468 rfl rfl rfl (by decide +kernel) ⟨Nat.le_of_ble_eq_true rfl, Nat.le_of_ble_eq_true rfl⟩) ⟨fun a U g mk q => by obtain ⟨q0, q1, qP, qK, qD, qG⟩ := q; exact ⟨q0, q1, qP, va_K.moved (u := U) (U := U.calling g mk a) (Vm.Alike.refl U.vm) qK, qD, gv.fb qG⟩, va_recv hKc hPc (ci := 1) (q0 := 0) rfl rfl, fun U hU hW => ⟨rfl, by rw [hU], by rw [hU]; exact hPc, va_K.moved hW.alike hKc, hDc.weaken (fun _ _ _ _ => trivial), gv.pass hW hU hS hFc hG⟩⟩ rfl rfl hl.1 rfl (lv_room (Nat.le_of_ble_eq_true rfl)) dX5_type_110 ⟨Nat.le_of_ble_eq_true rfl, Nat.le_of_ble_eq_true rfl⟩) hS (fun q _ h => hFc q h) hFc (fun u ra t H1 locs ht hvm hw hB hz1 hk1 hS => ?_)
    obtain ⟨f106, f106_t, hra, hP1, hK1, hD1⟩ := hB
    rw [hra]
    rw [ht] at hP1
    have hK1 := va_K.moved hvm.symm hK1
    obtain ⟨hP, hD⟩ := va_join (wr := [(h0, .inr (9, [.int 0, .ref h1, .ref z0, .ref z1, .int 0, .int 0, .int 0])), (h1, .inl (k0, 4, .inr (.inr (.inr (.inr (va_up (va_up (va_up (va_up (fun _ => none) 0 (some ge5)) 1 (some ge5)) 2 (some ge5)) 3 (some ge5))))))), (h2, .inl (k1, 5, .inl (upd (upd (upd (upd (upd (fun _ => 0) 0 l1) 1 l2) 2 l3) 3 l4) 4 2))), (h3, .inr (0, [.ref h4, .int 0, .int 0, .int 0])), (h4, .inl (k2, 1, .inl f0))]) (w1 := [(q102, .inr (1, [.ref q103, .int 0, .int 0, .int 2])), (q103, .inl (cq104, 16, .inl f106))]) hP hD [5, 6] [0, 1, 2, 3, 4] rfl rfl (by decide) (by decide) hk1 hFc hP1 hD1
    generalize H1 = H at hP hS ⊢
    have hP : va_P (dC, dI) vwCl [(h0, .inr (9, [.int 0, .ref h1, .ref z0, .ref z1, .int 0, .int 0, .int 0])), (h1, .inl (k0, 4, .inr (.inr (.inr (.inr (va_up (va_up (va_up (va_up (fun _ => none) 0 (some ge5)) 1 (some ge5)) 2 (some ge5)) 3 (some ge5))))))), (h2, .inl (k1, 5, .inl (upd (upd (upd (upd (upd (fun _ => 0) 0 l1) 1 l2) 2 l3) 3 l4) 4 2))), (h3, .inr (0, [.ref h4, .int 0, .int 0, .int 0])), (h4, .inl (k2, 1, .inl f0)), (q102, .inr (1, [.ref q103, .int 0, .int 0, .int 2])), (q103, .inl (cq104, 16, .inl f106))] H := hP
    have hD : va_D A [(h0, .inr (9, [.int 0, .ref h1, .ref z0, .ref z1, .int 0, .int 0, .int 0])), (h1, .inl (k0, 4, .inr (.inr (.inr (.inr (va_up (va_up (va_up (va_up (fun _ => none) 0 (some ge5)) 1 (some ge5)) 2 (some ge5)) 3 (some ge5))))))), (h2, .inl (k1, 5, .inl (upd (upd (upd (upd (upd (fun _ => 0) 0 l1) 1 l2) 2 l3) 3 l4) 4 2))), (h3, .inr (0, [.ref h4, .int 0, .int 0, .int 0])), (h4, .inl (k2, 1, .inl f0)), (q102, .inr (1, [.ref q103, .int 0, .int 0, .int 2])), (q103, .inl (cq104, 16, .inl f106))] := hD
    have hPc := hP.sub (ws' := [(q102, .inr (1, [.ref q103, .int 0, .int 0, .int 2])), (q103, .inl (cq104, 16, .inl f106))]) [5, 6] rfl
    have hDc := hD.sub (ws' := [(q102, .inr (1, [.ref q103, .int 0, .int 0, .int 2])), (q103, .inl (cq104, 16, .inl f106))]) [5, 6] (by decide) rfl
    have hKc := hK.sub (tys' := [(cq104, .byte)]) [3] rfl
    have hFc := va_free (wc := [(q102, .inr (1, [.ref q103, .int 0, .int 0, .int 2])), (q103, .inl (cq104, 16, .inl f106))]) hD hS hA [5, 6] rfl
    refine va_callr (va_runV (As := []) (rest := []) ⟨hx, hb, hml, hown, hts⟩ (kx_J4_toString_0e30d_2 l dC dI ge5 gea gv5 gva gde gic gi0 q102 q103 cq104 H.size f106 f106_t) (cwV 0 hts gX5_type_J4_toString_0e30d rfl rfl rfl (by decide +kernel) ⟨Nat.le_of_ble_eq_true rfl, Nat.le_of_ble_eq_true rfl⟩) ⟨fun a U g mk q => by obtain ⟨q0, q1, qP, qK, qD, qG⟩ := q; exact ⟨q0, q1, qP, va_K.moved (u := U) (U := U.calling g mk a) (Vm.Alike.refl U.vm) qK, qD, gv.fb qG⟩, va_recv hKc hPc (ci := 1) (q0 := 0) rfl rfl, fun U hU hW => ⟨rfl, by rw [hU], by rw [hU]; exact hPc, va_K.moved hW.alike hKc, hDc.weaken (fun _ _ _ _ => trivial), gv.pass hW hU hS hFc hG⟩⟩ rfl rfl hl.1 rfl (lv_room (Nat.le_of_ble_eq_true rfl)) dX5_type_113 ⟨Nat.le_of_ble_eq_true rfl, Nat.le_of_ble_eq_true rfl⟩) hS (fun q _ h => hFc q h) hFc (fun u ra t H1 locs ht hvm hw hB hz1 hk1 hS => ?_)
    obtain ⟨q107, q108, cq109, f110, f110_t, hra, hP1, hK1, hD1⟩ := hB
    rw [hra]
    rw [ht] at hP1
    have hK1 := va_K.moved hvm.symm hK1
    obtain ⟨hP, hD⟩ := va_join (wr := [(h0, .inr (9, [.int 0, .ref h1, .ref z0, .ref z1, .int 0, .int 0, .int 0])), (h1, .inl (k0, 4, .inr (.inr (.inr (.inr (va_up (va_up (va_up (va_up (fun _ => none) 0 (some ge5)) 1 (some ge5)) 2 (some ge5)) 3 (some ge5))))))), (h2, .inl (k1, 5, .inl (upd (upd (upd (upd (upd (fun _ => 0) 0 l1) 1 l2) 2 l3) 3 l4) 4 2))), (h3, .inr (0, [.ref h4, .int 0, .int 0, .int 0])), (h4, .inl (k2, 1, .inl f0))]) (w1 := [(q102, .inr (1, [.ref q103, .int 0, .int 0, .int 2])), (q103, .inl (cq104, 16, .inl f106)), (q107, .inr (0, [.ref q108, .int 0, .int 0, .int 0])), (q108, .inl (cq109, 2, .inl f110))]) hP hD [5, 6] [0, 1, 2, 3, 4] rfl rfl (by decide) (by decide) hk1 hFc hP1 hD1
    have hK := hK.app (hK1.sub (tys' := [(cq109, .byte)]) [1] rfl)
    generalize H1 = H at hP hS ⊢
    have hK : va_K (dC, dI) vwCl [(k0, .object "java/lang/String"), (k1, .int), (k2, .byte), (cq104, .byte), (cq109, .byte)] s := hK
    have hP : va_P (dC, dI) vwCl [(h0, .inr (9, [.int 0, .ref h1, .ref z0, .ref z1, .int 0, .int 0, .int 0])), (h1, .inl (k0, 4, .inr (.inr (.inr (.inr (va_up (va_up (va_up (va_up (fun _ => none) 0 (some ge5)) 1 (some ge5)) 2 (some ge5)) 3 (some ge5))))))), (h2, .inl (k1, 5, .inl (upd (upd (upd (upd (upd (fun _ => 0) 0 l1) 1 l2) 2 l3) 3 l4) 4 2))), (h3, .inr (0, [.ref h4, .int 0, .int 0, .int 0])), (h4, .inl (k2, 1, .inl f0)), (q102, .inr (1, [.ref q103, .int 0, .int 0, .int 2])), (q103, .inl (cq104, 16, .inl f106)), (q107, .inr (0, [.ref q108, .int 0, .int 0, .int 0])), (q108, .inl (cq109, 2, .inl f110))] H := hP
    have hD : va_D A [(h0, .inr (9, [.int 0, .ref h1, .ref z0, .ref z1, .int 0, .int 0, .int 0])), (h1, .inl (k0, 4, .inr (.inr (.inr (.inr (va_up (va_up (va_up (va_up (fun _ => none) 0 (some ge5)) 1 (some ge5)) 2 (some ge5)) 3 (some ge5))))))), (h2, .inl (k1, 5, .inl (upd (upd (upd (upd (upd (fun _ => 0) 0 l1) 1 l2) 2 l3) 3 l4) 4 2))), (h3, .inr (0, [.ref h4, .int 0, .int 0, .int 0])), (h4, .inl (k2, 1, .inl f0)), (q102, .inr (1, [.ref q103, .int 0, .int 0, .int 2])), (q103, .inl (cq104, 16, .inl f106)), (q107, .inr (0, [.ref q108, .int 0, .int 0, .int 0])), (q108, .inl (cq109, 2, .inl f110))] := hD
    refine W.widen (k := 9) (n := 56) (by omega) (by omega) ?_
    refine lv_astore (lv' := [(9, .ref q107), (8, .int 0), (13, .int 2), (0, .ref h0), (1, .int rp), (7, .ref h2), (10, .ref h2), (11, .int 5), (12, .int 4)]) hx hb dX5_type_116 hl (by decide) rfl (fun ls hl => ?_)
    refine lv_iinc (v := 5) (lv' := [(12, .int 5), (9, .ref q107), (8, .int 0), (13, .int 2), (0, .ref h0), (1, .int rp), (7, .ref h2), (10, .ref h2), (11, .int 5)]) hx hb dX5_type_118 hl (k := 8) rfl (by decide) (by decide) rfl (fun ls hl => ?_)
    refine lv_goto (tgt := 47) hx hb dX5_type_121 (by decide) ?_
    have hP := hP.sub (ws' := [(h0, .inr (9, [.int 0, .ref h1, .ref z0, .ref z1, .int 0, .int 0, .int 0])), (h1, .inl (k0, 4, .inr (.inr (.inr (.inr (va_up (va_up (va_up (va_up (fun _ => none) 0 (some ge5)) 1 (some ge5)) 2 (some ge5)) 3 (some ge5))))))), (h2, .inl (k1, 5, .inl (upd (upd (upd (upd (upd (fun _ => 0) 0 l1) 1 l2) 2 l3) 3 l4) 4 2))), (q107, .inr (0, [.ref q108, .int 0, .int 0, .int 0])), (q108, .inl (cq109, 2, .inl f110))]) [0, 1, 2, 7, 8] rfl
    have hD := hD.sub (ws' := [(h0, .inr (9, [.int 0, .ref h1, .ref z0, .ref z1, .int 0, .int 0, .int 0])), (h1, .inl (k0, 4, .inr (.inr (.inr (.inr (va_up (va_up (va_up (va_up (fun _ => none) 0 (some ge5)) 1 (some ge5)) 2 (some ge5)) 3 (some ge5))))))), (h2, .inl (k1, 5, .inl (upd (upd (upd (upd (upd (fun _ => 0) 0 l1) 1 l2) 2 l3) 3 l4) 4 2))), (q107, .inr (0, [.ref q108, .int 0, .int 0, .int 0])), (q108, .inl (cq109, 2, .inl f110))]) [0, 1, 2, 7, 8] (by decide) rfl
    have hK := hK.sub (tys' := [(k0, .object "java/lang/String"), (k1, .int), (cq109, .byte)]) [0, 1, 4] rfl
    have hl := lv_sub hl [4, 5, 6, 2, 1, 7, 8, 0] (show lv_pick [(12, .int 5), (9, .ref q107), (8, .int 0), (13, .int 2), (0, .ref h0), (1, .int rp), (7, .ref h2), (10, .ref h2), (11, .int 5)] [4, 5, 6, 2, 1, 7, 8, 0] = [(0, .ref h0), (1, .int rp), (7, .ref h2), (8, .int 0), (9, .ref q107), (10, .ref h2), (11, .int 5), (12, .int 5)] from rfl)
    exact kx_X5_type_h520 f110_t hR hx hb hr hml hown hts hlocks hA hG hS hK hP hD hl
  · have hR : kz_ty rp 2 0 [] = (R, v) := (kz_ty_g (by decide) (by decide)).symm.trans hR
    refine lv_iload hx hb dX5_type_47 (lv_at hl 7 rfl) ?_
    refine lv_iload hx hb dX5_type_49 (lv_at hl 6 rfl) ?_
    refine lv_icmp_ge (tgt := 124) hx hb dX5_type_51 (by decide) (fun c9 => absurd c9 (by decide)) (fun _ => ?_)
    refine lv_aload hx hb dX5_type_54 (lv_at hl 5 rfl) ?_
    refine lv_iload hx hb dX5_type_56 (lv_at hl 7 rfl) ?_
    refine va_iald (D := (dC, dI)) hx hb hK hP 2 1 rfl rfl (by unfold vp_in; decide) dX5_type_58 ?_
    refine W.eq (g2 := F0 m 59 ls [.int 3]) rfl ?_
    refine lv_istore (lv' := [(13, .int 3), (0, .ref h0), (1, .int rp), (7, .ref h2), (8, .int 0), (9, .ref h3), (10, .ref h2), (11, .int 5), (12, .int 4)]) hx hb dX5_type_59 hl (by decide) rfl (fun ls hl => ?_)
    refine lv_iload hx hb dX5_type_61 (lv_at hl 4 rfl) ?_
    refine lv_iload hx hb dX5_type_63 (lv_at hl 0 rfl) ?_
    refine lv_iconst (v := (-1)) hx hb dX5_type_65 (by decide) ?_
    refine lv_iconst (v := 3) hx hb dX5_type_66 (by decide) ?_
    have hPc := hP.sub (ws' := []) [] rfl
    have hDc := hD.sub (ws' := []) [] (by decide) rfl
    have hKc := hK.sub (tys' := []) [] rfl
    have hFc := va_free (wc := []) hD hS hA [] rfl
    refine va_calli (va_runS (As := [.int 3, .int (-1), .int 3]) (rest := [.int 0]) ⟨hx, hb, hml, hown, hts⟩ (kx_X5_isIn_13 l dC dI H.size) (cwS 3 hts gX5_type_X5_isIn rfl rfl rfl (by decide +kernel) ⟨Nat.le_of_ble_eq_true rfl, Nat.le_of_ble_eq_true rfl⟩) ⟨fun a U g mk q => by obtain ⟨q0, q1, qP, qK, qD⟩ := q; exact ⟨q0, q1, qP, va_K.moved (u := U) (U := U.calling g mk a) (Vm.Alike.refl U.vm) qK, qD⟩, fun U hU hW => ⟨rfl, by rw [hU], by rw [hU]; exact hPc, va_K.moved hW.alike hKc, hDc.weaken (fun _ _ _ _ => trivial)⟩⟩ rfl rfl hl.1 rfl (lv_room (Nat.le_of_ble_eq_true rfl)) dX5_type_67 ⟨Nat.le_of_ble_eq_true rfl, Nat.le_of_ble_eq_true rfl⟩) hS (fun q _ h => hFc q h) hFc (fun r9 u t H1 locs ht hvm hw hB hz1 hk1 hS => ?_)
    obtain rfl := hw
    obtain ⟨hP1, hK1, hD1⟩ := hB
    rw [ht] at hP1
    have hK1 := va_K.moved hvm.symm hK1
    obtain ⟨hP, hD⟩ := va_join (wr := [(h0, .inr (9, [.int 0, .ref h1, .ref z0, .ref z1, .int 0, .int 0, .int 0])), (h1, .inl (k0, 4, .inr (.inr (.inr (.inr (va_up (va_up (va_up (va_up (fun _ => none) 0 (some ge5)) 1 (some ge5)) 2 (some ge5)) 3 (some ge5))))))), (h2, .inl (k1, 5, .inl (upd (upd (upd (upd (upd (fun _ => 0) 0 l1) 1 l2) 2 l3) 3 l4) 4 3))), (h3, .inr (0, [.ref h4, .int 0, .int 0, .int 0])), (h4, .inl (k2, 1, .inl f0))]) (w1 := []) hP hD [] [0, 1, 2, 3, 4] rfl rfl (by decide) (by decide) hk1 hFc hP1 hD1
    generalize H1 = H at hP hS ⊢
    have hP : va_P (dC, dI) vwCl [(h0, .inr (9, [.int 0, .ref h1, .ref z0, .ref z1, .int 0, .int 0, .int 0])), (h1, .inl (k0, 4, .inr (.inr (.inr (.inr (va_up (va_up (va_up (va_up (fun _ => none) 0 (some ge5)) 1 (some ge5)) 2 (some ge5)) 3 (some ge5))))))), (h2, .inl (k1, 5, .inl (upd (upd (upd (upd (upd (fun _ => 0) 0 l1) 1 l2) 2 l3) 3 l4) 4 3))), (h3, .inr (0, [.ref h4, .int 0, .int 0, .int 0])), (h4, .inl (k2, 1, .inl f0))] H := hP
    have hD : va_D A [(h0, .inr (9, [.int 0, .ref h1, .ref z0, .ref z1, .int 0, .int 0, .int 0])), (h1, .inl (k0, 4, .inr (.inr (.inr (.inr (va_up (va_up (va_up (va_up (fun _ => none) 0 (some ge5)) 1 (some ge5)) 2 (some ge5)) 3 (some ge5))))))), (h2, .inl (k1, 5, .inl (upd (upd (upd (upd (upd (fun _ => 0) 0 l1) 1 l2) 2 l3) 3 l4) 4 3))), (h3, .inr (0, [.ref h4, .int 0, .int 0, .int 0])), (h4, .inl (k2, 1, .inl f0))] := hD
    refine lv_if_ne (tgt := 77) hx hb dX5_type_70 (by decide) (fun _ => ?_) (fun c9 => absurd c9 (by decide))
    refine lv_iconst (v := 0) hx hb dX5_type_77 (by decide) ?_
    refine lv_ior hx hb dX5_type_78 ?_
    refine lv_topi (fun y101 ey101 => ?_)
    obtain rfl : y101 = 0 := ey101.trans (by decide)
    refine lv_istore (lv' := [(8, .int 0), (13, .int 3), (0, .ref h0), (1, .int rp), (7, .ref h2), (9, .ref h3), (10, .ref h2), (11, .int 5), (12, .int 4)]) hx hb dX5_type_79 hl (by decide) rfl (fun ls hl => ?_)
    refine lv_iload hx hb dX5_type_81 (lv_at hl 1 rfl) ?_
    refine lv_iconst (v := 0) hx hb dX5_type_83 (by decide) ?_
    refine lv_iconst (v := 3) hx hb dX5_type_84 (by decide) ?_
    have hPc := hP.sub (ws' := []) [] rfl
    have hDc := hD.sub (ws' := []) [] (by decide) rfl
    have hKc := hK.sub (tys' := []) [] rfl
    have hFc := va_free (wc := []) hD hS hA [] rfl
    refine va_calli (va_runS (As := [.int 3, .int 0, .int 3]) (rest := []) ⟨hx, hb, hml, hown, hts⟩ (kx_X5_isIn_14 l dC dI H.size) (cwS 3 hts gX5_type_X5_isIn rfl rfl rfl (by decide +kernel) ⟨Nat.le_of_ble_eq_true rfl, Nat.le_of_ble_eq_true rfl⟩) ⟨fun a U g mk q => by obtain ⟨q0, q1, qP, qK, qD⟩ := q; exact ⟨q0, q1, qP, va_K.moved (u := U) (U := U.calling g mk a) (Vm.Alike.refl U.vm) qK, qD⟩, fun U hU hW => ⟨rfl, by rw [hU], by rw [hU]; exact hPc, va_K.moved hW.alike hKc, hDc.weaken (fun _ _ _ _ => trivial)⟩⟩ rfl rfl hl.1 rfl (lv_room (Nat.le_of_ble_eq_true rfl)) dX5_type_85 ⟨Nat.le_of_ble_eq_true rfl, Nat.le_of_ble_eq_true rfl⟩) hS (fun q _ h => hFc q h) hFc (fun r9 u t H1 locs ht hvm hw hB hz1 hk1 hS => ?_)
    obtain rfl := hw
    obtain ⟨hP1, hK1, hD1⟩ := hB
    rw [ht] at hP1
    have hK1 := va_K.moved hvm.symm hK1
    obtain ⟨hP, hD⟩ := va_join (wr := [(h0, .inr (9, [.int 0, .ref h1, .ref z0, .ref z1, .int 0, .int 0, .int 0])), (h1, .inl (k0, 4, .inr (.inr (.inr (.inr (va_up (va_up (va_up (va_up (fun _ => none) 0 (some ge5)) 1 (some ge5)) 2 (some ge5)) 3 (some ge5))))))), (h2, .inl (k1, 5, .inl (upd (upd (upd (upd (upd (fun _ => 0) 0 l1) 1 l2) 2 l3) 3 l4) 4 3))), (h3, .inr (0, [.ref h4, .int 0, .int 0, .int 0])), (h4, .inl (k2, 1, .inl f0))]) (w1 := []) hP hD [] [0, 1, 2, 3, 4] rfl rfl (by decide) (by decide) hk1 hFc hP1 hD1
    generalize H1 = H at hP hS ⊢
    have hP : va_P (dC, dI) vwCl [(h0, .inr (9, [.int 0, .ref h1, .ref z0, .ref z1, .int 0, .int 0, .int 0])), (h1, .inl (k0, 4, .inr (.inr (.inr (.inr (va_up (va_up (va_up (va_up (fun _ => none) 0 (some ge5)) 1 (some ge5)) 2 (some ge5)) 3 (some ge5))))))), (h2, .inl (k1, 5, .inl (upd (upd (upd (upd (upd (fun _ => 0) 0 l1) 1 l2) 2 l3) 3 l4) 4 3))), (h3, .inr (0, [.ref h4, .int 0, .int 0, .int 0])), (h4, .inl (k2, 1, .inl f0))] H := hP
    have hD : va_D A [(h0, .inr (9, [.int 0, .ref h1, .ref z0, .ref z1, .int 0, .int 0, .int 0])), (h1, .inl (k0, 4, .inr (.inr (.inr (.inr (va_up (va_up (va_up (va_up (fun _ => none) 0 (some ge5)) 1 (some ge5)) 2 (some ge5)) 3 (some ge5))))))), (h2, .inl (k1, 5, .inl (upd (upd (upd (upd (upd (fun _ => 0) 0 l1) 1 l2) 2 l3) 3 l4) 4 3))), (h3, .inr (0, [.ref h4, .int 0, .int 0, .int 0])), (h4, .inl (k2, 1, .inl f0))] := hD
    refine lv_if_eq (tgt := 118) hx hb dX5_type_88 (by decide) (fun c9 => absurd c9 (by decide)) (fun _ => ?_)
    refine va_new (ci := 1) (fs := [.null, .int 0, .int 0, .int 0]) (C := RJ4) (T := TJ4) (N := 4) hx hb hts (by decide +kernel) tyJ4 tyJ4_ok hown (hts (.classLink RX5 49 RJ4) (by decide +kernel)) (hts (.instantiable RJ4 4) (by decide +kernel)) (hts (.initialized RJ4) (by decide +kernel)) hK hP hD hS hA rfl (fun j hj => by rcases (show j = 0 ∨ j = 1 ∨ j = 2 ∨ j = 3 by omega) with rfl | rfl | rfl | rfl <;> rfl) (Nat.le_of_ble_eq_true rfl) (Nat.le_of_ble_eq_true rfl) dX5_type_91 (fun q102 H hP hD hS => ?_)
    have hP : va_P (dC, dI) vwCl [(h0, .inr (9, [.int 0, .ref h1, .ref z0, .ref z1, .int 0, .int 0, .int 0])), (h1, .inl (k0, 4, .inr (.inr (.inr (.inr (va_up (va_up (va_up (va_up (fun _ => none) 0 (some ge5)) 1 (some ge5)) 2 (some ge5)) 3 (some ge5))))))), (h2, .inl (k1, 5, .inl (upd (upd (upd (upd (upd (fun _ => 0) 0 l1) 1 l2) 2 l3) 3 l4) 4 3))), (h3, .inr (0, [.ref h4, .int 0, .int 0, .int 0])), (h4, .inl (k2, 1, .inl f0)), (q102, .inr (1, [.null, .int 0, .int 0, .int 0]))] H := hP
    have hD : va_D A [(h0, .inr (9, [.int 0, .ref h1, .ref z0, .ref z1, .int 0, .int 0, .int 0])), (h1, .inl (k0, 4, .inr (.inr (.inr (.inr (va_up (va_up (va_up (va_up (fun _ => none) 0 (some ge5)) 1 (some ge5)) 2 (some ge5)) 3 (some ge5))))))), (h2, .inl (k1, 5, .inl (upd (upd (upd (upd (upd (fun _ => 0) 0 l1) 1 l2) 2 l3) 3 l4) 4 3))), (h3, .inr (0, [.ref h4, .int 0, .int 0, .int 0])), (h4, .inl (k2, 1, .inl f0)), (q102, .inr (1, [.null, .int 0, .int 0, .int 0]))] := hD
    refine W.widen (k := 6) (n := 34) (by omega) (by omega) ?_
    refine lv_dup hx hb dX5_type_94 rfl ?_
    have hPc := hP.sub (ws' := [(q102, .inr (1, [.null, .int 0, .int 0, .int 0]))]) [5] rfl
    have hDc := hD.sub (ws' := [(q102, .inr (1, [.null, .int 0, .int 0, .int 0]))]) [5] (by decide) rfl
    have hKc := hK.sub (tys' := []) [] rfl
    have hFc := va_free (wc := [(q102, .inr (1, [.null, .int 0, .int 0, .int 0]))]) hD hS hA [5] rfl
    refine va_callv (va_runI (As := []) (rest := [.ref q102]) ⟨hx, hb, hml, hown, hts⟩ (kx_J4_init_da8c8_0 l dC dI ge5 gea gv5 gva gde gic gi0 q102 H.size) (cwI 0 hts gX5_type_J4_init_da8c8 rfl rfl rfl (hts (.initialized RJ4) (by decide +kernel)) (hts (.methodLink RX5 51 yJ4_init_da8c8) (by decide +kernel)) (hts (.instanceMethod yJ4_init_da8c8) (by decide +kernel)) rfl (by decide +kernel) ⟨Nat.le_of_ble_eq_true rfl, Nat.le_of_ble_eq_true rfl⟩) ⟨fun a U g mk q => by obtain ⟨q0, q1, qP, qK, qD, qG⟩ := q; exact ⟨q0, q1, qP, va_K.moved (u := U) (U := U.calling g mk a) (Vm.Alike.refl U.vm) qK, qD, gv.fb qG⟩, fun U hU hW => ⟨rfl, by rw [hU], by rw [hU]; exact hPc, va_K.moved hW.alike hKc, hDc.weaken (fun _ _ _ _ => trivial), gv.pass hW hU hS hFc hG⟩⟩ rfl rfl hl.1 rfl (lv_room (Nat.le_of_ble_eq_true rfl)) dX5_type_95 ⟨Nat.le_of_ble_eq_true rfl, Nat.le_of_ble_eq_true rfl⟩) hS (fun q _ h => hFc q h) hFc (fun u t H1 locs ht hvm hw hB hz1 hk1 hS => ?_)
    obtain ⟨q103, cq104, hP1, hK1, hD1⟩ := hB
    rw [ht] at hP1
    have hK1 := va_K.moved hvm.symm hK1
    obtain ⟨hP, hD⟩ := va_join (wr := [(h0, .inr (9, [.int 0, .ref h1, .ref z0, .ref z1, .int 0, .int 0, .int 0])), (h1, .inl (k0, 4, .inr (.inr (.inr (.inr (va_up (va_up (va_up (va_up (fun _ => none) 0 (some ge5)) 1 (some ge5)) 2 (some ge5)) 3 (some ge5))))))), (h2, .inl (k1, 5, .inl (upd (upd (upd (upd (upd (fun _ => 0) 0 l1) 1 l2) 2 l3) 3 l4) 4 3))), (h3, .inr (0, [.ref h4, .int 0, .int 0, .int 0])), (h4, .inl (k2, 1, .inl f0))]) (w1 := [(q102, .inr (1, [.ref q103, .int 0, .int 0, .int 0])), (q103, .inl (cq104, 16, .inl (fun _ => 0)))]) hP hD [5] [0, 1, 2, 3, 4] rfl rfl (by decide) (by decide) hk1 hFc hP1 hD1
    have hK := hK.app (hK1.sub (tys' := [(cq104, .byte)]) [0] rfl)
    generalize H1 = H at hP hS ⊢
    have hK : va_K (dC, dI) vwCl [(k0, .object "java/lang/String"), (k1, .int), (k2, .byte), (cq104, .byte)] s := hK
    have hP : va_P (dC, dI) vwCl [(h0, .inr (9, [.int 0, .ref h1, .ref z0, .ref z1, .int 0, .int 0, .int 0])), (h1, .inl (k0, 4, .inr (.inr (.inr (.inr (va_up (va_up (va_up (va_up (fun _ => none) 0 (some ge5)) 1 (some ge5)) 2 (some ge5)) 3 (some ge5))))))), (h2, .inl (k1, 5, .inl (upd (upd (upd (upd (upd (fun _ => 0) 0 l1) 1 l2) 2 l3) 3 l4) 4 3))), (h3, .inr (0, [.ref h4, .int 0, .int 0, .int 0])), (h4, .inl (k2, 1, .inl f0)), (q102, .inr (1, [.ref q103, .int 0, .int 0, .int 0])), (q103, .inl (cq104, 16, .inl (fun _ => 0)))] H := hP
    have hD : va_D A [(h0, .inr (9, [.int 0, .ref h1, .ref z0, .ref z1, .int 0, .int 0, .int 0])), (h1, .inl (k0, 4, .inr (.inr (.inr (.inr (va_up (va_up (va_up (va_up (fun _ => none) 0 (some ge5)) 1 (some ge5)) 2 (some ge5)) 3 (some ge5))))))), (h2, .inl (k1, 5, .inl (upd (upd (upd (upd (upd (fun _ => 0) 0 l1) 1 l2) 2 l3) 3 l4) 4 3))), (h3, .inr (0, [.ref h4, .int 0, .int 0, .int 0])), (h4, .inl (k2, 1, .inl f0)), (q102, .inr (1, [.ref q103, .int 0, .int 0, .int 0])), (q103, .inl (cq104, 16, .inl (fun _ => 0)))] := hD
    refine W.widen (k := 7) (n := 50) (by omega) (by omega) ?_
    refine lv_aload hx hb dX5_type_98 (lv_at hl 5 rfl) ?_
    have hPc := hP.sub (ws' := [(h3, .inr (0, [.ref h4, .int 0, .int 0, .int 0])), (h4, .inl (k2, 1, .inl f0)), (q102, .inr (1, [.ref q103, .int 0, .int 0, .int 0])), (q103, .inl (cq104, 16, .inl (fun _ => 0)))]) [3, 4, 5, 6] rfl
    have hDc := hD.sub (ws' := [(h3, .inr (0, [.ref h4, .int 0, .int 0, .int 0])), (h4, .inl (k2, 1, .inl f0)), (q102, .inr (1, [.ref q103, .int 0, .int 0, .int 0])), (q103, .inl (cq104, 16, .inl (fun _ => 0)))]) [3, 4, 5, 6] (by decide) rfl
    have hKc := hK.sub (tys' := [(k2, .byte), (cq104, .byte)]) [2, 3] rfl
    have hFc := va_free (wc := [(h3, .inr (0, [.ref h4, .int 0, .int 0, .int 0])), (h4, .inl (k2, 1, .inl f0)), (q102, .inr (1, [.ref q103, .int 0, .int 0, .int 0])), (q103, .inl (cq104, 16, .inl (fun _ => 0)))]) hD hS hA [3, 4, 5, 6] rfl
    refine va_callr (va_runV (As := [.ref h3]) (rest := []) ⟨hx, hb, hml, hown, hts⟩ (kx_J4_append_15ec4_1 l dC dI ge5 gea gv5 gva gde gic gi0 h3 h4 q102 q103 k2 cq104 H.size f0 f0_t) (cwV 1 hts gX5_type_J4_append_15ec4 rfl rfl rfl (by decide +kernel) ⟨Nat.le_of_ble_eq_true rfl, Nat.le_of_ble_eq_true rfl⟩) ⟨fun a U g mk q => by obtain ⟨q0, q1, qP, qK, qD, qG⟩ := q; exact ⟨q0, q1, qP, va_K.moved (u := U) (U := U.calling g mk a) (Vm.Alike.refl U.vm) qK, qD, gv.fb qG⟩, va_recv hKc hPc (ci := 1) (q0 := 2) rfl rfl, fun U hU hW => ⟨rfl, by rw [hU], by rw [hU]; exact hPc, va_K.moved hW.alike hKc, hDc.weaken (fun _ _ _ _ => trivial), gv.pass hW hU hS hFc hG⟩⟩ rfl rfl hl.1 rfl (lv_room (Nat.le_of_ble_eq_true rfl)) dX5_type_100 ⟨Nat.le_of_ble_eq_true rfl, Nat.le_of_ble_eq_true rfl⟩) hS (fun q _ h => hFc q h) hFc (fun u ra t H1 locs ht hvm hw hB hz1 hk1 hS => ?_)
    obtain ⟨f105, f105_t, hra, hP1, hK1, hD1⟩ := hB
    rw [hra]
    rw [ht] at hP1
    have hK1 := va_K.moved hvm.symm hK1
    obtain ⟨hP, hD⟩ := va_join (wr := [(h0, .inr (9, [.int 0, .ref h1, .ref z0, .ref z1, .int 0, .int 0, .int 0])), (h1, .inl (k0, 4, .inr (.inr (.inr (.inr (va_up (va_up (va_up (va_up (fun _ => none) 0 (some ge5)) 1 (some ge5)) 2 (some ge5)) 3 (some ge5))))))), (h2, .inl (k1, 5, .inl (upd (upd (upd (upd (upd (fun _ => 0) 0 l1) 1 l2) 2 l3) 3 l4) 4 3)))]) (w1 := [(h3, .inr (0, [.ref h4, .int 0, .int 0, .int 0])), (h4, .inl (k2, 1, .inl f0)), (q102, .inr (1, [.ref q103, .int 0, .int 0, .int 1])), (q103, .inl (cq104, 16, .inl f105))]) hP hD [3, 4, 5, 6] [0, 1, 2] rfl rfl (by decide) (by decide) hk1 hFc hP1 hD1
    generalize H1 = H at hP hS ⊢
    have hP : va_P (dC, dI) vwCl [(h0, .inr (9, [.int 0, .ref h1, .ref z0, .ref z1, .int 0, .int 0, .int 0])), (h1, .inl (k0, 4, .inr (.inr (.inr (.inr (va_up (va_up (va_up (va_up (fun _ => none) 0 (some ge5)) 1 (some ge5)) 2 (some ge5)) 3 (some ge5))))))), (h2, .inl (k1, 5, .inl (upd (upd (upd (upd (upd (fun _ => 0) 0 l1) 1 l2) 2 l3) 3 l4) 4 3))), (h3, .inr (0, [.ref h4, .int 0, .int 0, .int 0])), (h4, .inl (k2, 1, .inl f0)), (q102, .inr (1, [.ref q103, .int 0, .int 0, .int 1])), (q103, .inl (cq104, 16, .inl f105))] H := hP
    have hD : va_D A [(h0, .inr (9, [.int 0, .ref h1, .ref z0, .ref z1, .int 0, .int 0, .int 0])), (h1, .inl (k0, 4, .inr (.inr (.inr (.inr (va_up (va_up (va_up (va_up (fun _ => none) 0 (some ge5)) 1 (some ge5)) 2 (some ge5)) 3 (some ge5))))))), (h2, .inl (k1, 5, .inl (upd (upd (upd (upd (upd (fun _ => 0) 0 l1) 1 l2) 2 l3) 3 l4) 4 3))), (h3, .inr (0, [.ref h4, .int 0, .int 0, .int 0])), (h4, .inl (k2, 1, .inl f0)), (q102, .inr (1, [.ref q103, .int 0, .int 0, .int 1])), (q103, .inl (cq104, 16, .inl f105))] := hD
    refine va_ldcS hx hb hown g_sa dX5_type_103 ?_
    refine lv_iload hx hb dX5_type_105 (lv_at hl 1 rfl) ?_
    have hPc := hP.sub (ws' := []) [] rfl
    have hDc := hD.sub (ws' := []) [] (by decide) rfl
    have hKc := hK.sub (tys' := []) [] rfl
    have hFc := va_free (wc := []) hD hS hA [] rfl
    refine va_calli (va_runV (As := [.int 3]) (rest := [.ref q102]) ⟨hx, hb, hml, hown, hts⟩ (kx_J0_charAt_5068e_3 l dC dI ge5 gea gv5 gva gde gic gi0 H.size) (cwV 1 hts gX5_type_J0_charAt_5068e rfl rfl rfl (by decide +kernel) ⟨Nat.le_of_ble_eq_true rfl, Nat.le_of_ble_eq_true rfl⟩) ⟨fun a U g mk q => by obtain ⟨q0, q1, qP, qK, qD, qG⟩ := q; exact ⟨q0, q1, qP, va_K.moved (u := U) (U := U.calling g mk a) (Vm.Alike.refl U.vm) qK, qD, gv.fb qG⟩, (by obtain ⟨cell, k1, k2, k3, -⟩ := g_oa.kept hS.2.1; exact ⟨cell, k1, k2, k3⟩), fun U hU hW => ⟨rfl, by rw [hU], by rw [hU]; exact hPc, va_K.moved hW.alike hKc, hDc.weaken (fun _ _ _ _ => trivial), gv.pass hW hU hS hFc hG⟩⟩ rfl rfl hl.1 rfl (lv_room (Nat.le_of_ble_eq_true rfl)) dX5_type_107 ⟨Nat.le_of_ble_eq_true rfl, Nat.le_of_ble_eq_true rfl⟩) hS (fun q _ h => hFc q h) hFc (fun r9 u t H1 locs ht hvm hw hB hz1 hk1 hS => ?_)
    obtain rfl := hw
    obtain ⟨hP1, hK1, hD1⟩ := hB
    rw [ht] at hP1
    have hK1 := va_K.moved hvm.symm hK1
    obtain ⟨hP, hD⟩ := va_join (wr := [(h0, .inr (9, [.int 0, .ref h1, .ref z0, .ref z1, .int 0, .int 0, .int 0])), (h1, .inl (k0, 4, .inr (.inr (.inr (.inr (va_up (va_up (va_up (va_up (fun _ => none) 0 (some ge5)) 1 (some ge5)) 2 (some ge5)) 3 (some ge5))))))), (h2, .inl (k1, 5, .inl (upd (upd (upd (upd (upd (fun _ => 0) 0 l1) 1 l2) 2 l3) 3 l4) 4 3))), (h3, .inr (0, [.ref h4, .int 0, .int 0, .int 0])), (h4, .inl (k2, 1, .inl f0)), (q102, .inr (1, [.ref q103, .int 0, .int 0, .int 1])), (q103, .inl (cq104, 16, .inl f105))]) (w1 := []) hP hD [] [0, 1, 2, 3, 4, 5, 6] rfl rfl (by decide) (by decide) hk1 hFc hP1 hD1
    generalize H1 = H at hP hS ⊢
    have hP : va_P (dC, dI) vwCl [(h0, .inr (9, [.int 0, .ref h1, .ref z0, .ref z1, .int 0, .int 0, .int 0])), (h1, .inl (k0, 4, .inr (.inr (.inr (.inr (va_up (va_up (va_up (va_up (fun _ => none) 0 (some ge5)) 1 (some ge5)) 2 (some ge5)) 3 (some ge5))))))), (h2, .inl (k1, 5, .inl (upd (upd (upd (upd (upd (fun _ => 0) 0 l1) 1 l2) 2 l3) 3 l4) 4 3))), (h3, .inr (0, [.ref h4, .int 0, .int 0, .int 0])), (h4, .inl (k2, 1, .inl f0)), (q102, .inr (1, [.ref q103, .int 0, .int 0, .int 1])), (q103, .inl (cq104, 16, .inl f105))] H := hP
    have hD : va_D A [(h0, .inr (9, [.int 0, .ref h1, .ref z0, .ref z1, .int 0, .int 0, .int 0])), (h1, .inl (k0, 4, .inr (.inr (.inr (.inr (va_up (va_up (va_up (va_up (fun _ => none) 0 (some ge5)) 1 (some ge5)) 2 (some ge5)) 3 (some ge5))))))), (h2, .inl (k1, 5, .inl (upd (upd (upd (upd (upd (fun _ => 0) 0 l1) 1 l2) 2 l3) 3 l4) 4 3))), (h3, .inr (0, [.ref h4, .int 0, .int 0, .int 0])), (h4, .inl (k2, 1, .inl f0)), (q102, .inr (1, [.ref q103, .int 0, .int 0, .int 1])), (q103, .inl (cq104, 16, .inl f105))] := hD
    have hPc := hP.sub (ws' := [(q102, .inr (1, [.ref q103, .int 0, .int 0, .int 1])), (q103, .inl (cq104, 16, .inl f105))]) [5, 6] rfl
    have hDc := hD.sub (ws' := [(q102, .inr (1, [.ref q103, .int 0, .int 0, .int 1])), (q103, .inl (cq104, 16, .inl f105))]) [5, 6] (by decide) rfl
    have hKc := hK.sub (tys' := [(cq104, .byte)]) [3] rfl
    have hFc := va_free (wc := [(q102, .inr (1, [.ref q103, .int 0, .int 0, .int 1])), (q103, .inl (cq104, 16, .inl f105))]) hD hS hA [5, 6] rfl
    refine va_callr (va_runV (As := [.int 100]) (rest := []) ⟨hx, hb, hml, hown, hts⟩ (kx_J4_append_cf468_7 l dC dI ge5 gea gv5 gva gde gic gi0 q102 q103 cq104 H.size f105 f105_t) (cwV 1 hts gX5_type_J4_append_cf468 rfl rfl rfl (by decide +kernel) ⟨Nat.le_of_ble_eq_true rfl, Nat.le_of_ble_eq_true rfl⟩) ⟨fun a U g mk q => by obtain ⟨q0, q1, qP, qK, qD, qG⟩ := q; exact ⟨q0, q1, qP, va_K.moved (u := U) (U := U.calling g mk a) (Vm.Alike.refl U.vm) qK, qD, gv.fb qG⟩, va_recv hKc hPc (ci := 1) (q0 := 0) rfl rfl, fun U hU hW => ⟨rfl, by rw [hU], by rw [hU]; exact hPc, va_K.moved hW.alike hKc, hDc.weaken (fun _ _ _ _ => trivial), gv.pass hW hU hS hFc hG⟩⟩ rfl rfl hl.1 rfl (lv_room (Nat.le_of_ble_eq_true rfl)) dX5_type_110 ⟨Nat.le_of_ble_eq_true rfl, Nat.le_of_ble_eq_true rfl⟩) hS (fun q _ h => hFc q h) hFc (fun u ra t H1 locs ht hvm hw hB hz1 hk1 hS => ?_)
    obtain ⟨f106, f106_t, hra, hP1, hK1, hD1⟩ := hB
    rw [hra]
    rw [ht] at hP1
    have hK1 := va_K.moved hvm.symm hK1
    obtain ⟨hP, hD⟩ := va_join (wr := [(h0, .inr (9, [.int 0, .ref h1, .ref z0, .ref z1, .int 0, .int 0, .int 0])), (h1, .inl (k0, 4, .inr (.inr (.inr (.inr (va_up (va_up (va_up (va_up (fun _ => none) 0 (some ge5)) 1 (some ge5)) 2 (some ge5)) 3 (some ge5))))))), (h2, .inl (k1, 5, .inl (upd (upd (upd (upd (upd (fun _ => 0) 0 l1) 1 l2) 2 l3) 3 l4) 4 3))), (h3, .inr (0, [.ref h4, .int 0, .int 0, .int 0])), (h4, .inl (k2, 1, .inl f0))]) (w1 := [(q102, .inr (1, [.ref q103, .int 0, .int 0, .int 2])), (q103, .inl (cq104, 16, .inl f106))]) hP hD [5, 6] [0, 1, 2, 3, 4] rfl rfl (by decide) (by decide) hk1 hFc hP1 hD1
    generalize H1 = H at hP hS ⊢
    have hP : va_P (dC, dI) vwCl [(h0, .inr (9, [.int 0, .ref h1, .ref z0, .ref z1, .int 0, .int 0, .int 0])), (h1, .inl (k0, 4, .inr (.inr (.inr (.inr (va_up (va_up (va_up (va_up (fun _ => none) 0 (some ge5)) 1 (some ge5)) 2 (some ge5)) 3 (some ge5))))))), (h2, .inl (k1, 5, .inl (upd (upd (upd (upd (upd (fun _ => 0) 0 l1) 1 l2) 2 l3) 3 l4) 4 3))), (h3, .inr (0, [.ref h4, .int 0, .int 0, .int 0])), (h4, .inl (k2, 1, .inl f0)), (q102, .inr (1, [.ref q103, .int 0, .int 0, .int 2])), (q103, .inl (cq104, 16, .inl f106))] H := hP
    have hD : va_D A [(h0, .inr (9, [.int 0, .ref h1, .ref z0, .ref z1, .int 0, .int 0, .int 0])), (h1, .inl (k0, 4, .inr (.inr (.inr (.inr (va_up (va_up (va_up (va_up (fun _ => none) 0 (some ge5)) 1 (some ge5)) 2 (some ge5)) 3 (some ge5))))))), (h2, .inl (k1, 5, .inl (upd (upd (upd (upd (upd (fun _ => 0) 0 l1) 1 l2) 2 l3) 3 l4) 4 3))), (h3, .inr (0, [.ref h4, .int 0, .int 0, .int 0])), (h4, .inl (k2, 1, .inl f0)), (q102, .inr (1, [.ref q103, .int 0, .int 0, .int 2])), (q103, .inl (cq104, 16, .inl f106))] := hD
    have hPc := hP.sub (ws' := [(q102, .inr (1, [.ref q103, .int 0, .int 0, .int 2])), (q103, .inl (cq104, 16, .inl f106))]) [5, 6] rfl
    have hDc := hD.sub (ws' := [(q102, .inr (1, [.ref q103, .int 0, .int 0, .int 2])), (q103, .inl (cq104, 16, .inl f106))]) [5, 6] (by decide) rfl
    have hKc := hK.sub (tys' := [(cq104, .byte)]) [3] rfl
    have hFc := va_free (wc := [(q102, .inr (1, [.ref q103, .int 0, .int 0, .int 2])), (q103, .inl (cq104, 16, .inl f106))]) hD hS hA [5, 6] rfl
    refine va_callr (va_runV (As := []) (rest := []) ⟨hx, hb, hml, hown, hts⟩ (kx_J4_toString_0e30d_2 l dC dI ge5 gea gv5 gva gde gic gi0 q102 q103 cq104 H.size f106 f106_t) (cwV 0 hts gX5_type_J4_toString_0e30d rfl rfl rfl (by decide +kernel) ⟨Nat.le_of_ble_eq_true rfl, Nat.le_of_ble_eq_true rfl⟩) ⟨fun a U g mk q => by obtain ⟨q0, q1, qP, qK, qD, qG⟩ := q; exact ⟨q0, q1, qP, va_K.moved (u := U) (U := U.calling g mk a) (Vm.Alike.refl U.vm) qK, qD, gv.fb qG⟩, va_recv hKc hPc (ci := 1) (q0 := 0) rfl rfl, fun U hU hW => ⟨rfl, by rw [hU], by rw [hU]; exact hPc, va_K.moved hW.alike hKc, hDc.weaken (fun _ _ _ _ => trivial), gv.pass hW hU hS hFc hG⟩⟩ rfl rfl hl.1 rfl (lv_room (Nat.le_of_ble_eq_true rfl)) dX5_type_113 ⟨Nat.le_of_ble_eq_true rfl, Nat.le_of_ble_eq_true rfl⟩) hS (fun q _ h => hFc q h) hFc (fun u ra t H1 locs ht hvm hw hB hz1 hk1 hS => ?_)
    obtain ⟨q107, q108, cq109, f110, f110_t, hra, hP1, hK1, hD1⟩ := hB
    rw [hra]
    rw [ht] at hP1
    have hK1 := va_K.moved hvm.symm hK1
    obtain ⟨hP, hD⟩ := va_join (wr := [(h0, .inr (9, [.int 0, .ref h1, .ref z0, .ref z1, .int 0, .int 0, .int 0])), (h1, .inl (k0, 4, .inr (.inr (.inr (.inr (va_up (va_up (va_up (va_up (fun _ => none) 0 (some ge5)) 1 (some ge5)) 2 (some ge5)) 3 (some ge5))))))), (h2, .inl (k1, 5, .inl (upd (upd (upd (upd (upd (fun _ => 0) 0 l1) 1 l2) 2 l3) 3 l4) 4 3))), (h3, .inr (0, [.ref h4, .int 0, .int 0, .int 0])), (h4, .inl (k2, 1, .inl f0))]) (w1 := [(q102, .inr (1, [.ref q103, .int 0, .int 0, .int 2])), (q103, .inl (cq104, 16, .inl f106)), (q107, .inr (0, [.ref q108, .int 0, .int 0, .int 0])), (q108, .inl (cq109, 2, .inl f110))]) hP hD [5, 6] [0, 1, 2, 3, 4] rfl rfl (by decide) (by decide) hk1 hFc hP1 hD1
    have hK := hK.app (hK1.sub (tys' := [(cq109, .byte)]) [1] rfl)
    generalize H1 = H at hP hS ⊢
    have hK : va_K (dC, dI) vwCl [(k0, .object "java/lang/String"), (k1, .int), (k2, .byte), (cq104, .byte), (cq109, .byte)] s := hK
    have hP : va_P (dC, dI) vwCl [(h0, .inr (9, [.int 0, .ref h1, .ref z0, .ref z1, .int 0, .int 0, .int 0])), (h1, .inl (k0, 4, .inr (.inr (.inr (.inr (va_up (va_up (va_up (va_up (fun _ => none) 0 (some ge5)) 1 (some ge5)) 2 (some ge5)) 3 (some ge5))))))), (h2, .inl (k1, 5, .inl (upd (upd (upd (upd (upd (fun _ => 0) 0 l1) 1 l2) 2 l3) 3 l4) 4 3))), (h3, .inr (0, [.ref h4, .int 0, .int 0, .int 0])), (h4, .inl (k2, 1, .inl f0)), (q102, .inr (1, [.ref q103, .int 0, .int 0, .int 2])), (q103, .inl (cq104, 16, .inl f106)), (q107, .inr (0, [.ref q108, .int 0, .int 0, .int 0])), (q108, .inl (cq109, 2, .inl f110))] H := hP
    have hD : va_D A [(h0, .inr (9, [.int 0, .ref h1, .ref z0, .ref z1, .int 0, .int 0, .int 0])), (h1, .inl (k0, 4, .inr (.inr (.inr (.inr (va_up (va_up (va_up (va_up (fun _ => none) 0 (some ge5)) 1 (some ge5)) 2 (some ge5)) 3 (some ge5))))))), (h2, .inl (k1, 5, .inl (upd (upd (upd (upd (upd (fun _ => 0) 0 l1) 1 l2) 2 l3) 3 l4) 4 3))), (h3, .inr (0, [.ref h4, .int 0, .int 0, .int 0])), (h4, .inl (k2, 1, .inl f0)), (q102, .inr (1, [.ref q103, .int 0, .int 0, .int 2])), (q103, .inl (cq104, 16, .inl f106)), (q107, .inr (0, [.ref q108, .int 0, .int 0, .int 0])), (q108, .inl (cq109, 2, .inl f110))] := hD
    refine W.widen (k := 9) (n := 56) (by omega) (by omega) ?_
    refine lv_astore (lv' := [(9, .ref q107), (8, .int 0), (13, .int 3), (0, .ref h0), (1, .int rp), (7, .ref h2), (10, .ref h2), (11, .int 5), (12, .int 4)]) hx hb dX5_type_116 hl (by decide) rfl (fun ls hl => ?_)
    refine lv_iinc (v := 5) (lv' := [(12, .int 5), (9, .ref q107), (8, .int 0), (13, .int 3), (0, .ref h0), (1, .int rp), (7, .ref h2), (10, .ref h2), (11, .int 5)]) hx hb dX5_type_118 hl (k := 8) rfl (by decide) (by decide) rfl (fun ls hl => ?_)
    refine lv_goto (tgt := 47) hx hb dX5_type_121 (by decide) ?_
    have hP := hP.sub (ws' := [(h0, .inr (9, [.int 0, .ref h1, .ref z0, .ref z1, .int 0, .int 0, .int 0])), (h1, .inl (k0, 4, .inr (.inr (.inr (.inr (va_up (va_up (va_up (va_up (fun _ => none) 0 (some ge5)) 1 (some ge5)) 2 (some ge5)) 3 (some ge5))))))), (h2, .inl (k1, 5, .inl (upd (upd (upd (upd (upd (fun _ => 0) 0 l1) 1 l2) 2 l3) 3 l4) 4 3))), (q107, .inr (0, [.ref q108, .int 0, .int 0, .int 0])), (q108, .inl (cq109, 2, .inl f110))]) [0, 1, 2, 7, 8] rfl
    have hD := hD.sub (ws' := [(h0, .inr (9, [.int 0, .ref h1, .ref z0, .ref z1, .int 0, .int 0, .int 0])), (h1, .inl (k0, 4, .inr (.inr (.inr (.inr (va_up (va_up (va_up (va_up (fun _ => none) 0 (some ge5)) 1 (some ge5)) 2 (some ge5)) 3 (some ge5))))))), (h2, .inl (k1, 5, .inl (upd (upd (upd (upd (upd (fun _ => 0) 0 l1) 1 l2) 2 l3) 3 l4) 4 3))), (q107, .inr (0, [.ref q108, .int 0, .int 0, .int 0])), (q108, .inl (cq109, 2, .inl f110))]) [0, 1, 2, 7, 8] (by decide) rfl
    have hK := hK.sub (tys' := [(k0, .object "java/lang/String"), (k1, .int), (cq109, .byte)]) [0, 1, 4] rfl
    have hl := lv_sub hl [4, 5, 6, 2, 1, 7, 8, 0] (show lv_pick [(12, .int 5), (9, .ref q107), (8, .int 0), (13, .int 3), (0, .ref h0), (1, .int rp), (7, .ref h2), (10, .ref h2), (11, .int 5)] [4, 5, 6, 2, 1, 7, 8, 0] = [(0, .ref h0), (1, .int rp), (7, .ref h2), (8, .int 0), (9, .ref q107), (10, .ref h2), (11, .int 5), (12, .int 5)] from rfl)
    exact kx_X5_type_h520 f110_t hR hx hb hr hml hown hts hlocks hA hG hS hK hP hD hl
  · have l5_l : (4 : Int) ≤ l5.toInt := by omega
    have l5_u : l5.toInt ≤ (2147483647 : Int) := by omega
    have hR : kz_ty rp 1 1 [] = (R, v) := (kz_ty_b (by omega)).symm.trans hR
    refine lv_iload hx hb dX5_type_47 (lv_at hl 7 rfl) ?_
    refine lv_iload hx hb dX5_type_49 (lv_at hl 6 rfl) ?_
    refine lv_icmp_ge (tgt := 124) hx hb dX5_type_51 (by decide) (fun c9 => absurd c9 (by decide)) (fun _ => ?_)
    refine lv_aload hx hb dX5_type_54 (lv_at hl 5 rfl) ?_
    refine lv_iload hx hb dX5_type_56 (lv_at hl 7 rfl) ?_
    refine va_iald (D := (dC, dI)) hx hb hK hP 2 1 rfl rfl (by unfold vp_in; decide) dX5_type_58 ?_
    refine W.eq (g2 := F0 m 59 ls [.int l5]) rfl ?_
    refine lv_istore (lv' := [(13, .int l5), (0, .ref h0), (1, .int rp), (7, .ref h2), (8, .int 0), (9, .ref h3), (10, .ref h2), (11, .int 5), (12, .int 4)]) hx hb dX5_type_59 hl (by decide) rfl (fun ls hl => ?_)
    refine lv_iload hx hb dX5_type_61 (lv_at hl 4 rfl) ?_
    refine lv_iload hx hb dX5_type_63 (lv_at hl 0 rfl) ?_
    refine lv_iconst (v := (-1)) hx hb dX5_type_65 (by decide) ?_
    refine lv_iconst (v := 3) hx hb dX5_type_66 (by decide) ?_
    have hPc := hP.sub (ws' := []) [] rfl
    have hDc := hD.sub (ws' := []) [] (by decide) rfl
    have hKc := hK.sub (tys' := []) [] rfl
    have hFc := va_free (wc := []) hD hS hA [] rfl
    refine va_calli (va_runS (As := [.int l5, .int (-1), .int 3]) (rest := [.int 0]) ⟨hx, hb, hml, hown, hts⟩ (kx_X5_isIn_15 l dC dI H.size l5 l5_l l5_u) (cwS 3 hts gX5_type_X5_isIn rfl rfl rfl (by decide +kernel) ⟨Nat.le_of_ble_eq_true rfl, Nat.le_of_ble_eq_true rfl⟩) ⟨fun a U g mk q => by obtain ⟨q0, q1, qP, qK, qD⟩ := q; exact ⟨q0, q1, qP, va_K.moved (u := U) (U := U.calling g mk a) (Vm.Alike.refl U.vm) qK, qD⟩, fun U hU hW => ⟨rfl, by rw [hU], by rw [hU]; exact hPc, va_K.moved hW.alike hKc, hDc.weaken (fun _ _ _ _ => trivial)⟩⟩ rfl rfl hl.1 rfl (lv_room (Nat.le_of_ble_eq_true rfl)) dX5_type_67 ⟨Nat.le_of_ble_eq_true rfl, Nat.le_of_ble_eq_true rfl⟩) hS (fun q _ h => hFc q h) hFc (fun r9 u t H1 locs ht hvm hw hB hz1 hk1 hS => ?_)
    obtain rfl := hw
    obtain ⟨hP1, hK1, hD1⟩ := hB
    rw [ht] at hP1
    have hK1 := va_K.moved hvm.symm hK1
    obtain ⟨hP, hD⟩ := va_join (wr := [(h0, .inr (9, [.int 0, .ref h1, .ref z0, .ref z1, .int 0, .int 0, .int 0])), (h1, .inl (k0, 4, .inr (.inr (.inr (.inr (va_up (va_up (va_up (va_up (fun _ => none) 0 (some ge5)) 1 (some ge5)) 2 (some ge5)) 3 (some ge5))))))), (h2, .inl (k1, 5, .inl (upd (upd (upd (upd (upd (fun _ => 0) 0 l1) 1 l2) 2 l3) 3 l4) 4 l5))), (h3, .inr (0, [.ref h4, .int 0, .int 0, .int 0])), (h4, .inl (k2, 1, .inl f0))]) (w1 := []) hP hD [] [0, 1, 2, 3, 4] rfl rfl (by decide) (by decide) hk1 hFc hP1 hD1
    generalize H1 = H at hP hS ⊢
    have hP : va_P (dC, dI) vwCl [(h0, .inr (9, [.int 0, .ref h1, .ref z0, .ref z1, .int 0, .int 0, .int 0])), (h1, .inl (k0, 4, .inr (.inr (.inr (.inr (va_up (va_up (va_up (va_up (fun _ => none) 0 (some ge5)) 1 (some ge5)) 2 (some ge5)) 3 (some ge5))))))), (h2, .inl (k1, 5, .inl (upd (upd (upd (upd (upd (fun _ => 0) 0 l1) 1 l2) 2 l3) 3 l4) 4 l5))), (h3, .inr (0, [.ref h4, .int 0, .int 0, .int 0])), (h4, .inl (k2, 1, .inl f0))] H := hP
    have hD : va_D A [(h0, .inr (9, [.int 0, .ref h1, .ref z0, .ref z1, .int 0, .int 0, .int 0])), (h1, .inl (k0, 4, .inr (.inr (.inr (.inr (va_up (va_up (va_up (va_up (fun _ => none) 0 (some ge5)) 1 (some ge5)) 2 (some ge5)) 3 (some ge5))))))), (h2, .inl (k1, 5, .inl (upd (upd (upd (upd (upd (fun _ => 0) 0 l1) 1 l2) 2 l3) 3 l4) 4 l5))), (h3, .inr (0, [.ref h4, .int 0, .int 0, .int 0])), (h4, .inl (k2, 1, .inl f0))] := hD
    refine lv_if_ne (tgt := 77) hx hb dX5_type_70 (by decide) (fun c9 => absurd (by decide) c9) (fun _ => ?_)
    refine lv_iconst (v := 1) hx hb dX5_type_73 (by decide) ?_
    refine lv_goto (tgt := 78) hx hb dX5_type_74 (by decide) ?_
    refine lv_ior hx hb dX5_type_78 ?_
    refine lv_topi (fun y101 ey101 => ?_)
    obtain rfl : y101 = 1 := ey101.trans (by decide)
    refine lv_istore (lv' := [(8, .int 1), (13, .int l5), (0, .ref h0), (1, .int rp), (7, .ref h2), (9, .ref h3), (10, .ref h2), (11, .int 5), (12, .int 4)]) hx hb dX5_type_79 hl (by decide) rfl (fun ls hl => ?_)
    refine lv_iload hx hb dX5_type_81 (lv_at hl 1 rfl) ?_
    refine lv_iconst (v := 0) hx hb dX5_type_83 (by decide) ?_
    refine lv_iconst (v := 3) hx hb dX5_type_84 (by decide) ?_
    have hPc := hP.sub (ws' := []) [] rfl
    have hDc := hD.sub (ws' := []) [] (by decide) rfl
    have hKc := hK.sub (tys' := []) [] rfl
    have hFc := va_free (wc := []) hD hS hA [] rfl
    refine va_calli (va_runS (As := [.int l5, .int 0, .int 3]) (rest := []) ⟨hx, hb, hml, hown, hts⟩ (kx_X5_isIn_2 l dC dI H.size l5 l5_l l5_u) (cwS 3 hts gX5_type_X5_isIn rfl rfl rfl (by decide +kernel) ⟨Nat.le_of_ble_eq_true rfl, Nat.le_of_ble_eq_true rfl⟩) ⟨fun a U g mk q => by obtain ⟨q0, q1, qP, qK, qD⟩ := q; exact ⟨q0, q1, qP, va_K.moved (u := U) (U := U.calling g mk a) (Vm.Alike.refl U.vm) qK, qD⟩, fun U hU hW => ⟨rfl, by rw [hU], by rw [hU]; exact hPc, va_K.moved hW.alike hKc, hDc.weaken (fun _ _ _ _ => trivial)⟩⟩ rfl rfl hl.1 rfl (lv_room (Nat.le_of_ble_eq_true rfl)) dX5_type_85 ⟨Nat.le_of_ble_eq_true rfl, Nat.le_of_ble_eq_true rfl⟩) hS (fun q _ h => hFc q h) hFc (fun r9 u t H1 locs ht hvm hw hB hz1 hk1 hS => ?_)
    obtain rfl := hw
    obtain ⟨hP1, hK1, hD1⟩ := hB
    rw [ht] at hP1
    have hK1 := va_K.moved hvm.symm hK1
    obtain ⟨hP, hD⟩ := va_join (wr := [(h0, .inr (9, [.int 0, .ref h1, .ref z0, .ref z1, .int 0, .int 0, .int 0])), (h1, .inl (k0, 4, .inr (.inr (.inr (.inr (va_up (va_up (va_up (va_up (fun _ => none) 0 (some ge5)) 1 (some ge5)) 2 (some ge5)) 3 (some ge5))))))), (h2, .inl (k1, 5, .inl (upd (upd (upd (upd (upd (fun _ => 0) 0 l1) 1 l2) 2 l3) 3 l4) 4 l5))), (h3, .inr (0, [.ref h4, .int 0, .int 0, .int 0])), (h4, .inl (k2, 1, .inl f0))]) (w1 := []) hP hD [] [0, 1, 2, 3, 4] rfl rfl (by decide) (by decide) hk1 hFc hP1 hD1
    generalize H1 = H at hP hS ⊢
    have hP : va_P (dC, dI) vwCl [(h0, .inr (9, [.int 0, .ref h1, .ref z0, .ref z1, .int 0, .int 0, .int 0])), (h1, .inl (k0, 4, .inr (.inr (.inr (.inr (va_up (va_up (va_up (va_up (fun _ => none) 0 (some ge5)) 1 (some ge5)) 2 (some ge5)) 3 (some ge5))))))), (h2, .inl (k1, 5, .inl (upd (upd (upd (upd (upd (fun _ => 0) 0 l1) 1 l2) 2 l3) 3 l4) 4 l5))), (h3, .inr (0, [.ref h4, .int 0, .int 0, .int 0])), (h4, .inl (k2, 1, .inl f0))] H := hP
    have hD : va_D A [(h0, .inr (9, [.int 0, .ref h1, .ref z0, .ref z1, .int 0, .int 0, .int 0])), (h1, .inl (k0, 4, .inr (.inr (.inr (.inr (va_up (va_up (va_up (va_up (fun _ => none) 0 (some ge5)) 1 (some ge5)) 2 (some ge5)) 3 (some ge5))))))), (h2, .inl (k1, 5, .inl (upd (upd (upd (upd (upd (fun _ => 0) 0 l1) 1 l2) 2 l3) 3 l4) 4 l5))), (h3, .inr (0, [.ref h4, .int 0, .int 0, .int 0])), (h4, .inl (k2, 1, .inl f0))] := hD
    refine lv_if_eq (tgt := 118) hx hb dX5_type_88 (by decide) (fun _ => ?_) (fun c9 => absurd (by decide) c9)
    refine lv_iinc (v := 5) (lv' := [(12, .int 5), (8, .int 1), (13, .int l5), (0, .ref h0), (1, .int rp), (7, .ref h2), (9, .ref h3), (10, .ref h2), (11, .int 5)]) hx hb dX5_type_118 hl (k := 8) rfl (by decide) (by decide) rfl (fun ls hl => ?_)
    refine lv_goto (tgt := 47) hx hb dX5_type_121 (by decide) ?_
    have hP := hP.sub (ws' := [(h0, .inr (9, [.int 0, .ref h1, .ref z0, .ref z1, .int 0, .int 0, .int 0])), (h1, .inl (k0, 4, .inr (.inr (.inr (.inr (va_up (va_up (va_up (va_up (fun _ => none) 0 (some ge5)) 1 (some ge5)) 2 (some ge5)) 3 (some ge5))))))), (h2, .inl (k1, 5, .inl (upd (upd (upd (upd (upd (fun _ => 0) 0 l1) 1 l2) 2 l3) 3 l4) 4 l5))), (h3, .inr (0, [.ref h4, .int 0, .int 0, .int 0])), (h4, .inl (k2, 1, .inl f0))]) [0, 1, 2, 3, 4] rfl
    have hD := hD.sub (ws' := [(h0, .inr (9, [.int 0, .ref h1, .ref z0, .ref z1, .int 0, .int 0, .int 0])), (h1, .inl (k0, 4, .inr (.inr (.inr (.inr (va_up (va_up (va_up (va_up (fun _ => none) 0 (some ge5)) 1 (some ge5)) 2 (some ge5)) 3 (some ge5))))))), (h2, .inl (k1, 5, .inl (upd (upd (upd (upd (upd (fun _ => 0) 0 l1) 1 l2) 2 l3) 3 l4) 4 l5))), (h3, .inr (0, [.ref h4, .int 0, .int 0, .int 0])), (h4, .inl (k2, 1, .inl f0))]) [0, 1, 2, 3, 4] (by decide) rfl
    have hK := hK.sub (tys' := [(k0, .object "java/lang/String"), (k1, .int), (k2, .byte)]) [0, 1, 2] rfl
    have hl := lv_sub hl [3, 4, 5, 1, 6, 7, 8, 0] (show lv_pick [(12, .int 5), (8, .int 1), (13, .int l5), (0, .ref h0), (1, .int rp), (7, .ref h2), (9, .ref h3), (10, .ref h2), (11, .int 5)] [3, 4, 5, 1, 6, 7, 8, 0] = [(0, .ref h0), (1, .int rp), (7, .ref h2), (8, .int 1), (9, .ref h3), (10, .ref h2), (11, .int 5), (12, .int 5)] from rfl)
    exact kx_X5_type_h511 f0_t hR hx hb hr hml hown hts hlocks hA hG hS hK hP hD hl
set_option maxHeartbeats 4000000 in
set_option maxRecDepth 100000 in
theorem kx_J5_ensureCapacityInternal_d00df_7 (l : Launch) (dC : Nat → ClassId) (dI : Nat → Nat → Nat) (h0 : Nat) (h1 : Nat) (k0 : ClassId) (sz : Nat) (f0 : Nat → Int32) (f0_t : sb_Fit f0) : Met l yJ5_ensureCapacityInternal_d00df wsJ5_ensureCapacityInternal_d00df ({ frames := 0, cells := 0, slots := 0, locals := 0 }) (va_Pc [.ref h0, .int 3] (fun U => U.heap.size = sz ∧ va_P (dC, dI) vwCl [(h0, .inr (1, [.ref h1, .int 0, .int 0, .int 2])), (h1, .inl (k0, 16, .inl f0))] U.heap ∧ va_K (dC, dI) vwCl [(k0, .byte)] U ∧ va_D (fun _ => True) [(h0, .inr (1, [.ref h1, .int 0, .int 0, .int 2])), (h1, .inl (k0, 16, .inl f0))])) (va_Qv (fun _ : Unit => True) (fun (_ : Unit) (t : State) => va_P (dC, dI) vwCl [(h0, .inr (1, [.ref h1, .int 0, .int 0, .int 2])), (h1, .inl (k0, 16, .inl f0))] t.heap ∧ va_K (dC, dI) vwCl [(k0, .byte)] t ∧ va_D (va_A [(h0, .inr (1, [.ref h1, .int 0, .int 0, .int 2])), (h1, .inl (k0, 16, .inl f0))] sz) [(h0, .inr (1, [.ref h1, .int 0, .int 0, .int 2])), (h1, .inl (k0, 16, .inl f0))]) (va_A [(h0, .inr (1, [.ref h1, .int 0, .int 0, .int 2])), (h1, .inl (k0, 16, .inl f0))] sz)) 0 0 (va_A [(h0, .inr (1, [.ref h1, .int 0, .int 0, .int 2])), (h1, .inl (k0, 16, .inl f0))] sz) := by
  refine Met.ofW (cc := cJ5_ensureCapacityInternal_d00df) (maxL := 3) (ret := none) (by decide) rfl ?_
  intro p e s m args below meth c s₁ B hml hv
  obtain ⟨rfl, hsz, hP, hK, hD0⟩ := hv
  have hx := B.exec
  have hb := B.bytes
  have hr := B.returns
  have hts := atoms_spec (ws := wsJ5_ensureCapacityInternal_d00df) B.pre
  have hown : s.vm.findClass RJ5 = some m.cls := findClass_of_methodNamed B.named
  have hlocks := B.notSynchronized
  subst hsz
  have hD := hD0.self (sz := s.heap.size)
  generalize hAe : va_A [(h0, .inr (1, [.ref h1, .int 0, .int 0, .int 2])), (h1, .inl (k0, 16, .inl f0))] s.heap.size = A at hD ⊢
  have hA : ∀ q : Nat, s.heap.size ≤ q → A q := fun q h => by rw [← hAe]; exact Or.inr h
  have hS : va_S A s.heap s.heap [] := va_S.rf
  have hP : va_P (dC, dI) vwCl [(h0, .inr (1, [.ref h1, .int 0, .int 0, .int 2])), (h1, .inl (k0, 16, .inl f0))] s.heap := hP
  have hl := lv_entry ([.ref h0, .int 3]) (n := 3) (Nat.le_of_ble_eq_true rfl)
  rw [lg_entry_eq]
  generalize (lg_sl ([.ref h0, .int 3]) ++ List.replicate (3 - (lg_sl ([.ref h0, .int 3])).length) Slot.unset).toArray = ls at hl ⊢
  have hl : lv_has ls 3 [(0, .ref h0), (1, .int 3)] := hl
  refine lv_aload_n hx hb dJ5_ensureCapacityInternal_d00df_0 rfl (lv_at hl 0 rfl) ?_
  refine va_get (D := (dC, dI)) (ci := 1) (v := .ref h1) (C := RJ4) (T := TJ4) (N := 4) hx hb hts (by decide +kernel) hown hK hP 0 rfl rfl 0 (by decide) (hts (.fieldLink RJ5 15 "java/lang/AbstractStringBuilder" "value" "[B") (by decide +kernel)) (fun _ h9 => h9) rfl dJ5_ensureCapacityInternal_d00df_1 ?_
  refine va_alen (D := (dC, dI)) (v := 16) hx hb hK hP 1 0 rfl rfl (show Int32.ofNat 16 = 16 from by decide) dJ5_ensureCapacityInternal_d00df_4 ?_
  refine lv_aload_n hx hb dJ5_ensureCapacityInternal_d00df_5 rfl (lv_at hl 0 rfl) ?_
  refine va_get (D := (dC, dI)) (ci := 1) (v := .int 0) (C := RJ4) (T := TJ4) (N := 4) hx hb hts (by decide +kernel) hown hK hP 0 rfl rfl 1 (by decide) (hts (.fieldLink RJ5 22 "java/lang/AbstractStringBuilder" "coder" "B") (by decide +kernel)) (fun _ h9 => h9) rfl dJ5_ensureCapacityInternal_d00df_6 ?_
  refine lv_ishr hx hb dJ5_ensureCapacityInternal_d00df_9 ?_
  refine lv_topi (fun y1 ey1 => ?_)
  obtain rfl : y1 = 16 := ey1.trans (by decide)
  refine lv_istore_n (lv' := [(2, .int 16), (0, .ref h0), (1, .int 3)]) hx hb dJ5_ensureCapacityInternal_d00df_10 rfl hl (by decide) rfl (fun ls hl => ?_)
  refine lv_iload_n hx hb dJ5_ensureCapacityInternal_d00df_11 rfl (lv_at hl 2 rfl) ?_
  refine lv_iload_n hx hb dJ5_ensureCapacityInternal_d00df_12 rfl (lv_at hl 0 rfl) ?_
  refine lv_isub hx hb dJ5_ensureCapacityInternal_d00df_13 ?_
  refine lv_topi (fun y2 ey2 => ?_)
  obtain rfl : y2 = (-13) := ey2.trans (by decide)
  refine lv_if_le (tgt := 38) hx hb dJ5_ensureCapacityInternal_d00df_14 (by decide) (fun _ => ?_) (fun c9 => absurd (by decide) c9)
  exact W.vret hx hb hr (fun t ht hW => ⟨⟨(), rfl, trivial, by rw [ht]; exact hP, va_K.moved hW.alike hK, hD⟩, hS.F ht⟩) hS.2.2 dJ5_ensureCapacityInternal_d00df_38
set_option maxHeartbeats 4000000 in
set_option maxRecDepth 100000 in
theorem kx_J5_append_3fe6f_8 (l : Launch) (dC : Nat → ClassId) (dI : Nat → Nat → Nat) (ge5 gea gv5 gva gde gic gi0 : Nat) (h0 : Nat) (h1 : Nat) (k0 : ClassId) (sz : Nat) (f0 : Nat → Int32) (f0_t : sb_Fit f0) : Met l yJ5_append_3fe6f wsJ5_append_3fe6f ({ frames := 1, cells := 0, slots := 0, locals := 22 }) (va_Pc [.ref h0, .int 97] (fun U => U.heap.size = sz ∧ va_P (dC, dI) vwCl [(h0, .inr (1, [.ref h1, .int 0, .int 0, .int 2])), (h1, .inl (k0, 16, .inl f0))] U.heap ∧ va_K (dC, dI) vwCl [(k0, .byte)] U ∧ va_D (fun _ => True) [(h0, .inr (1, [.ref h1, .int 0, .int 0, .int 2])), (h1, .inl (k0, 16, .inl f0))] ∧ gv ge5 gea gv5 gva gde gic gi0 (va_A [(h0, .inr (1, [.ref h1, .int 0, .int 0, .int 2])), (h1, .inl (k0, 16, .inl f0))] sz) U U.heap)) (va_Qr (fun _ : Unit => True) (fun (_ : Unit) (ra : Nat) (t : State) => ∃ f3 : Nat → Int32, sb_Fit f3 ∧ ra = h0 ∧ va_P (dC, dI) vwCl [(h0, .inr (1, [.ref h1, .int 0, .int 0, .int 3])), (h1, .inl (k0, 16, .inl f3))] t.heap ∧ va_K (dC, dI) vwCl [(k0, .byte)] t ∧ va_D (va_A [(h0, .inr (1, [.ref h1, .int 0, .int 0, .int 2])), (h1, .inl (k0, 16, .inl f0))] sz) [(h0, .inr (1, [.ref h1, .int 0, .int 0, .int 3])), (h1, .inl (k0, 16, .inl f3))]) (va_A [(h0, .inr (1, [.ref h1, .int 0, .int 0, .int 2])), (h1, .inl (k0, 16, .inl f0))] sz)) 0 0 (va_A [(h0, .inr (1, [.ref h1, .int 0, .int 0, .int 2])), (h1, .inl (k0, 16, .inl f0))] sz) := by
  refine Met.ofW (cc := cJ5_append_3fe6f) (maxL := 2) (ret := (some (.object "java/lang/AbstractStringBuilder"))) (by decide) rfl ?_
  intro p e s m args below meth c s₁ B hml hv
  obtain ⟨rfl, hsz, hP, hK, hD0, hG⟩ := hv
  have hx := B.exec
  have hb := B.bytes
  have hr := B.returns
  have hts := atoms_spec (ws := wsJ5_append_3fe6f) B.pre
  have hown : s.vm.findClass RJ5 = some m.cls := findClass_of_methodNamed B.named
  have hlocks := B.notSynchronized
  subst hsz
  have hD := hD0.self (sz := s.heap.size)
  generalize hAe : va_A [(h0, .inr (1, [.ref h1, .int 0, .int 0, .int 2])), (h1, .inl (k0, 16, .inl f0))] s.heap.size = A at hD hG ⊢
  obtain ⟨⟨g_AO_Text, g_AO_String, g_AO_Object, g_nm_RX1_20, g_nm_RX0_17, g_nm_RX3_31, g_nm_RX2_44, g_nm_RL_121, g_nf_RL_13, g_nf_RL_47, g_ca_IO, g_ca_IA, g_ca_IS, g_ca_IntObj, g_ca_StrObj, g_de_RT, g_de_EX, g_de_TH, g_nc_IA_IO, g_nc_IS_IO, g_nc_IS_IA⟩, ⟨g_s3, g_s5, g_sa, g_x278, g_x280, g_x282, g_x284, g_x286, g_x180, g_x238, g_x250⟩, ⟨g_o5, g_c5, g_v5, g_t5, g_oa, g_ca, g_va, g_ta, g_zc, g_zd, g_td, g_zf, g_zU, g_zN, g_zh, g_zk, g_tk, g_oi, g_vi⟩⟩ := id hG
  have hA : ∀ q : Nat, s.heap.size ≤ q → A q := fun q h => by rw [← hAe]; exact Or.inr h
  have hS : va_S A s.heap s.heap [] := va_S.rf
  have hP : va_P (dC, dI) vwCl [(h0, .inr (1, [.ref h1, .int 0, .int 0, .int 2])), (h1, .inl (k0, 16, .inl f0))] s.heap := hP
  have hl := lv_entry ([.ref h0, .int 97]) (n := 2) (Nat.le_of_ble_eq_true rfl)
  rw [lg_entry_eq]
  generalize (lg_sl ([.ref h0, .int 97]) ++ List.replicate (2 - (lg_sl ([.ref h0, .int 97])).length) Slot.unset).toArray = ls at hl ⊢
  have hl : lv_has ls 2 [(0, .ref h0), (1, .int 97)] := hl
  refine lv_aload_n hx hb dJ5_append_3fe6f_0 rfl (lv_at hl 0 rfl) ?_
  refine lv_aload_n hx hb dJ5_append_3fe6f_1 rfl (lv_at hl 0 rfl) ?_
  refine va_get (D := (dC, dI)) (ci := 1) (v := .int 2) (C := RJ4) (T := TJ4) (N := 4) hx hb hts (by decide +kernel) hown hK hP 0 rfl rfl 3 (by decide) (hts (.fieldLink RJ5 79 "java/lang/AbstractStringBuilder" "count" "I") (by decide +kernel)) (fun _ h9 => h9) rfl dJ5_append_3fe6f_2 ?_
  refine lv_iconst (v := 1) hx hb dJ5_append_3fe6f_5 (by decide) ?_
  refine lv_iadd hx hb dJ5_append_3fe6f_6 ?_
  refine lv_topi (fun y1 ey1 => ?_)
  obtain rfl : y1 = 3 := ey1.trans (by decide)
  have hPc := hP.sub (ws' := [(h0, .inr (1, [.ref h1, .int 0, .int 0, .int 2])), (h1, .inl (k0, 16, .inl f0))]) [0, 1] rfl
  have hDc := hD.sub (ws' := [(h0, .inr (1, [.ref h1, .int 0, .int 0, .int 2])), (h1, .inl (k0, 16, .inl f0))]) [0, 1] (by decide) rfl
  have hKc := hK.sub (tys' := [(k0, .byte)]) [0] rfl
  have hFc := va_free (wc := [(h0, .inr (1, [.ref h1, .int 0, .int 0, .int 2])), (h1, .inl (k0, 16, .inl f0))]) hD hS hA [0, 1] rfl
  refine va_callv (va_runU (As := [.int 3]) (rest := []) ⟨hx, hb, hml, hown, hts⟩ (kx_J5_ensureCapacityInternal_d00df_7 l dC dI h0 h1 k0 s.heap.size f0 f0_t) (va_cwU 1 hts gJ5_append_3fe6f_J5_ensureCapacityInternal_d00df_u100J4 rfl rfl rfl rfl (by decide +kernel) ⟨Nat.le_of_ble_eq_true rfl, Nat.le_of_ble_eq_true rfl⟩) ⟨fun a U g mk q => by obtain ⟨q0, q1, qP, qK, qD⟩ := q; exact ⟨q0, q1, qP, va_K.moved (u := U) (U := U.calling g mk a) (Vm.Alike.refl U.vm) qK, qD⟩, va_recv hKc hPc (ci := 1) (q0 := 0) rfl rfl, fun U hU hW => ⟨rfl, by rw [hU], by rw [hU]; exact hPc, va_K.moved hW.alike hKc, hDc.weaken (fun _ _ _ _ => trivial)⟩⟩ rfl rfl hl.1 rfl (lv_room (Nat.le_of_ble_eq_true rfl)) dJ5_append_3fe6f_7 ⟨Nat.le_of_ble_eq_true rfl, Nat.le_of_ble_eq_true rfl⟩) hS (fun q _ h => hFc q h) hFc (fun u t H1 locs ht hvm hw hB hz1 hk1 hS => ?_)
  obtain ⟨hP1, hK1, hD1⟩ := hB
  rw [ht] at hP1
  have hK1 := va_K.moved hvm.symm hK1
  obtain ⟨hP, hD⟩ := va_join (wr := []) (w1 := [(h0, .inr (1, [.ref h1, .int 0, .int 0, .int 2])), (h1, .inl (k0, 16, .inl f0))]) hP hD [0, 1] [] rfl rfl (by decide) (by decide) hk1 hFc hP1 hD1
  generalize H1 = H at hP hS ⊢
  have hP : va_P (dC, dI) vwCl [(h0, .inr (1, [.ref h1, .int 0, .int 0, .int 2])), (h1, .inl (k0, 16, .inl f0))] H := hP
  have hD : va_D A [(h0, .inr (1, [.ref h1, .int 0, .int 0, .int 2])), (h1, .inl (k0, 16, .inl f0))] := hD
  refine lv_aload_n hx hb dJ5_append_3fe6f_10 rfl (lv_at hl 0 rfl) ?_
  have hPc := hP.sub (ws' := [(h0, .inr (1, [.ref h1, .int 0, .int 0, .int 2]))]) [0] rfl
  have hDc := hD.sub (ws' := [(h0, .inr (1, [.ref h1, .int 0, .int 0, .int 2]))]) [0] (by decide) rfl
  have hKc := hK.sub (tys' := []) [] rfl
  have hFc := va_free (wc := [(h0, .inr (1, [.ref h1, .int 0, .int 0, .int 2]))]) hD hS hA [0] rfl
  refine va_calli (va_runU (As := []) (rest := []) ⟨hx, hb, hml, hown, hts⟩ (kx_J5_isLatin1_aae02_2 l dC dI ge5 gea gv5 gva gde gic gi0 h0 h1 H.size) (va_cwU 0 hts gJ5_append_3fe6f_J5_isLatin1_aae02_u83J4 rfl rfl rfl rfl (by decide +kernel) ⟨Nat.le_of_ble_eq_true rfl, Nat.le_of_ble_eq_true rfl⟩) ⟨fun a U g mk q => by obtain ⟨q0, q1, qP, qK, qD, qG⟩ := q; exact ⟨q0, q1, qP, va_K.moved (u := U) (U := U.calling g mk a) (Vm.Alike.refl U.vm) qK, qD, gv.fb qG⟩, va_recv hKc hPc (ci := 1) (q0 := 0) rfl rfl, fun U hU hW => ⟨rfl, by rw [hU], by rw [hU]; exact hPc, va_K.moved hW.alike hKc, hDc.weaken (fun _ _ _ _ => trivial), gv.pass hW hU hS hFc hG⟩⟩ rfl rfl hl.1 rfl (lv_room (Nat.le_of_ble_eq_true rfl)) dJ5_append_3fe6f_11 ⟨Nat.le_of_ble_eq_true rfl, Nat.le_of_ble_eq_true rfl⟩) hS (fun q _ h => hFc q h) hFc (fun r9 u t H1 locs ht hvm hw hB hz1 hk1 hS => ?_)
  obtain rfl := hw
  obtain ⟨hP1, hK1, hD1⟩ := hB
  rw [ht] at hP1
  have hK1 := va_K.moved hvm.symm hK1
  obtain ⟨hP, hD⟩ := va_join (wr := [(h1, .inl (k0, 16, .inl f0))]) (w1 := [(h0, .inr (1, [.ref h1, .int 0, .int 0, .int 2]))]) hP hD [0] [1] rfl rfl (by decide) (by decide) hk1 hFc hP1 hD1
  generalize H1 = H at hP hS ⊢
  have hP : va_P (dC, dI) vwCl [(h1, .inl (k0, 16, .inl f0)), (h0, .inr (1, [.ref h1, .int 0, .int 0, .int 2]))] H := hP
  have hD : va_D A [(h1, .inl (k0, 16, .inl f0)), (h0, .inr (1, [.ref h1, .int 0, .int 0, .int 2]))] := hD
  refine lv_if_eq (tgt := 45) hx hb dJ5_append_3fe6f_14 (by decide) (fun c9 => absurd c9 (by decide)) (fun _ => ?_)
  refine lv_iload_n hx hb dJ5_append_3fe6f_17 rfl (lv_at hl 1 rfl) ?_
  have hPc := hP.sub (ws' := []) [] rfl
  have hDc := hD.sub (ws' := []) [] (by decide) rfl
  have hKc := hK.sub (tys' := []) [] rfl
  have hFc := va_free (wc := []) hD hS hA [] rfl
  refine va_calli (va_runS (As := [.int 97]) (rest := []) ⟨hx, hb, hml, hown, hts⟩ (kx_J1_canEncode_fc78d_0 l dC dI H.size) (va_cwS 1 hts gJ5_append_3fe6f_J1_canEncode_fc78d rfl rfl rfl (by decide +kernel) ⟨Nat.le_of_ble_eq_true rfl, Nat.le_of_ble_eq_true rfl⟩) ⟨fun a U g mk q => by obtain ⟨q0, q1, qP, qK, qD⟩ := q; exact ⟨q0, q1, qP, va_K.moved (u := U) (U := U.calling g mk a) (Vm.Alike.refl U.vm) qK, qD⟩, fun U hU hW => ⟨rfl, by rw [hU], by rw [hU]; exact hPc, va_K.moved hW.alike hKc, hDc.weaken (fun _ _ _ _ => trivial)⟩⟩ rfl rfl hl.1 rfl (lv_room (Nat.le_of_ble_eq_true rfl)) dJ5_append_3fe6f_18 ⟨Nat.le_of_ble_eq_true rfl, Nat.le_of_ble_eq_true rfl⟩) hS (fun q _ h => hFc q h) hFc (fun r9 u t H1 locs ht hvm hw hB hz1 hk1 hS => ?_)
  obtain rfl := hw
  obtain ⟨hP1, hK1, hD1⟩ := hB
  rw [ht] at hP1
  have hK1 := va_K.moved hvm.symm hK1
  obtain ⟨hP, hD⟩ := va_join (wr := [(h1, .inl (k0, 16, .inl f0)), (h0, .inr (1, [.ref h1, .int 0, .int 0, .int 2]))]) (w1 := []) hP hD [] [0, 1] rfl rfl (by decide) (by decide) hk1 hFc hP1 hD1
  generalize H1 = H at hP hS ⊢
  have hP : va_P (dC, dI) vwCl [(h1, .inl (k0, 16, .inl f0)), (h0, .inr (1, [.ref h1, .int 0, .int 0, .int 2]))] H := hP
  have hD : va_D A [(h1, .inl (k0, 16, .inl f0)), (h0, .inr (1, [.ref h1, .int 0, .int 0, .int 2]))] := hD
  refine lv_if_eq (tgt := 45) hx hb dJ5_append_3fe6f_21 (by decide) (fun c9 => absurd c9 (by decide)) (fun _ => ?_)
  refine lv_aload_n hx hb dJ5_append_3fe6f_24 rfl (lv_at hl 0 rfl) ?_
  refine va_get (D := (dC, dI)) (ci := 1) (v := .ref h1) (C := RJ4) (T := TJ4) (N := 4) hx hb hts (by decide +kernel) hown hK hP 1 rfl rfl 0 (by decide) (hts (.fieldLink RJ5 15 "java/lang/AbstractStringBuilder" "value" "[B") (by decide +kernel)) (fun _ h9 => h9) rfl dJ5_append_3fe6f_25 ?_
  refine lv_aload_n hx hb dJ5_append_3fe6f_28 rfl (lv_at hl 0 rfl) ?_
  refine lv_dup hx hb dJ5_append_3fe6f_29 rfl ?_
  refine va_get (D := (dC, dI)) (ci := 1) (v := .int 2) (C := RJ4) (T := TJ4) (N := 4) hx hb hts (by decide +kernel) hown hK hP 1 rfl rfl 3 (by decide) (hts (.fieldLink RJ5 79 "java/lang/AbstractStringBuilder" "count" "I") (by decide +kernel)) (fun _ h9 => h9) rfl dJ5_append_3fe6f_30 ?_
  refine lv_dup_x1 hx hb dJ5_append_3fe6f_33 rfl rfl ?_
  refine lv_iconst (v := 1) hx hb dJ5_append_3fe6f_34 (by decide) ?_
  refine lv_iadd hx hb dJ5_append_3fe6f_35 ?_
  refine lv_topi (fun y2 ey2 => ?_)
  obtain rfl : y2 = 3 := ey2.trans (by decide)
  refine va_put (D := (dC, dI)) (ci := 1) (v := .int 3) (ty := .int) (C := RJ4) (T := TJ4) (N := 4) hx hb hts (by decide +kernel) tyJ4 tyJ4_ok nmJ4 hown hK hP hD hS 1 rfl rfl 3 (by decide) (hts (.fieldLink RJ5 79 "java/lang/AbstractStringBuilder" "count" "I") (by decide +kernel)) (fun _ h9 => h9) rfl (by decide +kernel) rfl rfl (Nat.le_of_ble_eq_true rfl) dJ5_append_3fe6f_36 (fun H locs hP hD hS => ?_)
  have hP : va_P (dC, dI) vwCl [(h1, .inl (k0, 16, .inl f0)), (h0, .inr (1, [.ref h1, .int 0, .int 0, .int 3]))] H := hP
  have hD : va_D A [(h1, .inl (k0, 16, .inl f0)), (h0, .inr (1, [.ref h1, .int 0, .int 0, .int 3]))] := hD
  refine lv_iload_n hx hb dJ5_append_3fe6f_39 rfl (lv_at hl 1 rfl) ?_
  refine lv_i2b (v := 97) hx hb dJ5_append_3fe6f_40 (by decide) ?_
  refine va_bast (D := (dC, dI)) hx hb hK hP hD hS 0 0 rfl rfl (by unfold vp_in; decide) dJ5_append_3fe6f_41 (fun H locs hP hD hS => ?_)
  have hP : va_P (dC, dI) vwCl [(h1, .inl (k0, 16, .inl (upd f0 2 97))), (h0, .inr (1, [.ref h1, .int 0, .int 0, .int 3]))] H := hP
  have hD : va_D A [(h1, .inl (k0, 16, .inl (upd f0 2 97))), (h0, .inr (1, [.ref h1, .int 0, .int 0, .int 3]))] := hD
  obtain ⟨f3, hf3⟩ : ∃ f : Nat → Int32, f = upd f0 2 97 := ⟨_, rfl⟩
  have f3_t : sb_Fit f3 := by rw [hf3]; exact sb_fitU f0_t (by decide)
  rw [← hf3] at hP hD
  refine lv_goto (tgt := 75) hx hb dJ5_append_3fe6f_42 (by decide) ?_
  refine lv_aload_n hx hb dJ5_append_3fe6f_75 rfl (lv_at hl 0 rfl) ?_
  have hP := hP.sub (ws' := [(h0, .inr (1, [.ref h1, .int 0, .int 0, .int 3])), (h1, .inl (k0, 16, .inl f3))]) [1, 0] rfl
  have hD := hD.sub (ws' := [(h0, .inr (1, [.ref h1, .int 0, .int 0, .int 3])), (h1, .inl (k0, 16, .inl f3))]) [1, 0] (by decide) rfl
  exact W.aret (v := .ref h0) hx hb hr (Or.inl ⟨_, rfl⟩) (Or.inr ⟨_, rfl⟩) (fun t ht hW => ⟨⟨(), h0, rfl, trivial, f3, f3_t, rfl, by rw [ht]; exact hP, va_K.moved hW.alike hK, hD⟩, hS.F ht⟩) hS.2.2 dJ5_append_3fe6f_76
set_option maxHeartbeats 4000000 in
set_option maxRecDepth 100000 in
theorem kx_J4_append_cf468_8 (l : Launch) (dC : Nat → ClassId) (dI : Nat → Nat → Nat) (ge5 gea gv5 gva gde gic gi0 : Nat) (h0 : Nat) (h1 : Nat) (k0 : ClassId) (sz : Nat) (f0 : Nat → Int32) (f0_t : sb_Fit f0) : Met l yJ4_append_cf468 wsJ4_append_cf468 ({ frames := 2, cells := 0, slots := 0, locals := 43 }) (va_Pc [.ref h0, .int 97] (fun U => U.heap.size = sz ∧ va_P (dC, dI) vwCl [(h0, .inr (1, [.ref h1, .int 0, .int 0, .int 2])), (h1, .inl (k0, 16, .inl f0))] U.heap ∧ va_K (dC, dI) vwCl [(k0, .byte)] U ∧ va_D (fun _ => True) [(h0, .inr (1, [.ref h1, .int 0, .int 0, .int 2])), (h1, .inl (k0, 16, .inl f0))] ∧ gv ge5 gea gv5 gva gde gic gi0 (va_A [(h0, .inr (1, [.ref h1, .int 0, .int 0, .int 2])), (h1, .inl (k0, 16, .inl f0))] sz) U U.heap)) (va_Qr (fun _ : Unit => True) (fun (_ : Unit) (ra : Nat) (t : State) => ∃ f1 : Nat → Int32, sb_Fit f1 ∧ ra = h0 ∧ va_P (dC, dI) vwCl [(h0, .inr (1, [.ref h1, .int 0, .int 0, .int 3])), (h1, .inl (k0, 16, .inl f1))] t.heap ∧ va_K (dC, dI) vwCl [(k0, .byte)] t ∧ va_D (va_A [(h0, .inr (1, [.ref h1, .int 0, .int 0, .int 2])), (h1, .inl (k0, 16, .inl f0))] sz) [(h0, .inr (1, [.ref h1, .int 0, .int 0, .int 3])), (h1, .inl (k0, 16, .inl f1))]) (va_A [(h0, .inr (1, [.ref h1, .int 0, .int 0, .int 2])), (h1, .inl (k0, 16, .inl f0))] sz)) 0 0 (va_A [(h0, .inr (1, [.ref h1, .int 0, .int 0, .int 2])), (h1, .inl (k0, 16, .inl f0))] sz) := by
  refine Met.ofW (cc := cJ4_append_cf468) (maxL := 2) (ret := (some (.object "java/lang/StringBuilder"))) (by decide) rfl ?_
  intro p e s m args below meth c s₁ B hml hv
  obtain ⟨rfl, hsz, hP, hK, hD0, hG⟩ := hv
  have hx := B.exec
  have hb := B.bytes
  have hr := B.returns
  have hts := atoms_spec (ws := wsJ4_append_cf468) B.pre
  have hown : s.vm.findClass RJ4 = some m.cls := findClass_of_methodNamed B.named
  have hlocks := B.notSynchronized
  subst hsz
  have hD := hD0.self (sz := s.heap.size)
  generalize hAe : va_A [(h0, .inr (1, [.ref h1, .int 0, .int 0, .int 2])), (h1, .inl (k0, 16, .inl f0))] s.heap.size = A at hD hG ⊢
  obtain ⟨⟨g_AO_Text, g_AO_String, g_AO_Object, g_nm_RX1_20, g_nm_RX0_17, g_nm_RX3_31, g_nm_RX2_44, g_nm_RL_121, g_nf_RL_13, g_nf_RL_47, g_ca_IO, g_ca_IA, g_ca_IS, g_ca_IntObj, g_ca_StrObj, g_de_RT, g_de_EX, g_de_TH, g_nc_IA_IO, g_nc_IS_IO, g_nc_IS_IA⟩, ⟨g_s3, g_s5, g_sa, g_x278, g_x280, g_x282, g_x284, g_x286, g_x180, g_x238, g_x250⟩, ⟨g_o5, g_c5, g_v5, g_t5, g_oa, g_ca, g_va, g_ta, g_zc, g_zd, g_td, g_zf, g_zU, g_zN, g_zh, g_zk, g_tk, g_oi, g_vi⟩⟩ := id hG
  have hA : ∀ q : Nat, s.heap.size ≤ q → A q := fun q h => by rw [← hAe]; exact Or.inr h
  have hS : va_S A s.heap s.heap [] := va_S.rf
  have hP : va_P (dC, dI) vwCl [(h0, .inr (1, [.ref h1, .int 0, .int 0, .int 2])), (h1, .inl (k0, 16, .inl f0))] s.heap := hP
  have hl := lv_entry ([.ref h0, .int 97]) (n := 2) (Nat.le_of_ble_eq_true rfl)
  rw [lg_entry_eq]
  generalize (lg_sl ([.ref h0, .int 97]) ++ List.replicate (2 - (lg_sl ([.ref h0, .int 97])).length) Slot.unset).toArray = ls at hl ⊢
  have hl : lv_has ls 2 [(0, .ref h0), (1, .int 97)] := hl
  refine lv_aload_n hx hb dJ4_append_cf468_0 rfl (lv_at hl 0 rfl) ?_
  refine lv_iload_n hx hb dJ4_append_cf468_1 rfl (lv_at hl 1 rfl) ?_
  have hPc := hP.sub (ws' := [(h0, .inr (1, [.ref h1, .int 0, .int 0, .int 2])), (h1, .inl (k0, 16, .inl f0))]) [0, 1] rfl
  have hDc := hD.sub (ws' := [(h0, .inr (1, [.ref h1, .int 0, .int 0, .int 2])), (h1, .inl (k0, 16, .inl f0))]) [0, 1] (by decide) rfl
  have hKc := hK.sub (tys' := [(k0, .byte)]) [0] rfl
  have hFc := va_free (wc := [(h0, .inr (1, [.ref h1, .int 0, .int 0, .int 2])), (h1, .inl (k0, 16, .inl f0))]) hD hS hA [0, 1] rfl
  refine va_callr (va_runSU (hK.1 1 _ rfl).2 (As := [.int 97]) (rest := []) ⟨hx, hb, hml, hown, hts⟩ (kx_J5_append_3fe6f_8 l dC dI ge5 gea gv5 gva gde gic gi0 h0 h1 k0 s.heap.size f0 f0_t) (va_cwSU 1 hts gJ4_append_cf468_J5_append_3fe6f_s50 rfl rfl rfl (by decide +kernel) ⟨Nat.le_of_ble_eq_true rfl, Nat.le_of_ble_eq_true rfl⟩) ⟨fun a U g mk q => by obtain ⟨q0, q1, qP, qK, qD, qG⟩ := q; exact ⟨q0, q1, qP, va_K.moved (u := U) (U := U.calling g mk a) (Vm.Alike.refl U.vm) qK, qD, gv.fb qG⟩, va_recv hKc hPc (ci := 1) (q0 := 0) rfl rfl, fun U hU hW => ⟨rfl, by rw [hU], by rw [hU]; exact hPc, va_K.moved hW.alike hKc, hDc.weaken (fun _ _ _ _ => trivial), gv.pass hW hU hS hFc hG⟩⟩ rfl rfl hl.1 rfl (lv_room (Nat.le_of_ble_eq_true rfl)) dJ4_append_cf468_2 ⟨Nat.le_of_ble_eq_true rfl, Nat.le_of_ble_eq_true rfl⟩) hS (fun q _ h => hFc q h) hFc (fun u ra t H1 locs ht hvm hw hB hz1 hk1 hS => ?_)
  obtain ⟨f1, f1_t, hra, hP1, hK1, hD1⟩ := hB
  rw [hra]
  rw [ht] at hP1
  have hK1 := va_K.moved hvm.symm hK1
  obtain ⟨hP, hD⟩ := va_join (wr := []) (w1 := [(h0, .inr (1, [.ref h1, .int 0, .int 0, .int 3])), (h1, .inl (k0, 16, .inl f1))]) hP hD [0, 1] [] rfl rfl (by decide) (by decide) hk1 hFc hP1 hD1
  generalize H1 = H at hP hS ⊢
  have hP : va_P (dC, dI) vwCl [(h0, .inr (1, [.ref h1, .int 0, .int 0, .int 3])), (h1, .inl (k0, 16, .inl f1))] H := hP
  have hD : va_D A [(h0, .inr (1, [.ref h1, .int 0, .int 0, .int 3])), (h1, .inl (k0, 16, .inl f1))] := hD
  refine lv_pop hx hb dJ4_append_cf468_5 rfl ?_
  refine lv_aload_n hx hb dJ4_append_cf468_6 rfl (lv_at hl 0 rfl) ?_
  exact W.aret (v := .ref h0) hx hb hr (Or.inl ⟨_, rfl⟩) (Or.inr ⟨_, rfl⟩) (fun t ht hW => ⟨⟨(), h0, rfl, trivial, f1, f1_t, rfl, by rw [ht]; exact hP, va_K.moved hW.alike hK, hD⟩, hS.F ht⟩) hS.2.2 dJ4_append_cf468_7
set_option maxHeartbeats 4000000 in
set_option maxRecDepth 100000 in
theorem kx_J5_append_3fe6f_9 (l : Launch) (dC : Nat → ClassId) (dI : Nat → Nat → Nat) (ge5 gea gv5 gva gde gic gi0 : Nat) (h0 : Nat) (h1 : Nat) (k0 : ClassId) (sz : Nat) (f0 : Nat → Int32) (f0_t : sb_Fit f0) : Met l yJ5_append_3fe6f wsJ5_append_3fe6f ({ frames := 1, cells := 0, slots := 0, locals := 22 }) (va_Pc [.ref h0, .int 98] (fun U => U.heap.size = sz ∧ va_P (dC, dI) vwCl [(h0, .inr (1, [.ref h1, .int 0, .int 0, .int 2])), (h1, .inl (k0, 16, .inl f0))] U.heap ∧ va_K (dC, dI) vwCl [(k0, .byte)] U ∧ va_D (fun _ => True) [(h0, .inr (1, [.ref h1, .int 0, .int 0, .int 2])), (h1, .inl (k0, 16, .inl f0))] ∧ gv ge5 gea gv5 gva gde gic gi0 (va_A [(h0, .inr (1, [.ref h1, .int 0, .int 0, .int 2])), (h1, .inl (k0, 16, .inl f0))] sz) U U.heap)) (va_Qr (fun _ : Unit => True) (fun (_ : Unit) (ra : Nat) (t : State) => ∃ f3 : Nat → Int32, sb_Fit f3 ∧ ra = h0 ∧ va_P (dC, dI) vwCl [(h0, .inr (1, [.ref h1, .int 0, .int 0, .int 3])), (h1, .inl (k0, 16, .inl f3))] t.heap ∧ va_K (dC, dI) vwCl [(k0, .byte)] t ∧ va_D (va_A [(h0, .inr (1, [.ref h1, .int 0, .int 0, .int 2])), (h1, .inl (k0, 16, .inl f0))] sz) [(h0, .inr (1, [.ref h1, .int 0, .int 0, .int 3])), (h1, .inl (k0, 16, .inl f3))]) (va_A [(h0, .inr (1, [.ref h1, .int 0, .int 0, .int 2])), (h1, .inl (k0, 16, .inl f0))] sz)) 0 0 (va_A [(h0, .inr (1, [.ref h1, .int 0, .int 0, .int 2])), (h1, .inl (k0, 16, .inl f0))] sz) := by
  refine Met.ofW (cc := cJ5_append_3fe6f) (maxL := 2) (ret := (some (.object "java/lang/AbstractStringBuilder"))) (by decide) rfl ?_
  intro p e s m args below meth c s₁ B hml hv
  obtain ⟨rfl, hsz, hP, hK, hD0, hG⟩ := hv
  have hx := B.exec
  have hb := B.bytes
  have hr := B.returns
  have hts := atoms_spec (ws := wsJ5_append_3fe6f) B.pre
  have hown : s.vm.findClass RJ5 = some m.cls := findClass_of_methodNamed B.named
  have hlocks := B.notSynchronized
  subst hsz
  have hD := hD0.self (sz := s.heap.size)
  generalize hAe : va_A [(h0, .inr (1, [.ref h1, .int 0, .int 0, .int 2])), (h1, .inl (k0, 16, .inl f0))] s.heap.size = A at hD hG ⊢
  obtain ⟨⟨g_AO_Text, g_AO_String, g_AO_Object, g_nm_RX1_20, g_nm_RX0_17, g_nm_RX3_31, g_nm_RX2_44, g_nm_RL_121, g_nf_RL_13, g_nf_RL_47, g_ca_IO, g_ca_IA, g_ca_IS, g_ca_IntObj, g_ca_StrObj, g_de_RT, g_de_EX, g_de_TH, g_nc_IA_IO, g_nc_IS_IO, g_nc_IS_IA⟩, ⟨g_s3, g_s5, g_sa, g_x278, g_x280, g_x282, g_x284, g_x286, g_x180, g_x238, g_x250⟩, ⟨g_o5, g_c5, g_v5, g_t5, g_oa, g_ca, g_va, g_ta, g_zc, g_zd, g_td, g_zf, g_zU, g_zN, g_zh, g_zk, g_tk, g_oi, g_vi⟩⟩ := id hG
  have hA : ∀ q : Nat, s.heap.size ≤ q → A q := fun q h => by rw [← hAe]; exact Or.inr h
  have hS : va_S A s.heap s.heap [] := va_S.rf
  have hP : va_P (dC, dI) vwCl [(h0, .inr (1, [.ref h1, .int 0, .int 0, .int 2])), (h1, .inl (k0, 16, .inl f0))] s.heap := hP
  have hl := lv_entry ([.ref h0, .int 98]) (n := 2) (Nat.le_of_ble_eq_true rfl)
  rw [lg_entry_eq]
  generalize (lg_sl ([.ref h0, .int 98]) ++ List.replicate (2 - (lg_sl ([.ref h0, .int 98])).length) Slot.unset).toArray = ls at hl ⊢
  have hl : lv_has ls 2 [(0, .ref h0), (1, .int 98)] := hl
  refine lv_aload_n hx hb dJ5_append_3fe6f_0 rfl (lv_at hl 0 rfl) ?_
  refine lv_aload_n hx hb dJ5_append_3fe6f_1 rfl (lv_at hl 0 rfl) ?_
  refine va_get (D := (dC, dI)) (ci := 1) (v := .int 2) (C := RJ4) (T := TJ4) (N := 4) hx hb hts (by decide +kernel) hown hK hP 0 rfl rfl 3 (by decide) (hts (.fieldLink RJ5 79 "java/lang/AbstractStringBuilder" "count" "I") (by decide +kernel)) (fun _ h9 => h9) rfl dJ5_append_3fe6f_2 ?_
  refine lv_iconst (v := 1) hx hb dJ5_append_3fe6f_5 (by decide) ?_
  refine lv_iadd hx hb dJ5_append_3fe6f_6 ?_
  refine lv_topi (fun y1 ey1 => ?_)
  obtain rfl : y1 = 3 := ey1.trans (by decide)
  have hPc := hP.sub (ws' := [(h0, .inr (1, [.ref h1, .int 0, .int 0, .int 2])), (h1, .inl (k0, 16, .inl f0))]) [0, 1] rfl
  have hDc := hD.sub (ws' := [(h0, .inr (1, [.ref h1, .int 0, .int 0, .int 2])), (h1, .inl (k0, 16, .inl f0))]) [0, 1] (by decide) rfl
  have hKc := hK.sub (tys' := [(k0, .byte)]) [0] rfl
  have hFc := va_free (wc := [(h0, .inr (1, [.ref h1, .int 0, .int 0, .int 2])), (h1, .inl (k0, 16, .inl f0))]) hD hS hA [0, 1] rfl
  refine va_callv (va_runU (As := [.int 3]) (rest := []) ⟨hx, hb, hml, hown, hts⟩ (kx_J5_ensureCapacityInternal_d00df_7 l dC dI h0 h1 k0 s.heap.size f0 f0_t) (va_cwU 1 hts gJ5_append_3fe6f_J5_ensureCapacityInternal_d00df_u100J4 rfl rfl rfl rfl (by decide +kernel) ⟨Nat.le_of_ble_eq_true rfl, Nat.le_of_ble_eq_true rfl⟩) ⟨fun a U g mk q => by obtain ⟨q0, q1, qP, qK, qD⟩ := q; exact ⟨q0, q1, qP, va_K.moved (u := U) (U := U.calling g mk a) (Vm.Alike.refl U.vm) qK, qD⟩, va_recv hKc hPc (ci := 1) (q0 := 0) rfl rfl, fun U hU hW => ⟨rfl, by rw [hU], by rw [hU]; exact hPc, va_K.moved hW.alike hKc, hDc.weaken (fun _ _ _ _ => trivial)⟩⟩ rfl rfl hl.1 rfl (lv_room (Nat.le_of_ble_eq_true rfl)) dJ5_append_3fe6f_7 ⟨Nat.le_of_ble_eq_true rfl, Nat.le_of_ble_eq_true rfl⟩) hS (fun q _ h => hFc q h) hFc (fun u t H1 locs ht hvm hw hB hz1 hk1 hS => ?_)
  obtain ⟨hP1, hK1, hD1⟩ := hB
  rw [ht] at hP1
  have hK1 := va_K.moved hvm.symm hK1
  obtain ⟨hP, hD⟩ := va_join (wr := []) (w1 := [(h0, .inr (1, [.ref h1, .int 0, .int 0, .int 2])), (h1, .inl (k0, 16, .inl f0))]) hP hD [0, 1] [] rfl rfl (by decide) (by decide) hk1 hFc hP1 hD1
  generalize H1 = H at hP hS ⊢
  have hP : va_P (dC, dI) vwCl [(h0, .inr (1, [.ref h1, .int 0, .int 0, .int 2])), (h1, .inl (k0, 16, .inl f0))] H := hP
  have hD : va_D A [(h0, .inr (1, [.ref h1, .int 0, .int 0, .int 2])), (h1, .inl (k0, 16, .inl f0))] := hD
  refine lv_aload_n hx hb dJ5_append_3fe6f_10 rfl (lv_at hl 0 rfl) ?_
  have hPc := hP.sub (ws' := [(h0, .inr (1, [.ref h1, .int 0, .int 0, .int 2]))]) [0] rfl
  have hDc := hD.sub (ws' := [(h0, .inr (1, [.ref h1, .int 0, .int 0, .int 2]))]) [0] (by decide) rfl
  have hKc := hK.sub (tys' := []) [] rfl
  have hFc := va_free (wc := [(h0, .inr (1, [.ref h1, .int 0, .int 0, .int 2]))]) hD hS hA [0] rfl
  refine va_calli (va_runU (As := []) (rest := []) ⟨hx, hb, hml, hown, hts⟩ (kx_J5_isLatin1_aae02_2 l dC dI ge5 gea gv5 gva gde gic gi0 h0 h1 H.size) (va_cwU 0 hts gJ5_append_3fe6f_J5_isLatin1_aae02_u83J4 rfl rfl rfl rfl (by decide +kernel) ⟨Nat.le_of_ble_eq_true rfl, Nat.le_of_ble_eq_true rfl⟩) ⟨fun a U g mk q => by obtain ⟨q0, q1, qP, qK, qD, qG⟩ := q; exact ⟨q0, q1, qP, va_K.moved (u := U) (U := U.calling g mk a) (Vm.Alike.refl U.vm) qK, qD, gv.fb qG⟩, va_recv hKc hPc (ci := 1) (q0 := 0) rfl rfl, fun U hU hW => ⟨rfl, by rw [hU], by rw [hU]; exact hPc, va_K.moved hW.alike hKc, hDc.weaken (fun _ _ _ _ => trivial), gv.pass hW hU hS hFc hG⟩⟩ rfl rfl hl.1 rfl (lv_room (Nat.le_of_ble_eq_true rfl)) dJ5_append_3fe6f_11 ⟨Nat.le_of_ble_eq_true rfl, Nat.le_of_ble_eq_true rfl⟩) hS (fun q _ h => hFc q h) hFc (fun r9 u t H1 locs ht hvm hw hB hz1 hk1 hS => ?_)
  obtain rfl := hw
  obtain ⟨hP1, hK1, hD1⟩ := hB
  rw [ht] at hP1
  have hK1 := va_K.moved hvm.symm hK1
  obtain ⟨hP, hD⟩ := va_join (wr := [(h1, .inl (k0, 16, .inl f0))]) (w1 := [(h0, .inr (1, [.ref h1, .int 0, .int 0, .int 2]))]) hP hD [0] [1] rfl rfl (by decide) (by decide) hk1 hFc hP1 hD1
  generalize H1 = H at hP hS ⊢
  have hP : va_P (dC, dI) vwCl [(h1, .inl (k0, 16, .inl f0)), (h0, .inr (1, [.ref h1, .int 0, .int 0, .int 2]))] H := hP
  have hD : va_D A [(h1, .inl (k0, 16, .inl f0)), (h0, .inr (1, [.ref h1, .int 0, .int 0, .int 2]))] := hD
  refine lv_if_eq (tgt := 45) hx hb dJ5_append_3fe6f_14 (by decide) (fun c9 => absurd c9 (by decide)) (fun _ => ?_)
  refine lv_iload_n hx hb dJ5_append_3fe6f_17 rfl (lv_at hl 1 rfl) ?_
  have hPc := hP.sub (ws' := []) [] rfl
  have hDc := hD.sub (ws' := []) [] (by decide) rfl
  have hKc := hK.sub (tys' := []) [] rfl
  have hFc := va_free (wc := []) hD hS hA [] rfl
  refine va_calli (va_runS (As := [.int 98]) (rest := []) ⟨hx, hb, hml, hown, hts⟩ (kx_J1_canEncode_fc78d_1 l dC dI H.size) (va_cwS 1 hts gJ5_append_3fe6f_J1_canEncode_fc78d rfl rfl rfl (by decide +kernel) ⟨Nat.le_of_ble_eq_true rfl, Nat.le_of_ble_eq_true rfl⟩) ⟨fun a U g mk q => by obtain ⟨q0, q1, qP, qK, qD⟩ := q; exact ⟨q0, q1, qP, va_K.moved (u := U) (U := U.calling g mk a) (Vm.Alike.refl U.vm) qK, qD⟩, fun U hU hW => ⟨rfl, by rw [hU], by rw [hU]; exact hPc, va_K.moved hW.alike hKc, hDc.weaken (fun _ _ _ _ => trivial)⟩⟩ rfl rfl hl.1 rfl (lv_room (Nat.le_of_ble_eq_true rfl)) dJ5_append_3fe6f_18 ⟨Nat.le_of_ble_eq_true rfl, Nat.le_of_ble_eq_true rfl⟩) hS (fun q _ h => hFc q h) hFc (fun r9 u t H1 locs ht hvm hw hB hz1 hk1 hS => ?_)
  obtain rfl := hw
  obtain ⟨hP1, hK1, hD1⟩ := hB
  rw [ht] at hP1
  have hK1 := va_K.moved hvm.symm hK1
  obtain ⟨hP, hD⟩ := va_join (wr := [(h1, .inl (k0, 16, .inl f0)), (h0, .inr (1, [.ref h1, .int 0, .int 0, .int 2]))]) (w1 := []) hP hD [] [0, 1] rfl rfl (by decide) (by decide) hk1 hFc hP1 hD1
  generalize H1 = H at hP hS ⊢
  have hP : va_P (dC, dI) vwCl [(h1, .inl (k0, 16, .inl f0)), (h0, .inr (1, [.ref h1, .int 0, .int 0, .int 2]))] H := hP
  have hD : va_D A [(h1, .inl (k0, 16, .inl f0)), (h0, .inr (1, [.ref h1, .int 0, .int 0, .int 2]))] := hD
  refine lv_if_eq (tgt := 45) hx hb dJ5_append_3fe6f_21 (by decide) (fun c9 => absurd c9 (by decide)) (fun _ => ?_)
  refine lv_aload_n hx hb dJ5_append_3fe6f_24 rfl (lv_at hl 0 rfl) ?_
  refine va_get (D := (dC, dI)) (ci := 1) (v := .ref h1) (C := RJ4) (T := TJ4) (N := 4) hx hb hts (by decide +kernel) hown hK hP 1 rfl rfl 0 (by decide) (hts (.fieldLink RJ5 15 "java/lang/AbstractStringBuilder" "value" "[B") (by decide +kernel)) (fun _ h9 => h9) rfl dJ5_append_3fe6f_25 ?_
  refine lv_aload_n hx hb dJ5_append_3fe6f_28 rfl (lv_at hl 0 rfl) ?_
  refine lv_dup hx hb dJ5_append_3fe6f_29 rfl ?_
  refine va_get (D := (dC, dI)) (ci := 1) (v := .int 2) (C := RJ4) (T := TJ4) (N := 4) hx hb hts (by decide +kernel) hown hK hP 1 rfl rfl 3 (by decide) (hts (.fieldLink RJ5 79 "java/lang/AbstractStringBuilder" "count" "I") (by decide +kernel)) (fun _ h9 => h9) rfl dJ5_append_3fe6f_30 ?_
  refine lv_dup_x1 hx hb dJ5_append_3fe6f_33 rfl rfl ?_
  refine lv_iconst (v := 1) hx hb dJ5_append_3fe6f_34 (by decide) ?_
  refine lv_iadd hx hb dJ5_append_3fe6f_35 ?_
  refine lv_topi (fun y2 ey2 => ?_)
  obtain rfl : y2 = 3 := ey2.trans (by decide)
  refine va_put (D := (dC, dI)) (ci := 1) (v := .int 3) (ty := .int) (C := RJ4) (T := TJ4) (N := 4) hx hb hts (by decide +kernel) tyJ4 tyJ4_ok nmJ4 hown hK hP hD hS 1 rfl rfl 3 (by decide) (hts (.fieldLink RJ5 79 "java/lang/AbstractStringBuilder" "count" "I") (by decide +kernel)) (fun _ h9 => h9) rfl (by decide +kernel) rfl rfl (Nat.le_of_ble_eq_true rfl) dJ5_append_3fe6f_36 (fun H locs hP hD hS => ?_)
  have hP : va_P (dC, dI) vwCl [(h1, .inl (k0, 16, .inl f0)), (h0, .inr (1, [.ref h1, .int 0, .int 0, .int 3]))] H := hP
  have hD : va_D A [(h1, .inl (k0, 16, .inl f0)), (h0, .inr (1, [.ref h1, .int 0, .int 0, .int 3]))] := hD
  refine lv_iload_n hx hb dJ5_append_3fe6f_39 rfl (lv_at hl 1 rfl) ?_
  refine lv_i2b (v := 98) hx hb dJ5_append_3fe6f_40 (by decide) ?_
  refine va_bast (D := (dC, dI)) hx hb hK hP hD hS 0 0 rfl rfl (by unfold vp_in; decide) dJ5_append_3fe6f_41 (fun H locs hP hD hS => ?_)
  have hP : va_P (dC, dI) vwCl [(h1, .inl (k0, 16, .inl (upd f0 2 98))), (h0, .inr (1, [.ref h1, .int 0, .int 0, .int 3]))] H := hP
  have hD : va_D A [(h1, .inl (k0, 16, .inl (upd f0 2 98))), (h0, .inr (1, [.ref h1, .int 0, .int 0, .int 3]))] := hD
  obtain ⟨f3, hf3⟩ : ∃ f : Nat → Int32, f = upd f0 2 98 := ⟨_, rfl⟩
  have f3_t : sb_Fit f3 := by rw [hf3]; exact sb_fitU f0_t (by decide)
  rw [← hf3] at hP hD
  refine lv_goto (tgt := 75) hx hb dJ5_append_3fe6f_42 (by decide) ?_
  refine lv_aload_n hx hb dJ5_append_3fe6f_75 rfl (lv_at hl 0 rfl) ?_
  have hP := hP.sub (ws' := [(h0, .inr (1, [.ref h1, .int 0, .int 0, .int 3])), (h1, .inl (k0, 16, .inl f3))]) [1, 0] rfl
  have hD := hD.sub (ws' := [(h0, .inr (1, [.ref h1, .int 0, .int 0, .int 3])), (h1, .inl (k0, 16, .inl f3))]) [1, 0] (by decide) rfl
  exact W.aret (v := .ref h0) hx hb hr (Or.inl ⟨_, rfl⟩) (Or.inr ⟨_, rfl⟩) (fun t ht hW => ⟨⟨(), h0, rfl, trivial, f3, f3_t, rfl, by rw [ht]; exact hP, va_K.moved hW.alike hK, hD⟩, hS.F ht⟩) hS.2.2 dJ5_append_3fe6f_76
set_option maxHeartbeats 4000000 in
set_option maxRecDepth 100000 in
theorem kx_J4_append_cf468_9 (l : Launch) (dC : Nat → ClassId) (dI : Nat → Nat → Nat) (ge5 gea gv5 gva gde gic gi0 : Nat) (h0 : Nat) (h1 : Nat) (k0 : ClassId) (sz : Nat) (f0 : Nat → Int32) (f0_t : sb_Fit f0) : Met l yJ4_append_cf468 wsJ4_append_cf468 ({ frames := 2, cells := 0, slots := 0, locals := 43 }) (va_Pc [.ref h0, .int 98] (fun U => U.heap.size = sz ∧ va_P (dC, dI) vwCl [(h0, .inr (1, [.ref h1, .int 0, .int 0, .int 2])), (h1, .inl (k0, 16, .inl f0))] U.heap ∧ va_K (dC, dI) vwCl [(k0, .byte)] U ∧ va_D (fun _ => True) [(h0, .inr (1, [.ref h1, .int 0, .int 0, .int 2])), (h1, .inl (k0, 16, .inl f0))] ∧ gv ge5 gea gv5 gva gde gic gi0 (va_A [(h0, .inr (1, [.ref h1, .int 0, .int 0, .int 2])), (h1, .inl (k0, 16, .inl f0))] sz) U U.heap)) (va_Qr (fun _ : Unit => True) (fun (_ : Unit) (ra : Nat) (t : State) => ∃ f1 : Nat → Int32, sb_Fit f1 ∧ ra = h0 ∧ va_P (dC, dI) vwCl [(h0, .inr (1, [.ref h1, .int 0, .int 0, .int 3])), (h1, .inl (k0, 16, .inl f1))] t.heap ∧ va_K (dC, dI) vwCl [(k0, .byte)] t ∧ va_D (va_A [(h0, .inr (1, [.ref h1, .int 0, .int 0, .int 2])), (h1, .inl (k0, 16, .inl f0))] sz) [(h0, .inr (1, [.ref h1, .int 0, .int 0, .int 3])), (h1, .inl (k0, 16, .inl f1))]) (va_A [(h0, .inr (1, [.ref h1, .int 0, .int 0, .int 2])), (h1, .inl (k0, 16, .inl f0))] sz)) 0 0 (va_A [(h0, .inr (1, [.ref h1, .int 0, .int 0, .int 2])), (h1, .inl (k0, 16, .inl f0))] sz) := by
  refine Met.ofW (cc := cJ4_append_cf468) (maxL := 2) (ret := (some (.object "java/lang/StringBuilder"))) (by decide) rfl ?_
  intro p e s m args below meth c s₁ B hml hv
  obtain ⟨rfl, hsz, hP, hK, hD0, hG⟩ := hv
  have hx := B.exec
  have hb := B.bytes
  have hr := B.returns
  have hts := atoms_spec (ws := wsJ4_append_cf468) B.pre
  have hown : s.vm.findClass RJ4 = some m.cls := findClass_of_methodNamed B.named
  have hlocks := B.notSynchronized
  subst hsz
  have hD := hD0.self (sz := s.heap.size)
  generalize hAe : va_A [(h0, .inr (1, [.ref h1, .int 0, .int 0, .int 2])), (h1, .inl (k0, 16, .inl f0))] s.heap.size = A at hD hG ⊢
  obtain ⟨⟨g_AO_Text, g_AO_String, g_AO_Object, g_nm_RX1_20, g_nm_RX0_17, g_nm_RX3_31, g_nm_RX2_44, g_nm_RL_121, g_nf_RL_13, g_nf_RL_47, g_ca_IO, g_ca_IA, g_ca_IS, g_ca_IntObj, g_ca_StrObj, g_de_RT, g_de_EX, g_de_TH, g_nc_IA_IO, g_nc_IS_IO, g_nc_IS_IA⟩, ⟨g_s3, g_s5, g_sa, g_x278, g_x280, g_x282, g_x284, g_x286, g_x180, g_x238, g_x250⟩, ⟨g_o5, g_c5, g_v5, g_t5, g_oa, g_ca, g_va, g_ta, g_zc, g_zd, g_td, g_zf, g_zU, g_zN, g_zh, g_zk, g_tk, g_oi, g_vi⟩⟩ := id hG
  have hA : ∀ q : Nat, s.heap.size ≤ q → A q := fun q h => by rw [← hAe]; exact Or.inr h
  have hS : va_S A s.heap s.heap [] := va_S.rf
  have hP : va_P (dC, dI) vwCl [(h0, .inr (1, [.ref h1, .int 0, .int 0, .int 2])), (h1, .inl (k0, 16, .inl f0))] s.heap := hP
  have hl := lv_entry ([.ref h0, .int 98]) (n := 2) (Nat.le_of_ble_eq_true rfl)
  rw [lg_entry_eq]
  generalize (lg_sl ([.ref h0, .int 98]) ++ List.replicate (2 - (lg_sl ([.ref h0, .int 98])).length) Slot.unset).toArray = ls at hl ⊢
  have hl : lv_has ls 2 [(0, .ref h0), (1, .int 98)] := hl
  refine lv_aload_n hx hb dJ4_append_cf468_0 rfl (lv_at hl 0 rfl) ?_
  refine lv_iload_n hx hb dJ4_append_cf468_1 rfl (lv_at hl 1 rfl) ?_
  have hPc := hP.sub (ws' := [(h0, .inr (1, [.ref h1, .int 0, .int 0, .int 2])), (h1, .inl (k0, 16, .inl f0))]) [0, 1] rfl
  have hDc := hD.sub (ws' := [(h0, .inr (1, [.ref h1, .int 0, .int 0, .int 2])), (h1, .inl (k0, 16, .inl f0))]) [0, 1] (by decide) rfl
  have hKc := hK.sub (tys' := [(k0, .byte)]) [0] rfl
  have hFc := va_free (wc := [(h0, .inr (1, [.ref h1, .int 0, .int 0, .int 2])), (h1, .inl (k0, 16, .inl f0))]) hD hS hA [0, 1] rfl
  refine va_callr (va_runSU (hK.1 1 _ rfl).2 (As := [.int 98]) (rest := []) ⟨hx, hb, hml, hown, hts⟩ (kx_J5_append_3fe6f_9 l dC dI ge5 gea gv5 gva gde gic gi0 h0 h1 k0 s.heap.size f0 f0_t) (va_cwSU 1 hts gJ4_append_cf468_J5_append_3fe6f_s50 rfl rfl rfl (by decide +kernel) ⟨Nat.le_of_ble_eq_true rfl, Nat.le_of_ble_eq_true rfl⟩) ⟨fun a U g mk q => by obtain ⟨q0, q1, qP, qK, qD, qG⟩ := q; exact ⟨q0, q1, qP, va_K.moved (u := U) (U := U.calling g mk a) (Vm.Alike.refl U.vm) qK, qD, gv.fb qG⟩, va_recv hKc hPc (ci := 1) (q0 := 0) rfl rfl, fun U hU hW => ⟨rfl, by rw [hU], by rw [hU]; exact hPc, va_K.moved hW.alike hKc, hDc.weaken (fun _ _ _ _ => trivial), gv.pass hW hU hS hFc hG⟩⟩ rfl rfl hl.1 rfl (lv_room (Nat.le_of_ble_eq_true rfl)) dJ4_append_cf468_2 ⟨Nat.le_of_ble_eq_true rfl, Nat.le_of_ble_eq_true rfl⟩) hS (fun q _ h => hFc q h) hFc (fun u ra t H1 locs ht hvm hw hB hz1 hk1 hS => ?_)
  obtain ⟨f1, f1_t, hra, hP1, hK1, hD1⟩ := hB
  rw [hra]
  rw [ht] at hP1
  have hK1 := va_K.moved hvm.symm hK1
  obtain ⟨hP, hD⟩ := va_join (wr := []) (w1 := [(h0, .inr (1, [.ref h1, .int 0, .int 0, .int 3])), (h1, .inl (k0, 16, .inl f1))]) hP hD [0, 1] [] rfl rfl (by decide) (by decide) hk1 hFc hP1 hD1
  generalize H1 = H at hP hS ⊢
  have hP : va_P (dC, dI) vwCl [(h0, .inr (1, [.ref h1, .int 0, .int 0, .int 3])), (h1, .inl (k0, 16, .inl f1))] H := hP
  have hD : va_D A [(h0, .inr (1, [.ref h1, .int 0, .int 0, .int 3])), (h1, .inl (k0, 16, .inl f1))] := hD
  refine lv_pop hx hb dJ4_append_cf468_5 rfl ?_
  refine lv_aload_n hx hb dJ4_append_cf468_6 rfl (lv_at hl 0 rfl) ?_
  exact W.aret (v := .ref h0) hx hb hr (Or.inl ⟨_, rfl⟩) (Or.inr ⟨_, rfl⟩) (fun t ht hW => ⟨⟨(), h0, rfl, trivial, f1, f1_t, rfl, by rw [ht]; exact hP, va_K.moved hW.alike hK, hD⟩, hS.F ht⟩) hS.2.2 dJ4_append_cf468_7
set_option maxHeartbeats 4000000 in
set_option maxRecDepth 100000 in
theorem kx_J5_append_3fe6f_10 (l : Launch) (dC : Nat → ClassId) (dI : Nat → Nat → Nat) (ge5 gea gv5 gva gde gic gi0 : Nat) (h0 : Nat) (h1 : Nat) (k0 : ClassId) (sz : Nat) (f0 : Nat → Int32) (f0_t : sb_Fit f0) : Met l yJ5_append_3fe6f wsJ5_append_3fe6f ({ frames := 1, cells := 0, slots := 0, locals := 22 }) (va_Pc [.ref h0, .int 99] (fun U => U.heap.size = sz ∧ va_P (dC, dI) vwCl [(h0, .inr (1, [.ref h1, .int 0, .int 0, .int 2])), (h1, .inl (k0, 16, .inl f0))] U.heap ∧ va_K (dC, dI) vwCl [(k0, .byte)] U ∧ va_D (fun _ => True) [(h0, .inr (1, [.ref h1, .int 0, .int 0, .int 2])), (h1, .inl (k0, 16, .inl f0))] ∧ gv ge5 gea gv5 gva gde gic gi0 (va_A [(h0, .inr (1, [.ref h1, .int 0, .int 0, .int 2])), (h1, .inl (k0, 16, .inl f0))] sz) U U.heap)) (va_Qr (fun _ : Unit => True) (fun (_ : Unit) (ra : Nat) (t : State) => ∃ f3 : Nat → Int32, sb_Fit f3 ∧ ra = h0 ∧ va_P (dC, dI) vwCl [(h0, .inr (1, [.ref h1, .int 0, .int 0, .int 3])), (h1, .inl (k0, 16, .inl f3))] t.heap ∧ va_K (dC, dI) vwCl [(k0, .byte)] t ∧ va_D (va_A [(h0, .inr (1, [.ref h1, .int 0, .int 0, .int 2])), (h1, .inl (k0, 16, .inl f0))] sz) [(h0, .inr (1, [.ref h1, .int 0, .int 0, .int 3])), (h1, .inl (k0, 16, .inl f3))]) (va_A [(h0, .inr (1, [.ref h1, .int 0, .int 0, .int 2])), (h1, .inl (k0, 16, .inl f0))] sz)) 0 0 (va_A [(h0, .inr (1, [.ref h1, .int 0, .int 0, .int 2])), (h1, .inl (k0, 16, .inl f0))] sz) := by
  refine Met.ofW (cc := cJ5_append_3fe6f) (maxL := 2) (ret := (some (.object "java/lang/AbstractStringBuilder"))) (by decide) rfl ?_
  intro p e s m args below meth c s₁ B hml hv
  obtain ⟨rfl, hsz, hP, hK, hD0, hG⟩ := hv
  have hx := B.exec
  have hb := B.bytes
  have hr := B.returns
  have hts := atoms_spec (ws := wsJ5_append_3fe6f) B.pre
  have hown : s.vm.findClass RJ5 = some m.cls := findClass_of_methodNamed B.named
  have hlocks := B.notSynchronized
  subst hsz
  have hD := hD0.self (sz := s.heap.size)
  generalize hAe : va_A [(h0, .inr (1, [.ref h1, .int 0, .int 0, .int 2])), (h1, .inl (k0, 16, .inl f0))] s.heap.size = A at hD hG ⊢
  obtain ⟨⟨g_AO_Text, g_AO_String, g_AO_Object, g_nm_RX1_20, g_nm_RX0_17, g_nm_RX3_31, g_nm_RX2_44, g_nm_RL_121, g_nf_RL_13, g_nf_RL_47, g_ca_IO, g_ca_IA, g_ca_IS, g_ca_IntObj, g_ca_StrObj, g_de_RT, g_de_EX, g_de_TH, g_nc_IA_IO, g_nc_IS_IO, g_nc_IS_IA⟩, ⟨g_s3, g_s5, g_sa, g_x278, g_x280, g_x282, g_x284, g_x286, g_x180, g_x238, g_x250⟩, ⟨g_o5, g_c5, g_v5, g_t5, g_oa, g_ca, g_va, g_ta, g_zc, g_zd, g_td, g_zf, g_zU, g_zN, g_zh, g_zk, g_tk, g_oi, g_vi⟩⟩ := id hG
  have hA : ∀ q : Nat, s.heap.size ≤ q → A q := fun q h => by rw [← hAe]; exact Or.inr h
  have hS : va_S A s.heap s.heap [] := va_S.rf
  have hP : va_P (dC, dI) vwCl [(h0, .inr (1, [.ref h1, .int 0, .int 0, .int 2])), (h1, .inl (k0, 16, .inl f0))] s.heap := hP
  have hl := lv_entry ([.ref h0, .int 99]) (n := 2) (Nat.le_of_ble_eq_true rfl)
  rw [lg_entry_eq]
  generalize (lg_sl ([.ref h0, .int 99]) ++ List.replicate (2 - (lg_sl ([.ref h0, .int 99])).length) Slot.unset).toArray = ls at hl ⊢
  have hl : lv_has ls 2 [(0, .ref h0), (1, .int 99)] := hl
  refine lv_aload_n hx hb dJ5_append_3fe6f_0 rfl (lv_at hl 0 rfl) ?_
  refine lv_aload_n hx hb dJ5_append_3fe6f_1 rfl (lv_at hl 0 rfl) ?_
  refine va_get (D := (dC, dI)) (ci := 1) (v := .int 2) (C := RJ4) (T := TJ4) (N := 4) hx hb hts (by decide +kernel) hown hK hP 0 rfl rfl 3 (by decide) (hts (.fieldLink RJ5 79 "java/lang/AbstractStringBuilder" "count" "I") (by decide +kernel)) (fun _ h9 => h9) rfl dJ5_append_3fe6f_2 ?_
  refine lv_iconst (v := 1) hx hb dJ5_append_3fe6f_5 (by decide) ?_
  refine lv_iadd hx hb dJ5_append_3fe6f_6 ?_
  refine lv_topi (fun y1 ey1 => ?_)
  obtain rfl : y1 = 3 := ey1.trans (by decide)
  have hPc := hP.sub (ws' := [(h0, .inr (1, [.ref h1, .int 0, .int 0, .int 2])), (h1, .inl (k0, 16, .inl f0))]) [0, 1] rfl
  have hDc := hD.sub (ws' := [(h0, .inr (1, [.ref h1, .int 0, .int 0, .int 2])), (h1, .inl (k0, 16, .inl f0))]) [0, 1] (by decide) rfl
  have hKc := hK.sub (tys' := [(k0, .byte)]) [0] rfl
  have hFc := va_free (wc := [(h0, .inr (1, [.ref h1, .int 0, .int 0, .int 2])), (h1, .inl (k0, 16, .inl f0))]) hD hS hA [0, 1] rfl
  refine va_callv (va_runU (As := [.int 3]) (rest := []) ⟨hx, hb, hml, hown, hts⟩ (kx_J5_ensureCapacityInternal_d00df_7 l dC dI h0 h1 k0 s.heap.size f0 f0_t) (va_cwU 1 hts gJ5_append_3fe6f_J5_ensureCapacityInternal_d00df_u100J4 rfl rfl rfl rfl (by decide +kernel) ⟨Nat.le_of_ble_eq_true rfl, Nat.le_of_ble_eq_true rfl⟩) ⟨fun a U g mk q => by obtain ⟨q0, q1, qP, qK, qD⟩ := q; exact ⟨q0, q1, qP, va_K.moved (u := U) (U := U.calling g mk a) (Vm.Alike.refl U.vm) qK, qD⟩, va_recv hKc hPc (ci := 1) (q0 := 0) rfl rfl, fun U hU hW => ⟨rfl, by rw [hU], by rw [hU]; exact hPc, va_K.moved hW.alike hKc, hDc.weaken (fun _ _ _ _ => trivial)⟩⟩ rfl rfl hl.1 rfl (lv_room (Nat.le_of_ble_eq_true rfl)) dJ5_append_3fe6f_7 ⟨Nat.le_of_ble_eq_true rfl, Nat.le_of_ble_eq_true rfl⟩) hS (fun q _ h => hFc q h) hFc (fun u t H1 locs ht hvm hw hB hz1 hk1 hS => ?_)
  obtain ⟨hP1, hK1, hD1⟩ := hB
  rw [ht] at hP1
  have hK1 := va_K.moved hvm.symm hK1
  obtain ⟨hP, hD⟩ := va_join (wr := []) (w1 := [(h0, .inr (1, [.ref h1, .int 0, .int 0, .int 2])), (h1, .inl (k0, 16, .inl f0))]) hP hD [0, 1] [] rfl rfl (by decide) (by decide) hk1 hFc hP1 hD1
  generalize H1 = H at hP hS ⊢
  have hP : va_P (dC, dI) vwCl [(h0, .inr (1, [.ref h1, .int 0, .int 0, .int 2])), (h1, .inl (k0, 16, .inl f0))] H := hP
  have hD : va_D A [(h0, .inr (1, [.ref h1, .int 0, .int 0, .int 2])), (h1, .inl (k0, 16, .inl f0))] := hD
  refine lv_aload_n hx hb dJ5_append_3fe6f_10 rfl (lv_at hl 0 rfl) ?_
  have hPc := hP.sub (ws' := [(h0, .inr (1, [.ref h1, .int 0, .int 0, .int 2]))]) [0] rfl
  have hDc := hD.sub (ws' := [(h0, .inr (1, [.ref h1, .int 0, .int 0, .int 2]))]) [0] (by decide) rfl
  have hKc := hK.sub (tys' := []) [] rfl
  have hFc := va_free (wc := [(h0, .inr (1, [.ref h1, .int 0, .int 0, .int 2]))]) hD hS hA [0] rfl
  refine va_calli (va_runU (As := []) (rest := []) ⟨hx, hb, hml, hown, hts⟩ (kx_J5_isLatin1_aae02_2 l dC dI ge5 gea gv5 gva gde gic gi0 h0 h1 H.size) (va_cwU 0 hts gJ5_append_3fe6f_J5_isLatin1_aae02_u83J4 rfl rfl rfl rfl (by decide +kernel) ⟨Nat.le_of_ble_eq_true rfl, Nat.le_of_ble_eq_true rfl⟩) ⟨fun a U g mk q => by obtain ⟨q0, q1, qP, qK, qD, qG⟩ := q; exact ⟨q0, q1, qP, va_K.moved (u := U) (U := U.calling g mk a) (Vm.Alike.refl U.vm) qK, qD, gv.fb qG⟩, va_recv hKc hPc (ci := 1) (q0 := 0) rfl rfl, fun U hU hW => ⟨rfl, by rw [hU], by rw [hU]; exact hPc, va_K.moved hW.alike hKc, hDc.weaken (fun _ _ _ _ => trivial), gv.pass hW hU hS hFc hG⟩⟩ rfl rfl hl.1 rfl (lv_room (Nat.le_of_ble_eq_true rfl)) dJ5_append_3fe6f_11 ⟨Nat.le_of_ble_eq_true rfl, Nat.le_of_ble_eq_true rfl⟩) hS (fun q _ h => hFc q h) hFc (fun r9 u t H1 locs ht hvm hw hB hz1 hk1 hS => ?_)
  obtain rfl := hw
  obtain ⟨hP1, hK1, hD1⟩ := hB
  rw [ht] at hP1
  have hK1 := va_K.moved hvm.symm hK1
  obtain ⟨hP, hD⟩ := va_join (wr := [(h1, .inl (k0, 16, .inl f0))]) (w1 := [(h0, .inr (1, [.ref h1, .int 0, .int 0, .int 2]))]) hP hD [0] [1] rfl rfl (by decide) (by decide) hk1 hFc hP1 hD1
  generalize H1 = H at hP hS ⊢
  have hP : va_P (dC, dI) vwCl [(h1, .inl (k0, 16, .inl f0)), (h0, .inr (1, [.ref h1, .int 0, .int 0, .int 2]))] H := hP
  have hD : va_D A [(h1, .inl (k0, 16, .inl f0)), (h0, .inr (1, [.ref h1, .int 0, .int 0, .int 2]))] := hD
  refine lv_if_eq (tgt := 45) hx hb dJ5_append_3fe6f_14 (by decide) (fun c9 => absurd c9 (by decide)) (fun _ => ?_)
  refine lv_iload_n hx hb dJ5_append_3fe6f_17 rfl (lv_at hl 1 rfl) ?_
  have hPc := hP.sub (ws' := []) [] rfl
  have hDc := hD.sub (ws' := []) [] (by decide) rfl
  have hKc := hK.sub (tys' := []) [] rfl
  have hFc := va_free (wc := []) hD hS hA [] rfl
  refine va_calli (va_runS (As := [.int 99]) (rest := []) ⟨hx, hb, hml, hown, hts⟩ (kx_J1_canEncode_fc78d_2 l dC dI H.size) (va_cwS 1 hts gJ5_append_3fe6f_J1_canEncode_fc78d rfl rfl rfl (by decide +kernel) ⟨Nat.le_of_ble_eq_true rfl, Nat.le_of_ble_eq_true rfl⟩) ⟨fun a U g mk q => by obtain ⟨q0, q1, qP, qK, qD⟩ := q; exact ⟨q0, q1, qP, va_K.moved (u := U) (U := U.calling g mk a) (Vm.Alike.refl U.vm) qK, qD⟩, fun U hU hW => ⟨rfl, by rw [hU], by rw [hU]; exact hPc, va_K.moved hW.alike hKc, hDc.weaken (fun _ _ _ _ => trivial)⟩⟩ rfl rfl hl.1 rfl (lv_room (Nat.le_of_ble_eq_true rfl)) dJ5_append_3fe6f_18 ⟨Nat.le_of_ble_eq_true rfl, Nat.le_of_ble_eq_true rfl⟩) hS (fun q _ h => hFc q h) hFc (fun r9 u t H1 locs ht hvm hw hB hz1 hk1 hS => ?_)
  obtain rfl := hw
  obtain ⟨hP1, hK1, hD1⟩ := hB
  rw [ht] at hP1
  have hK1 := va_K.moved hvm.symm hK1
  obtain ⟨hP, hD⟩ := va_join (wr := [(h1, .inl (k0, 16, .inl f0)), (h0, .inr (1, [.ref h1, .int 0, .int 0, .int 2]))]) (w1 := []) hP hD [] [0, 1] rfl rfl (by decide) (by decide) hk1 hFc hP1 hD1
  generalize H1 = H at hP hS ⊢
  have hP : va_P (dC, dI) vwCl [(h1, .inl (k0, 16, .inl f0)), (h0, .inr (1, [.ref h1, .int 0, .int 0, .int 2]))] H := hP
  have hD : va_D A [(h1, .inl (k0, 16, .inl f0)), (h0, .inr (1, [.ref h1, .int 0, .int 0, .int 2]))] := hD
  refine lv_if_eq (tgt := 45) hx hb dJ5_append_3fe6f_21 (by decide) (fun c9 => absurd c9 (by decide)) (fun _ => ?_)
  refine lv_aload_n hx hb dJ5_append_3fe6f_24 rfl (lv_at hl 0 rfl) ?_
  refine va_get (D := (dC, dI)) (ci := 1) (v := .ref h1) (C := RJ4) (T := TJ4) (N := 4) hx hb hts (by decide +kernel) hown hK hP 1 rfl rfl 0 (by decide) (hts (.fieldLink RJ5 15 "java/lang/AbstractStringBuilder" "value" "[B") (by decide +kernel)) (fun _ h9 => h9) rfl dJ5_append_3fe6f_25 ?_
  refine lv_aload_n hx hb dJ5_append_3fe6f_28 rfl (lv_at hl 0 rfl) ?_
  refine lv_dup hx hb dJ5_append_3fe6f_29 rfl ?_
  refine va_get (D := (dC, dI)) (ci := 1) (v := .int 2) (C := RJ4) (T := TJ4) (N := 4) hx hb hts (by decide +kernel) hown hK hP 1 rfl rfl 3 (by decide) (hts (.fieldLink RJ5 79 "java/lang/AbstractStringBuilder" "count" "I") (by decide +kernel)) (fun _ h9 => h9) rfl dJ5_append_3fe6f_30 ?_
  refine lv_dup_x1 hx hb dJ5_append_3fe6f_33 rfl rfl ?_
  refine lv_iconst (v := 1) hx hb dJ5_append_3fe6f_34 (by decide) ?_
  refine lv_iadd hx hb dJ5_append_3fe6f_35 ?_
  refine lv_topi (fun y2 ey2 => ?_)
  obtain rfl : y2 = 3 := ey2.trans (by decide)
  refine va_put (D := (dC, dI)) (ci := 1) (v := .int 3) (ty := .int) (C := RJ4) (T := TJ4) (N := 4) hx hb hts (by decide +kernel) tyJ4 tyJ4_ok nmJ4 hown hK hP hD hS 1 rfl rfl 3 (by decide) (hts (.fieldLink RJ5 79 "java/lang/AbstractStringBuilder" "count" "I") (by decide +kernel)) (fun _ h9 => h9) rfl (by decide +kernel) rfl rfl (Nat.le_of_ble_eq_true rfl) dJ5_append_3fe6f_36 (fun H locs hP hD hS => ?_)
  have hP : va_P (dC, dI) vwCl [(h1, .inl (k0, 16, .inl f0)), (h0, .inr (1, [.ref h1, .int 0, .int 0, .int 3]))] H := hP
  have hD : va_D A [(h1, .inl (k0, 16, .inl f0)), (h0, .inr (1, [.ref h1, .int 0, .int 0, .int 3]))] := hD
  refine lv_iload_n hx hb dJ5_append_3fe6f_39 rfl (lv_at hl 1 rfl) ?_
  refine lv_i2b (v := 99) hx hb dJ5_append_3fe6f_40 (by decide) ?_
  refine va_bast (D := (dC, dI)) hx hb hK hP hD hS 0 0 rfl rfl (by unfold vp_in; decide) dJ5_append_3fe6f_41 (fun H locs hP hD hS => ?_)
  have hP : va_P (dC, dI) vwCl [(h1, .inl (k0, 16, .inl (upd f0 2 99))), (h0, .inr (1, [.ref h1, .int 0, .int 0, .int 3]))] H := hP
  have hD : va_D A [(h1, .inl (k0, 16, .inl (upd f0 2 99))), (h0, .inr (1, [.ref h1, .int 0, .int 0, .int 3]))] := hD
  obtain ⟨f3, hf3⟩ : ∃ f : Nat → Int32, f = upd f0 2 99 := ⟨_, rfl⟩
  have f3_t : sb_Fit f3 := by rw [hf3]; exact sb_fitU f0_t (by decide)
  rw [← hf3] at hP hD
  refine lv_goto (tgt := 75) hx hb dJ5_append_3fe6f_42 (by decide) ?_
  refine lv_aload_n hx hb dJ5_append_3fe6f_75 rfl (lv_at hl 0 rfl) ?_
  have hP := hP.sub (ws' := [(h0, .inr (1, [.ref h1, .int 0, .int 0, .int 3])), (h1, .inl (k0, 16, .inl f3))]) [1, 0] rfl
  have hD := hD.sub (ws' := [(h0, .inr (1, [.ref h1, .int 0, .int 0, .int 3])), (h1, .inl (k0, 16, .inl f3))]) [1, 0] (by decide) rfl
  exact W.aret (v := .ref h0) hx hb hr (Or.inl ⟨_, rfl⟩) (Or.inr ⟨_, rfl⟩) (fun t ht hW => ⟨⟨(), h0, rfl, trivial, f3, f3_t, rfl, by rw [ht]; exact hP, va_K.moved hW.alike hK, hD⟩, hS.F ht⟩) hS.2.2 dJ5_append_3fe6f_76
set_option maxHeartbeats 4000000 in
set_option maxRecDepth 100000 in
theorem kx_J4_append_cf468_10 (l : Launch) (dC : Nat → ClassId) (dI : Nat → Nat → Nat) (ge5 gea gv5 gva gde gic gi0 : Nat) (h0 : Nat) (h1 : Nat) (k0 : ClassId) (sz : Nat) (f0 : Nat → Int32) (f0_t : sb_Fit f0) : Met l yJ4_append_cf468 wsJ4_append_cf468 ({ frames := 2, cells := 0, slots := 0, locals := 43 }) (va_Pc [.ref h0, .int 99] (fun U => U.heap.size = sz ∧ va_P (dC, dI) vwCl [(h0, .inr (1, [.ref h1, .int 0, .int 0, .int 2])), (h1, .inl (k0, 16, .inl f0))] U.heap ∧ va_K (dC, dI) vwCl [(k0, .byte)] U ∧ va_D (fun _ => True) [(h0, .inr (1, [.ref h1, .int 0, .int 0, .int 2])), (h1, .inl (k0, 16, .inl f0))] ∧ gv ge5 gea gv5 gva gde gic gi0 (va_A [(h0, .inr (1, [.ref h1, .int 0, .int 0, .int 2])), (h1, .inl (k0, 16, .inl f0))] sz) U U.heap)) (va_Qr (fun _ : Unit => True) (fun (_ : Unit) (ra : Nat) (t : State) => ∃ f1 : Nat → Int32, sb_Fit f1 ∧ ra = h0 ∧ va_P (dC, dI) vwCl [(h0, .inr (1, [.ref h1, .int 0, .int 0, .int 3])), (h1, .inl (k0, 16, .inl f1))] t.heap ∧ va_K (dC, dI) vwCl [(k0, .byte)] t ∧ va_D (va_A [(h0, .inr (1, [.ref h1, .int 0, .int 0, .int 2])), (h1, .inl (k0, 16, .inl f0))] sz) [(h0, .inr (1, [.ref h1, .int 0, .int 0, .int 3])), (h1, .inl (k0, 16, .inl f1))]) (va_A [(h0, .inr (1, [.ref h1, .int 0, .int 0, .int 2])), (h1, .inl (k0, 16, .inl f0))] sz)) 0 0 (va_A [(h0, .inr (1, [.ref h1, .int 0, .int 0, .int 2])), (h1, .inl (k0, 16, .inl f0))] sz) := by
  refine Met.ofW (cc := cJ4_append_cf468) (maxL := 2) (ret := (some (.object "java/lang/StringBuilder"))) (by decide) rfl ?_
  intro p e s m args below meth c s₁ B hml hv
  obtain ⟨rfl, hsz, hP, hK, hD0, hG⟩ := hv
  have hx := B.exec
  have hb := B.bytes
  have hr := B.returns
  have hts := atoms_spec (ws := wsJ4_append_cf468) B.pre
  have hown : s.vm.findClass RJ4 = some m.cls := findClass_of_methodNamed B.named
  have hlocks := B.notSynchronized
  subst hsz
  have hD := hD0.self (sz := s.heap.size)
  generalize hAe : va_A [(h0, .inr (1, [.ref h1, .int 0, .int 0, .int 2])), (h1, .inl (k0, 16, .inl f0))] s.heap.size = A at hD hG ⊢
  obtain ⟨⟨g_AO_Text, g_AO_String, g_AO_Object, g_nm_RX1_20, g_nm_RX0_17, g_nm_RX3_31, g_nm_RX2_44, g_nm_RL_121, g_nf_RL_13, g_nf_RL_47, g_ca_IO, g_ca_IA, g_ca_IS, g_ca_IntObj, g_ca_StrObj, g_de_RT, g_de_EX, g_de_TH, g_nc_IA_IO, g_nc_IS_IO, g_nc_IS_IA⟩, ⟨g_s3, g_s5, g_sa, g_x278, g_x280, g_x282, g_x284, g_x286, g_x180, g_x238, g_x250⟩, ⟨g_o5, g_c5, g_v5, g_t5, g_oa, g_ca, g_va, g_ta, g_zc, g_zd, g_td, g_zf, g_zU, g_zN, g_zh, g_zk, g_tk, g_oi, g_vi⟩⟩ := id hG
  have hA : ∀ q : Nat, s.heap.size ≤ q → A q := fun q h => by rw [← hAe]; exact Or.inr h
  have hS : va_S A s.heap s.heap [] := va_S.rf
  have hP : va_P (dC, dI) vwCl [(h0, .inr (1, [.ref h1, .int 0, .int 0, .int 2])), (h1, .inl (k0, 16, .inl f0))] s.heap := hP
  have hl := lv_entry ([.ref h0, .int 99]) (n := 2) (Nat.le_of_ble_eq_true rfl)
  rw [lg_entry_eq]
  generalize (lg_sl ([.ref h0, .int 99]) ++ List.replicate (2 - (lg_sl ([.ref h0, .int 99])).length) Slot.unset).toArray = ls at hl ⊢
  have hl : lv_has ls 2 [(0, .ref h0), (1, .int 99)] := hl
  refine lv_aload_n hx hb dJ4_append_cf468_0 rfl (lv_at hl 0 rfl) ?_
  refine lv_iload_n hx hb dJ4_append_cf468_1 rfl (lv_at hl 1 rfl) ?_
  have hPc := hP.sub (ws' := [(h0, .inr (1, [.ref h1, .int 0, .int 0, .int 2])), (h1, .inl (k0, 16, .inl f0))]) [0, 1] rfl
  have hDc := hD.sub (ws' := [(h0, .inr (1, [.ref h1, .int 0, .int 0, .int 2])), (h1, .inl (k0, 16, .inl f0))]) [0, 1] (by decide) rfl
  have hKc := hK.sub (tys' := [(k0, .byte)]) [0] rfl
  have hFc := va_free (wc := [(h0, .inr (1, [.ref h1, .int 0, .int 0, .int 2])), (h1, .inl (k0, 16, .inl f0))]) hD hS hA [0, 1] rfl
  refine va_callr (va_runSU (hK.1 1 _ rfl).2 (As := [.int 99]) (rest := []) ⟨hx, hb, hml, hown, hts⟩ (kx_J5_append_3fe6f_10 l dC dI ge5 gea gv5 gva gde gic gi0 h0 h1 k0 s.heap.size f0 f0_t) (va_cwSU 1 hts gJ4_append_cf468_J5_append_3fe6f_s50 rfl rfl rfl (by decide +kernel) ⟨Nat.le_of_ble_eq_true rfl, Nat.le_of_ble_eq_true rfl⟩) ⟨fun a U g mk q => by obtain ⟨q0, q1, qP, qK, qD, qG⟩ := q; exact ⟨q0, q1, qP, va_K.moved (u := U) (U := U.calling g mk a) (Vm.Alike.refl U.vm) qK, qD, gv.fb qG⟩, va_recv hKc hPc (ci := 1) (q0 := 0) rfl rfl, fun U hU hW => ⟨rfl, by rw [hU], by rw [hU]; exact hPc, va_K.moved hW.alike hKc, hDc.weaken (fun _ _ _ _ => trivial), gv.pass hW hU hS hFc hG⟩⟩ rfl rfl hl.1 rfl (lv_room (Nat.le_of_ble_eq_true rfl)) dJ4_append_cf468_2 ⟨Nat.le_of_ble_eq_true rfl, Nat.le_of_ble_eq_true rfl⟩) hS (fun q _ h => hFc q h) hFc (fun u ra t H1 locs ht hvm hw hB hz1 hk1 hS => ?_)
  obtain ⟨f1, f1_t, hra, hP1, hK1, hD1⟩ := hB
  rw [hra]
  rw [ht] at hP1
  have hK1 := va_K.moved hvm.symm hK1
  obtain ⟨hP, hD⟩ := va_join (wr := []) (w1 := [(h0, .inr (1, [.ref h1, .int 0, .int 0, .int 3])), (h1, .inl (k0, 16, .inl f1))]) hP hD [0, 1] [] rfl rfl (by decide) (by decide) hk1 hFc hP1 hD1
  generalize H1 = H at hP hS ⊢
  have hP : va_P (dC, dI) vwCl [(h0, .inr (1, [.ref h1, .int 0, .int 0, .int 3])), (h1, .inl (k0, 16, .inl f1))] H := hP
  have hD : va_D A [(h0, .inr (1, [.ref h1, .int 0, .int 0, .int 3])), (h1, .inl (k0, 16, .inl f1))] := hD
  refine lv_pop hx hb dJ4_append_cf468_5 rfl ?_
  refine lv_aload_n hx hb dJ4_append_cf468_6 rfl (lv_at hl 0 rfl) ?_
  exact W.aret (v := .ref h0) hx hb hr (Or.inl ⟨_, rfl⟩) (Or.inr ⟨_, rfl⟩) (fun t ht hW => ⟨⟨(), h0, rfl, trivial, f1, f1_t, rfl, by rw [ht]; exact hP, va_K.moved hW.alike hK, hD⟩, hS.F ht⟩) hS.2.2 dJ4_append_cf468_7
set_option maxHeartbeats 4000000 in
set_option maxRecDepth 100000 in
theorem kx_J5_append_3fe6f_11 (l : Launch) (dC : Nat → ClassId) (dI : Nat → Nat → Nat) (ge5 gea gv5 gva gde gic gi0 : Nat) (h0 : Nat) (h1 : Nat) (k0 : ClassId) (sz : Nat) (f0 : Nat → Int32) (f0_t : sb_Fit f0) : Met l yJ5_append_3fe6f wsJ5_append_3fe6f ({ frames := 1, cells := 0, slots := 0, locals := 22 }) (va_Pc [.ref h0, .int 100] (fun U => U.heap.size = sz ∧ va_P (dC, dI) vwCl [(h0, .inr (1, [.ref h1, .int 0, .int 0, .int 2])), (h1, .inl (k0, 16, .inl f0))] U.heap ∧ va_K (dC, dI) vwCl [(k0, .byte)] U ∧ va_D (fun _ => True) [(h0, .inr (1, [.ref h1, .int 0, .int 0, .int 2])), (h1, .inl (k0, 16, .inl f0))] ∧ gv ge5 gea gv5 gva gde gic gi0 (va_A [(h0, .inr (1, [.ref h1, .int 0, .int 0, .int 2])), (h1, .inl (k0, 16, .inl f0))] sz) U U.heap)) (va_Qr (fun _ : Unit => True) (fun (_ : Unit) (ra : Nat) (t : State) => ∃ f3 : Nat → Int32, sb_Fit f3 ∧ ra = h0 ∧ va_P (dC, dI) vwCl [(h0, .inr (1, [.ref h1, .int 0, .int 0, .int 3])), (h1, .inl (k0, 16, .inl f3))] t.heap ∧ va_K (dC, dI) vwCl [(k0, .byte)] t ∧ va_D (va_A [(h0, .inr (1, [.ref h1, .int 0, .int 0, .int 2])), (h1, .inl (k0, 16, .inl f0))] sz) [(h0, .inr (1, [.ref h1, .int 0, .int 0, .int 3])), (h1, .inl (k0, 16, .inl f3))]) (va_A [(h0, .inr (1, [.ref h1, .int 0, .int 0, .int 2])), (h1, .inl (k0, 16, .inl f0))] sz)) 0 0 (va_A [(h0, .inr (1, [.ref h1, .int 0, .int 0, .int 2])), (h1, .inl (k0, 16, .inl f0))] sz) := by
  refine Met.ofW (cc := cJ5_append_3fe6f) (maxL := 2) (ret := (some (.object "java/lang/AbstractStringBuilder"))) (by decide) rfl ?_
  intro p e s m args below meth c s₁ B hml hv
  obtain ⟨rfl, hsz, hP, hK, hD0, hG⟩ := hv
  have hx := B.exec
  have hb := B.bytes
  have hr := B.returns
  have hts := atoms_spec (ws := wsJ5_append_3fe6f) B.pre
  have hown : s.vm.findClass RJ5 = some m.cls := findClass_of_methodNamed B.named
  have hlocks := B.notSynchronized
  subst hsz
  have hD := hD0.self (sz := s.heap.size)
  generalize hAe : va_A [(h0, .inr (1, [.ref h1, .int 0, .int 0, .int 2])), (h1, .inl (k0, 16, .inl f0))] s.heap.size = A at hD hG ⊢
  obtain ⟨⟨g_AO_Text, g_AO_String, g_AO_Object, g_nm_RX1_20, g_nm_RX0_17, g_nm_RX3_31, g_nm_RX2_44, g_nm_RL_121, g_nf_RL_13, g_nf_RL_47, g_ca_IO, g_ca_IA, g_ca_IS, g_ca_IntObj, g_ca_StrObj, g_de_RT, g_de_EX, g_de_TH, g_nc_IA_IO, g_nc_IS_IO, g_nc_IS_IA⟩, ⟨g_s3, g_s5, g_sa, g_x278, g_x280, g_x282, g_x284, g_x286, g_x180, g_x238, g_x250⟩, ⟨g_o5, g_c5, g_v5, g_t5, g_oa, g_ca, g_va, g_ta, g_zc, g_zd, g_td, g_zf, g_zU, g_zN, g_zh, g_zk, g_tk, g_oi, g_vi⟩⟩ := id hG
  have hA : ∀ q : Nat, s.heap.size ≤ q → A q := fun q h => by rw [← hAe]; exact Or.inr h
  have hS : va_S A s.heap s.heap [] := va_S.rf
  have hP : va_P (dC, dI) vwCl [(h0, .inr (1, [.ref h1, .int 0, .int 0, .int 2])), (h1, .inl (k0, 16, .inl f0))] s.heap := hP
  have hl := lv_entry ([.ref h0, .int 100]) (n := 2) (Nat.le_of_ble_eq_true rfl)
  rw [lg_entry_eq]
  generalize (lg_sl ([.ref h0, .int 100]) ++ List.replicate (2 - (lg_sl ([.ref h0, .int 100])).length) Slot.unset).toArray = ls at hl ⊢
  have hl : lv_has ls 2 [(0, .ref h0), (1, .int 100)] := hl
  refine lv_aload_n hx hb dJ5_append_3fe6f_0 rfl (lv_at hl 0 rfl) ?_
  refine lv_aload_n hx hb dJ5_append_3fe6f_1 rfl (lv_at hl 0 rfl) ?_
  refine va_get (D := (dC, dI)) (ci := 1) (v := .int 2) (C := RJ4) (T := TJ4) (N := 4) hx hb hts (by decide +kernel) hown hK hP 0 rfl rfl 3 (by decide) (hts (.fieldLink RJ5 79 "java/lang/AbstractStringBuilder" "count" "I") (by decide +kernel)) (fun _ h9 => h9) rfl dJ5_append_3fe6f_2 ?_
  refine lv_iconst (v := 1) hx hb dJ5_append_3fe6f_5 (by decide) ?_
  refine lv_iadd hx hb dJ5_append_3fe6f_6 ?_
  refine lv_topi (fun y1 ey1 => ?_)
  obtain rfl : y1 = 3 := ey1.trans (by decide)
  have hPc := hP.sub (ws' := [(h0, .inr (1, [.ref h1, .int 0, .int 0, .int 2])), (h1, .inl (k0, 16, .inl f0))]) [0, 1] rfl
  have hDc := hD.sub (ws' := [(h0, .inr (1, [.ref h1, .int 0, .int 0, .int 2])), (h1, .inl (k0, 16, .inl f0))]) [0, 1] (by decide) rfl
  have hKc := hK.sub (tys' := [(k0, .byte)]) [0] rfl
  have hFc := va_free (wc := [(h0, .inr (1, [.ref h1, .int 0, .int 0, .int 2])), (h1, .inl (k0, 16, .inl f0))]) hD hS hA [0, 1] rfl
  refine va_callv (va_runU (As := [.int 3]) (rest := []) ⟨hx, hb, hml, hown, hts⟩ (kx_J5_ensureCapacityInternal_d00df_7 l dC dI h0 h1 k0 s.heap.size f0 f0_t) (va_cwU 1 hts gJ5_append_3fe6f_J5_ensureCapacityInternal_d00df_u100J4 rfl rfl rfl rfl (by decide +kernel) ⟨Nat.le_of_ble_eq_true rfl, Nat.le_of_ble_eq_true rfl⟩) ⟨fun a U g mk q => by obtain ⟨q0, q1, qP, qK, qD⟩ := q; exact ⟨q0, q1, qP, va_K.moved (u := U) (U := U.calling g mk a) (Vm.Alike.refl U.vm) qK, qD⟩, va_recv hKc hPc (ci := 1) (q0 := 0) rfl rfl, fun U hU hW => ⟨rfl, by rw [hU], by rw [hU]; exact hPc, va_K.moved hW.alike hKc, hDc.weaken (fun _ _ _ _ => trivial)⟩⟩ rfl rfl hl.1 rfl (lv_room (Nat.le_of_ble_eq_true rfl)) dJ5_append_3fe6f_7 ⟨Nat.le_of_ble_eq_true rfl, Nat.le_of_ble_eq_true rfl⟩) hS (fun q _ h => hFc q h) hFc (fun u t H1 locs ht hvm hw hB hz1 hk1 hS => ?_)
  obtain ⟨hP1, hK1, hD1⟩ := hB
  rw [ht] at hP1
  have hK1 := va_K.moved hvm.symm hK1
  obtain ⟨hP, hD⟩ := va_join (wr := []) (w1 := [(h0, .inr (1, [.ref h1, .int 0, .int 0, .int 2])), (h1, .inl (k0, 16, .inl f0))]) hP hD [0, 1] [] rfl rfl (by decide) (by decide) hk1 hFc hP1 hD1
  generalize H1 = H at hP hS ⊢
  have hP : va_P (dC, dI) vwCl [(h0, .inr (1, [.ref h1, .int 0, .int 0, .int 2])), (h1, .inl (k0, 16, .inl f0))] H := hP
  have hD : va_D A [(h0, .inr (1, [.ref h1, .int 0, .int 0, .int 2])), (h1, .inl (k0, 16, .inl f0))] := hD
  refine lv_aload_n hx hb dJ5_append_3fe6f_10 rfl (lv_at hl 0 rfl) ?_
  have hPc := hP.sub (ws' := [(h0, .inr (1, [.ref h1, .int 0, .int 0, .int 2]))]) [0] rfl
  have hDc := hD.sub (ws' := [(h0, .inr (1, [.ref h1, .int 0, .int 0, .int 2]))]) [0] (by decide) rfl
  have hKc := hK.sub (tys' := []) [] rfl
  have hFc := va_free (wc := [(h0, .inr (1, [.ref h1, .int 0, .int 0, .int 2]))]) hD hS hA [0] rfl
  refine va_calli (va_runU (As := []) (rest := []) ⟨hx, hb, hml, hown, hts⟩ (kx_J5_isLatin1_aae02_2 l dC dI ge5 gea gv5 gva gde gic gi0 h0 h1 H.size) (va_cwU 0 hts gJ5_append_3fe6f_J5_isLatin1_aae02_u83J4 rfl rfl rfl rfl (by decide +kernel) ⟨Nat.le_of_ble_eq_true rfl, Nat.le_of_ble_eq_true rfl⟩) ⟨fun a U g mk q => by obtain ⟨q0, q1, qP, qK, qD, qG⟩ := q; exact ⟨q0, q1, qP, va_K.moved (u := U) (U := U.calling g mk a) (Vm.Alike.refl U.vm) qK, qD, gv.fb qG⟩, va_recv hKc hPc (ci := 1) (q0 := 0) rfl rfl, fun U hU hW => ⟨rfl, by rw [hU], by rw [hU]; exact hPc, va_K.moved hW.alike hKc, hDc.weaken (fun _ _ _ _ => trivial), gv.pass hW hU hS hFc hG⟩⟩ rfl rfl hl.1 rfl (lv_room (Nat.le_of_ble_eq_true rfl)) dJ5_append_3fe6f_11 ⟨Nat.le_of_ble_eq_true rfl, Nat.le_of_ble_eq_true rfl⟩) hS (fun q _ h => hFc q h) hFc (fun r9 u t H1 locs ht hvm hw hB hz1 hk1 hS => ?_)
  obtain rfl := hw
  obtain ⟨hP1, hK1, hD1⟩ := hB
  rw [ht] at hP1
  have hK1 := va_K.moved hvm.symm hK1
  obtain ⟨hP, hD⟩ := va_join (wr := [(h1, .inl (k0, 16, .inl f0))]) (w1 := [(h0, .inr (1, [.ref h1, .int 0, .int 0, .int 2]))]) hP hD [0] [1] rfl rfl (by decide) (by decide) hk1 hFc hP1 hD1
  generalize H1 = H at hP hS ⊢
  have hP : va_P (dC, dI) vwCl [(h1, .inl (k0, 16, .inl f0)), (h0, .inr (1, [.ref h1, .int 0, .int 0, .int 2]))] H := hP
  have hD : va_D A [(h1, .inl (k0, 16, .inl f0)), (h0, .inr (1, [.ref h1, .int 0, .int 0, .int 2]))] := hD
  refine lv_if_eq (tgt := 45) hx hb dJ5_append_3fe6f_14 (by decide) (fun c9 => absurd c9 (by decide)) (fun _ => ?_)
  refine lv_iload_n hx hb dJ5_append_3fe6f_17 rfl (lv_at hl 1 rfl) ?_
  have hPc := hP.sub (ws' := []) [] rfl
  have hDc := hD.sub (ws' := []) [] (by decide) rfl
  have hKc := hK.sub (tys' := []) [] rfl
  have hFc := va_free (wc := []) hD hS hA [] rfl
  refine va_calli (va_runS (As := [.int 100]) (rest := []) ⟨hx, hb, hml, hown, hts⟩ (kx_J1_canEncode_fc78d_3 l dC dI H.size) (va_cwS 1 hts gJ5_append_3fe6f_J1_canEncode_fc78d rfl rfl rfl (by decide +kernel) ⟨Nat.le_of_ble_eq_true rfl, Nat.le_of_ble_eq_true rfl⟩) ⟨fun a U g mk q => by obtain ⟨q0, q1, qP, qK, qD⟩ := q; exact ⟨q0, q1, qP, va_K.moved (u := U) (U := U.calling g mk a) (Vm.Alike.refl U.vm) qK, qD⟩, fun U hU hW => ⟨rfl, by rw [hU], by rw [hU]; exact hPc, va_K.moved hW.alike hKc, hDc.weaken (fun _ _ _ _ => trivial)⟩⟩ rfl rfl hl.1 rfl (lv_room (Nat.le_of_ble_eq_true rfl)) dJ5_append_3fe6f_18 ⟨Nat.le_of_ble_eq_true rfl, Nat.le_of_ble_eq_true rfl⟩) hS (fun q _ h => hFc q h) hFc (fun r9 u t H1 locs ht hvm hw hB hz1 hk1 hS => ?_)
  obtain rfl := hw
  obtain ⟨hP1, hK1, hD1⟩ := hB
  rw [ht] at hP1
  have hK1 := va_K.moved hvm.symm hK1
  obtain ⟨hP, hD⟩ := va_join (wr := [(h1, .inl (k0, 16, .inl f0)), (h0, .inr (1, [.ref h1, .int 0, .int 0, .int 2]))]) (w1 := []) hP hD [] [0, 1] rfl rfl (by decide) (by decide) hk1 hFc hP1 hD1
  generalize H1 = H at hP hS ⊢
  have hP : va_P (dC, dI) vwCl [(h1, .inl (k0, 16, .inl f0)), (h0, .inr (1, [.ref h1, .int 0, .int 0, .int 2]))] H := hP
  have hD : va_D A [(h1, .inl (k0, 16, .inl f0)), (h0, .inr (1, [.ref h1, .int 0, .int 0, .int 2]))] := hD
  refine lv_if_eq (tgt := 45) hx hb dJ5_append_3fe6f_21 (by decide) (fun c9 => absurd c9 (by decide)) (fun _ => ?_)
  refine lv_aload_n hx hb dJ5_append_3fe6f_24 rfl (lv_at hl 0 rfl) ?_
  refine va_get (D := (dC, dI)) (ci := 1) (v := .ref h1) (C := RJ4) (T := TJ4) (N := 4) hx hb hts (by decide +kernel) hown hK hP 1 rfl rfl 0 (by decide) (hts (.fieldLink RJ5 15 "java/lang/AbstractStringBuilder" "value" "[B") (by decide +kernel)) (fun _ h9 => h9) rfl dJ5_append_3fe6f_25 ?_
  refine lv_aload_n hx hb dJ5_append_3fe6f_28 rfl (lv_at hl 0 rfl) ?_
  refine lv_dup hx hb dJ5_append_3fe6f_29 rfl ?_
  refine va_get (D := (dC, dI)) (ci := 1) (v := .int 2) (C := RJ4) (T := TJ4) (N := 4) hx hb hts (by decide +kernel) hown hK hP 1 rfl rfl 3 (by decide) (hts (.fieldLink RJ5 79 "java/lang/AbstractStringBuilder" "count" "I") (by decide +kernel)) (fun _ h9 => h9) rfl dJ5_append_3fe6f_30 ?_
  refine lv_dup_x1 hx hb dJ5_append_3fe6f_33 rfl rfl ?_
  refine lv_iconst (v := 1) hx hb dJ5_append_3fe6f_34 (by decide) ?_
  refine lv_iadd hx hb dJ5_append_3fe6f_35 ?_
  refine lv_topi (fun y2 ey2 => ?_)
  obtain rfl : y2 = 3 := ey2.trans (by decide)
  refine va_put (D := (dC, dI)) (ci := 1) (v := .int 3) (ty := .int) (C := RJ4) (T := TJ4) (N := 4) hx hb hts (by decide +kernel) tyJ4 tyJ4_ok nmJ4 hown hK hP hD hS 1 rfl rfl 3 (by decide) (hts (.fieldLink RJ5 79 "java/lang/AbstractStringBuilder" "count" "I") (by decide +kernel)) (fun _ h9 => h9) rfl (by decide +kernel) rfl rfl (Nat.le_of_ble_eq_true rfl) dJ5_append_3fe6f_36 (fun H locs hP hD hS => ?_)
  have hP : va_P (dC, dI) vwCl [(h1, .inl (k0, 16, .inl f0)), (h0, .inr (1, [.ref h1, .int 0, .int 0, .int 3]))] H := hP
  have hD : va_D A [(h1, .inl (k0, 16, .inl f0)), (h0, .inr (1, [.ref h1, .int 0, .int 0, .int 3]))] := hD
  refine lv_iload_n hx hb dJ5_append_3fe6f_39 rfl (lv_at hl 1 rfl) ?_
  refine lv_i2b (v := 100) hx hb dJ5_append_3fe6f_40 (by decide) ?_
  refine va_bast (D := (dC, dI)) hx hb hK hP hD hS 0 0 rfl rfl (by unfold vp_in; decide) dJ5_append_3fe6f_41 (fun H locs hP hD hS => ?_)
  have hP : va_P (dC, dI) vwCl [(h1, .inl (k0, 16, .inl (upd f0 2 100))), (h0, .inr (1, [.ref h1, .int 0, .int 0, .int 3]))] H := hP
  have hD : va_D A [(h1, .inl (k0, 16, .inl (upd f0 2 100))), (h0, .inr (1, [.ref h1, .int 0, .int 0, .int 3]))] := hD
  obtain ⟨f3, hf3⟩ : ∃ f : Nat → Int32, f = upd f0 2 100 := ⟨_, rfl⟩
  have f3_t : sb_Fit f3 := by rw [hf3]; exact sb_fitU f0_t (by decide)
  rw [← hf3] at hP hD
  refine lv_goto (tgt := 75) hx hb dJ5_append_3fe6f_42 (by decide) ?_
  refine lv_aload_n hx hb dJ5_append_3fe6f_75 rfl (lv_at hl 0 rfl) ?_
  have hP := hP.sub (ws' := [(h0, .inr (1, [.ref h1, .int 0, .int 0, .int 3])), (h1, .inl (k0, 16, .inl f3))]) [1, 0] rfl
  have hD := hD.sub (ws' := [(h0, .inr (1, [.ref h1, .int 0, .int 0, .int 3])), (h1, .inl (k0, 16, .inl f3))]) [1, 0] (by decide) rfl
  exact W.aret (v := .ref h0) hx hb hr (Or.inl ⟨_, rfl⟩) (Or.inr ⟨_, rfl⟩) (fun t ht hW => ⟨⟨(), h0, rfl, trivial, f3, f3_t, rfl, by rw [ht]; exact hP, va_K.moved hW.alike hK, hD⟩, hS.F ht⟩) hS.2.2 dJ5_append_3fe6f_76
set_option maxHeartbeats 4000000 in
set_option maxRecDepth 100000 in
theorem kx_J4_append_cf468_11 (l : Launch) (dC : Nat → ClassId) (dI : Nat → Nat → Nat) (ge5 gea gv5 gva gde gic gi0 : Nat) (h0 : Nat) (h1 : Nat) (k0 : ClassId) (sz : Nat) (f0 : Nat → Int32) (f0_t : sb_Fit f0) : Met l yJ4_append_cf468 wsJ4_append_cf468 ({ frames := 2, cells := 0, slots := 0, locals := 43 }) (va_Pc [.ref h0, .int 100] (fun U => U.heap.size = sz ∧ va_P (dC, dI) vwCl [(h0, .inr (1, [.ref h1, .int 0, .int 0, .int 2])), (h1, .inl (k0, 16, .inl f0))] U.heap ∧ va_K (dC, dI) vwCl [(k0, .byte)] U ∧ va_D (fun _ => True) [(h0, .inr (1, [.ref h1, .int 0, .int 0, .int 2])), (h1, .inl (k0, 16, .inl f0))] ∧ gv ge5 gea gv5 gva gde gic gi0 (va_A [(h0, .inr (1, [.ref h1, .int 0, .int 0, .int 2])), (h1, .inl (k0, 16, .inl f0))] sz) U U.heap)) (va_Qr (fun _ : Unit => True) (fun (_ : Unit) (ra : Nat) (t : State) => ∃ f1 : Nat → Int32, sb_Fit f1 ∧ ra = h0 ∧ va_P (dC, dI) vwCl [(h0, .inr (1, [.ref h1, .int 0, .int 0, .int 3])), (h1, .inl (k0, 16, .inl f1))] t.heap ∧ va_K (dC, dI) vwCl [(k0, .byte)] t ∧ va_D (va_A [(h0, .inr (1, [.ref h1, .int 0, .int 0, .int 2])), (h1, .inl (k0, 16, .inl f0))] sz) [(h0, .inr (1, [.ref h1, .int 0, .int 0, .int 3])), (h1, .inl (k0, 16, .inl f1))]) (va_A [(h0, .inr (1, [.ref h1, .int 0, .int 0, .int 2])), (h1, .inl (k0, 16, .inl f0))] sz)) 0 0 (va_A [(h0, .inr (1, [.ref h1, .int 0, .int 0, .int 2])), (h1, .inl (k0, 16, .inl f0))] sz) := by
  refine Met.ofW (cc := cJ4_append_cf468) (maxL := 2) (ret := (some (.object "java/lang/StringBuilder"))) (by decide) rfl ?_
  intro p e s m args below meth c s₁ B hml hv
  obtain ⟨rfl, hsz, hP, hK, hD0, hG⟩ := hv
  have hx := B.exec
  have hb := B.bytes
  have hr := B.returns
  have hts := atoms_spec (ws := wsJ4_append_cf468) B.pre
  have hown : s.vm.findClass RJ4 = some m.cls := findClass_of_methodNamed B.named
  have hlocks := B.notSynchronized
  subst hsz
  have hD := hD0.self (sz := s.heap.size)
  generalize hAe : va_A [(h0, .inr (1, [.ref h1, .int 0, .int 0, .int 2])), (h1, .inl (k0, 16, .inl f0))] s.heap.size = A at hD hG ⊢
  obtain ⟨⟨g_AO_Text, g_AO_String, g_AO_Object, g_nm_RX1_20, g_nm_RX0_17, g_nm_RX3_31, g_nm_RX2_44, g_nm_RL_121, g_nf_RL_13, g_nf_RL_47, g_ca_IO, g_ca_IA, g_ca_IS, g_ca_IntObj, g_ca_StrObj, g_de_RT, g_de_EX, g_de_TH, g_nc_IA_IO, g_nc_IS_IO, g_nc_IS_IA⟩, ⟨g_s3, g_s5, g_sa, g_x278, g_x280, g_x282, g_x284, g_x286, g_x180, g_x238, g_x250⟩, ⟨g_o5, g_c5, g_v5, g_t5, g_oa, g_ca, g_va, g_ta, g_zc, g_zd, g_td, g_zf, g_zU, g_zN, g_zh, g_zk, g_tk, g_oi, g_vi⟩⟩ := id hG
  have hA : ∀ q : Nat, s.heap.size ≤ q → A q := fun q h => by rw [← hAe]; exact Or.inr h
  have hS : va_S A s.heap s.heap [] := va_S.rf
  have hP : va_P (dC, dI) vwCl [(h0, .inr (1, [.ref h1, .int 0, .int 0, .int 2])), (h1, .inl (k0, 16, .inl f0))] s.heap := hP
  have hl := lv_entry ([.ref h0, .int 100]) (n := 2) (Nat.le_of_ble_eq_true rfl)
  rw [lg_entry_eq]
  generalize (lg_sl ([.ref h0, .int 100]) ++ List.replicate (2 - (lg_sl ([.ref h0, .int 100])).length) Slot.unset).toArray = ls at hl ⊢
  have hl : lv_has ls 2 [(0, .ref h0), (1, .int 100)] := hl
  refine lv_aload_n hx hb dJ4_append_cf468_0 rfl (lv_at hl 0 rfl) ?_
  refine lv_iload_n hx hb dJ4_append_cf468_1 rfl (lv_at hl 1 rfl) ?_
  have hPc := hP.sub (ws' := [(h0, .inr (1, [.ref h1, .int 0, .int 0, .int 2])), (h1, .inl (k0, 16, .inl f0))]) [0, 1] rfl
  have hDc := hD.sub (ws' := [(h0, .inr (1, [.ref h1, .int 0, .int 0, .int 2])), (h1, .inl (k0, 16, .inl f0))]) [0, 1] (by decide) rfl
  have hKc := hK.sub (tys' := [(k0, .byte)]) [0] rfl
  have hFc := va_free (wc := [(h0, .inr (1, [.ref h1, .int 0, .int 0, .int 2])), (h1, .inl (k0, 16, .inl f0))]) hD hS hA [0, 1] rfl
  refine va_callr (va_runSU (hK.1 1 _ rfl).2 (As := [.int 100]) (rest := []) ⟨hx, hb, hml, hown, hts⟩ (kx_J5_append_3fe6f_11 l dC dI ge5 gea gv5 gva gde gic gi0 h0 h1 k0 s.heap.size f0 f0_t) (va_cwSU 1 hts gJ4_append_cf468_J5_append_3fe6f_s50 rfl rfl rfl (by decide +kernel) ⟨Nat.le_of_ble_eq_true rfl, Nat.le_of_ble_eq_true rfl⟩) ⟨fun a U g mk q => by obtain ⟨q0, q1, qP, qK, qD, qG⟩ := q; exact ⟨q0, q1, qP, va_K.moved (u := U) (U := U.calling g mk a) (Vm.Alike.refl U.vm) qK, qD, gv.fb qG⟩, va_recv hKc hPc (ci := 1) (q0 := 0) rfl rfl, fun U hU hW => ⟨rfl, by rw [hU], by rw [hU]; exact hPc, va_K.moved hW.alike hKc, hDc.weaken (fun _ _ _ _ => trivial), gv.pass hW hU hS hFc hG⟩⟩ rfl rfl hl.1 rfl (lv_room (Nat.le_of_ble_eq_true rfl)) dJ4_append_cf468_2 ⟨Nat.le_of_ble_eq_true rfl, Nat.le_of_ble_eq_true rfl⟩) hS (fun q _ h => hFc q h) hFc (fun u ra t H1 locs ht hvm hw hB hz1 hk1 hS => ?_)
  obtain ⟨f1, f1_t, hra, hP1, hK1, hD1⟩ := hB
  rw [hra]
  rw [ht] at hP1
  have hK1 := va_K.moved hvm.symm hK1
  obtain ⟨hP, hD⟩ := va_join (wr := []) (w1 := [(h0, .inr (1, [.ref h1, .int 0, .int 0, .int 3])), (h1, .inl (k0, 16, .inl f1))]) hP hD [0, 1] [] rfl rfl (by decide) (by decide) hk1 hFc hP1 hD1
  generalize H1 = H at hP hS ⊢
  have hP : va_P (dC, dI) vwCl [(h0, .inr (1, [.ref h1, .int 0, .int 0, .int 3])), (h1, .inl (k0, 16, .inl f1))] H := hP
  have hD : va_D A [(h0, .inr (1, [.ref h1, .int 0, .int 0, .int 3])), (h1, .inl (k0, 16, .inl f1))] := hD
  refine lv_pop hx hb dJ4_append_cf468_5 rfl ?_
  refine lv_aload_n hx hb dJ4_append_cf468_6 rfl (lv_at hl 0 rfl) ?_
  exact W.aret (v := .ref h0) hx hb hr (Or.inl ⟨_, rfl⟩) (Or.inr ⟨_, rfl⟩) (fun t ht hW => ⟨⟨(), h0, rfl, trivial, f1, f1_t, rfl, by rw [ht]; exact hP, va_K.moved hW.alike hK, hD⟩, hS.F ht⟩) hS.2.2 dJ4_append_cf468_7
set_option maxHeartbeats 8000000 in
set_option maxRecDepth 100000 in
theorem kx_X5_type_h420 {l : Launch} {dC : Nat → ClassId} {dI : Nat → Nat → Nat} {ge5 gea gv5 gva gde gic gi0 : Nat} {h0 h1 h2 h3 h4 z0 z1 : Nat} {k0 k1 k2 : ClassId} {rp l1 l2 l3 l4 l5 R v : Int32} {p : Program} {e : Env} {s : State} {m : MethodId} {args : Array Value} {below : List Frame} {meth : Method} {c : Code} {A : Nat → Prop} {H : Heap} {locs : List Loc} {ls : Array Slot} {f0 : Nat → Int32} (f0_t : sb_Fit f0) (hR : kz_ty rp 2 0 [l5] = (R, v)) (hx : p.tables.exec = Jvm.exec) (hb : c.code = cX5_type) (hr : meth.sig.returnType = some .int) (hml : c.maxLocals = 14) (hown : s.vm.findClass RX5 = some m.cls) (hts : ∀ w ∈ wsX5_type, w.before args s = true) (hlocks : meth.locks = false) (hA : ∀ q : Nat, s.heap.size ≤ q → A q) (hG : gv ge5 gea gv5 gva gde gic gi0 A s s.heap) (hS : va_S A s.heap H locs) (hK : va_K (dC, dI) vwCl [(k0, .object "java/lang/String"), (k1, .int), (k2, .byte)] s) (hP : va_P (dC, dI) vwCl [(h0, .inr (9, [.int 0, .ref h1, .ref z0, .ref z1, .int 0, .int 0, .int 0])), (h1, .inl (k0, 4, .inr (.inr (.inr (.inr (va_up (va_up (va_up (va_up (fun _ => none) 0 (some ge5)) 1 (some ge5)) 2 (some ge5)) 3 (some ge5))))))), (h2, .inl (k1, 5, .inl (upd (upd (upd (upd (upd (fun _ => 0) 0 l1) 1 l2) 2 l3) 3 l4) 4 l5))), (h3, .inr (0, [.ref h4, .int 0, .int 0, .int 0])), (h4, .inl (k2, 2, .inl f0))] H) (hD : va_D A [(h0, .inr (9, [.int 0, .ref h1, .ref z0, .ref z1, .int 0, .int 0, .int 0])), (h1, .inl (k0, 4, .inr (.inr (.inr (.inr (va_up (va_up (va_up (va_up (fun _ => none) 0 (some ge5)) 1 (some ge5)) 2 (some ge5)) 3 (some ge5))))))), (h2, .inl (k1, 5, .inl (upd (upd (upd (upd (upd (fun _ => 0) 0 l1) 1 l2) 2 l3) 3 l4) 4 l5))), (h3, .inr (0, [.ref h4, .int 0, .int 0, .int 0])), (h4, .inl (k2, 2, .inl f0))]) (hl : lv_has ls 14 [(0, .ref h0), (1, .int rp), (7, .ref h2), (8, .int 0), (9, .ref h3), (10, .ref h2), (11, .int 5), (12, .int 4)]) : W p l e (headSpec wsX5_type ({ frames := 6, cells := 25, slots := 169, locals := 171 })).room s m args below meth c H locs 9 56 (MQ below (va_Qi (fun (r : Int32) (_ : Unit) => r = R) (fun (_ : Unit) (t : State) => va_P (dC, dI) vwCl [(h0, .inr (9, [.int v, .ref h1, .ref z0, .ref z1, .int 0, .int 0, .int 0]))] t.heap ∧ va_K (dC, dI) vwCl [(k0, .object "java/lang/String")] t ∧ va_D A [(h0, .inr (9, [.int v, .ref h1, .ref z0, .ref z1, .int 0, .int 0, .int 0]))]) A) args s 25 169 A) (F0 m 47 ls []) := by
  obtain ⟨⟨g_AO_Text, g_AO_String, g_AO_Object, g_nm_RX1_20, g_nm_RX0_17, g_nm_RX3_31, g_nm_RX2_44, g_nm_RL_121, g_nf_RL_13, g_nf_RL_47, g_ca_IO, g_ca_IA, g_ca_IS, g_ca_IntObj, g_ca_StrObj, g_de_RT, g_de_EX, g_de_TH, g_nc_IA_IO, g_nc_IS_IO, g_nc_IS_IA⟩, ⟨g_s3, g_s5, g_sa, g_x278, g_x280, g_x282, g_x284, g_x286, g_x180, g_x238, g_x250⟩, ⟨g_o5, g_c5, g_v5, g_t5, g_oa, g_ca, g_va, g_ta, g_zc, g_zd, g_td, g_zf, g_zU, g_zN, g_zh, g_zk, g_tk, g_oi, g_vi⟩⟩ := id hG
  have a9 := Int32.le_toInt l5
  have b9 := Int32.toInt_lt l5
  rcases kz_cls l5 with r9 | rfl | rfl | rfl | rfl | rfl | r9
  · have l5_l : ((-2147483648) : Int) ≤ l5.toInt := by omega
    have l5_u : l5.toInt ≤ ((-2) : Int) := by omega
    have hR : kz_ty rp 2 1 [] = (R, v) := (kz_ty_b (by omega)).symm.trans hR
    refine lv_iload hx hb dX5_type_47 (lv_at hl 7 rfl) ?_
    refine lv_iload hx hb dX5_type_49 (lv_at hl 6 rfl) ?_
    refine lv_icmp_ge (tgt := 124) hx hb dX5_type_51 (by decide) (fun c9 => absurd c9 (by decide)) (fun _ => ?_)
    refine lv_aload hx hb dX5_type_54 (lv_at hl 5 rfl) ?_
    refine lv_iload hx hb dX5_type_56 (lv_at hl 7 rfl) ?_
    refine va_iald (D := (dC, dI)) hx hb hK hP 2 1 rfl rfl (by unfold vp_in; decide) dX5_type_58 ?_
    refine W.eq (g2 := F0 m 59 ls [.int l5]) rfl ?_
    refine lv_istore (lv' := [(13, .int l5), (0, .ref h0), (1, .int rp), (7, .ref h2), (8, .int 0), (9, .ref h3), (10, .ref h2), (11, .int 5), (12, .int 4)]) hx hb dX5_type_59 hl (by decide) rfl (fun ls hl => ?_)
    refine lv_iload hx hb dX5_type_61 (lv_at hl 4 rfl) ?_
    refine lv_iload hx hb dX5_type_63 (lv_at hl 0 rfl) ?_
    refine lv_iconst (v := (-1)) hx hb dX5_type_65 (by decide) ?_
    refine lv_iconst (v := 3) hx hb dX5_type_66 (by decide) ?_
    have hPc := hP.sub (ws' := []) [] rfl
    have hDc := hD.sub (ws' := []) [] (by decide) rfl
    have hKc := hK.sub (tys' := []) [] rfl
    have hFc := va_free (wc := []) hD hS hA [] rfl
    refine va_calli (va_runS (As := [.int l5, .int (-1), .int 3]) (rest := [.int 0]) ⟨hx, hb, hml, hown, hts⟩ (kx_X5_isIn_3 l dC dI H.size l5 l5_l l5_u) (cwS 3 hts gX5_type_X5_isIn rfl rfl rfl (by decide +kernel) ⟨Nat.le_of_ble_eq_true rfl, Nat.le_of_ble_eq_true rfl⟩) ⟨fun a U g mk q => by obtain ⟨q0, q1, qP, qK, qD⟩ := q; exact ⟨q0, q1, qP, va_K.moved (u := U) (U := U.calling g mk a) (Vm.Alike.refl U.vm) qK, qD⟩, fun U hU hW => ⟨rfl, by rw [hU], by rw [hU]; exact hPc, va_K.moved hW.alike hKc, hDc.weaken (fun _ _ _ _ => trivial)⟩⟩ rfl rfl hl.1 rfl (lv_room (Nat.le_of_ble_eq_true rfl)) dX5_type_67 ⟨Nat.le_of_ble_eq_true rfl, Nat.le_of_ble_eq_true rfl⟩) hS (fun q _ h => hFc q h) hFc (fun r9 u t H1 locs ht hvm hw hB hz1 hk1 hS => ?_)
    obtain rfl := hw
    obtain ⟨hP1, hK1, hD1⟩ := hB
    rw [ht] at hP1
    have hK1 := va_K.moved hvm.symm hK1
    obtain ⟨hP, hD⟩ := va_join (wr := [(h0, .inr (9, [.int 0, .ref h1, .ref z0, .ref z1, .int 0, .int 0, .int 0])), (h1, .inl (k0, 4, .inr (.inr (.inr (.inr (va_up (va_up (va_up (va_up (fun _ => none) 0 (some ge5)) 1 (some ge5)) 2 (some ge5)) 3 (some ge5))))))), (h2, .inl (k1, 5, .inl (upd (upd (upd (upd (upd (fun _ => 0) 0 l1) 1 l2) 2 l3) 3 l4) 4 l5))), (h3, .inr (0, [.ref h4, .int 0, .int 0, .int 0])), (h4, .inl (k2, 2, .inl f0))]) (w1 := []) hP hD [] [0, 1, 2, 3, 4] rfl rfl (by decide) (by decide) hk1 hFc hP1 hD1
    generalize H1 = H at hP hS ⊢
    have hP : va_P (dC, dI) vwCl [(h0, .inr (9, [.int 0, .ref h1, .ref z0, .ref z1, .int 0, .int 0, .int 0])), (h1, .inl (k0, 4, .inr (.inr (.inr (.inr (va_up (va_up (va_up (va_up (fun _ => none) 0 (some ge5)) 1 (some ge5)) 2 (some ge5)) 3 (some ge5))))))), (h2, .inl (k1, 5, .inl (upd (upd (upd (upd (upd (fun _ => 0) 0 l1) 1 l2) 2 l3) 3 l4) 4 l5))), (h3, .inr (0, [.ref h4, .int 0, .int 0, .int 0])), (h4, .inl (k2, 2, .inl f0))] H := hP
    have hD : va_D A [(h0, .inr (9, [.int 0, .ref h1, .ref z0, .ref z1, .int 0, .int 0, .int 0])), (h1, .inl (k0, 4, .inr (.inr (.inr (.inr (va_up (va_up (va_up (va_up (fun _ => none) 0 (some ge5)) 1 (some ge5)) 2 (some ge5)) 3 (some ge5))))))), (h2, .inl (k1, 5, .inl (upd (upd (upd (upd (upd (fun _ => 0) 0 l1) 1 l2) 2 l3) 3 l4) 4 l5))), (h3, .inr (0, [.ref h4, .int 0, .int 0, .int 0])), (h4, .inl (k2, 2, .inl f0))] := hD
    refine lv_if_ne (tgt := 77) hx hb dX5_type_70 (by decide) (fun c9 => absurd (by decide) c9) (fun _ => ?_)
    refine lv_iconst (v := 1) hx hb dX5_type_73 (by decide) ?_
    refine lv_goto (tgt := 78) hx hb dX5_type_74 (by decide) ?_
    refine lv_ior hx hb dX5_type_78 ?_
    refine lv_topi (fun y101 ey101 => ?_)
    obtain rfl : y101 = 1 := ey101.trans (by decide)
    refine lv_istore (lv' := [(8, .int 1), (13, .int l5), (0, .ref h0), (1, .int rp), (7, .ref h2), (9, .ref h3), (10, .ref h2), (11, .int 5), (12, .int 4)]) hx hb dX5_type_79 hl (by decide) rfl (fun ls hl => ?_)
    refine lv_iload hx hb dX5_type_81 (lv_at hl 1 rfl) ?_
    refine lv_iconst (v := 0) hx hb dX5_type_83 (by decide) ?_
    refine lv_iconst (v := 3) hx hb dX5_type_84 (by decide) ?_
    have hPc := hP.sub (ws' := []) [] rfl
    have hDc := hD.sub (ws' := []) [] (by decide) rfl
    have hKc := hK.sub (tys' := []) [] rfl
    have hFc := va_free (wc := []) hD hS hA [] rfl
    refine va_calli (va_runS (As := [.int l5, .int 0, .int 3]) (rest := []) ⟨hx, hb, hml, hown, hts⟩ (kx_X5_isIn_4 l dC dI H.size l5 l5_l l5_u) (cwS 3 hts gX5_type_X5_isIn rfl rfl rfl (by decide +kernel) ⟨Nat.le_of_ble_eq_true rfl, Nat.le_of_ble_eq_true rfl⟩) ⟨fun a U g mk q => by obtain ⟨q0, q1, qP, qK, qD⟩ := q; exact ⟨q0, q1, qP, va_K.moved (u := U) (U := U.calling g mk a) (Vm.Alike.refl U.vm) qK, qD⟩, fun U hU hW => ⟨rfl, by rw [hU], by rw [hU]; exact hPc, va_K.moved hW.alike hKc, hDc.weaken (fun _ _ _ _ => trivial)⟩⟩ rfl rfl hl.1 rfl (lv_room (Nat.le_of_ble_eq_true rfl)) dX5_type_85 ⟨Nat.le_of_ble_eq_true rfl, Nat.le_of_ble_eq_true rfl⟩) hS (fun q _ h => hFc q h) hFc (fun r9 u t H1 locs ht hvm hw hB hz1 hk1 hS => ?_)
    obtain rfl := hw
    obtain ⟨hP1, hK1, hD1⟩ := hB
    rw [ht] at hP1
    have hK1 := va_K.moved hvm.symm hK1
    obtain ⟨hP, hD⟩ := va_join (wr := [(h0, .inr (9, [.int 0, .ref h1, .ref z0, .ref z1, .int 0, .int 0, .int 0])), (h1, .inl (k0, 4, .inr (.inr (.inr (.inr (va_up (va_up (va_up (va_up (fun _ => none) 0 (some ge5)) 1 (some ge5)) 2 (some ge5)) 3 (some ge5))))))), (h2, .inl (k1, 5, .inl (upd (upd (upd (upd (upd (fun _ => 0) 0 l1) 1 l2) 2 l3) 3 l4) 4 l5))), (h3, .inr (0, [.ref h4, .int 0, .int 0, .int 0])), (h4, .inl (k2, 2, .inl f0))]) (w1 := []) hP hD [] [0, 1, 2, 3, 4] rfl rfl (by decide) (by decide) hk1 hFc hP1 hD1
    generalize H1 = H at hP hS ⊢
    have hP : va_P (dC, dI) vwCl [(h0, .inr (9, [.int 0, .ref h1, .ref z0, .ref z1, .int 0, .int 0, .int 0])), (h1, .inl (k0, 4, .inr (.inr (.inr (.inr (va_up (va_up (va_up (va_up (fun _ => none) 0 (some ge5)) 1 (some ge5)) 2 (some ge5)) 3 (some ge5))))))), (h2, .inl (k1, 5, .inl (upd (upd (upd (upd (upd (fun _ => 0) 0 l1) 1 l2) 2 l3) 3 l4) 4 l5))), (h3, .inr (0, [.ref h4, .int 0, .int 0, .int 0])), (h4, .inl (k2, 2, .inl f0))] H := hP
    have hD : va_D A [(h0, .inr (9, [.int 0, .ref h1, .ref z0, .ref z1, .int 0, .int 0, .int 0])), (h1, .inl (k0, 4, .inr (.inr (.inr (.inr (va_up (va_up (va_up (va_up (fun _ => none) 0 (some ge5)) 1 (some ge5)) 2 (some ge5)) 3 (some ge5))))))), (h2, .inl (k1, 5, .inl (upd (upd (upd (upd (upd (fun _ => 0) 0 l1) 1 l2) 2 l3) 3 l4) 4 l5))), (h3, .inr (0, [.ref h4, .int 0, .int 0, .int 0])), (h4, .inl (k2, 2, .inl f0))] := hD
    refine lv_if_eq (tgt := 118) hx hb dX5_type_88 (by decide) (fun _ => ?_) (fun c9 => absurd (by decide) c9)
    refine lv_iinc (v := 5) (lv' := [(12, .int 5), (8, .int 1), (13, .int l5), (0, .ref h0), (1, .int rp), (7, .ref h2), (9, .ref h3), (10, .ref h2), (11, .int 5)]) hx hb dX5_type_118 hl (k := 8) rfl (by decide) (by decide) rfl (fun ls hl => ?_)
    refine lv_goto (tgt := 47) hx hb dX5_type_121 (by decide) ?_
    have hP := hP.sub (ws' := [(h0, .inr (9, [.int 0, .ref h1, .ref z0, .ref z1, .int 0, .int 0, .int 0])), (h1, .inl (k0, 4, .inr (.inr (.inr (.inr (va_up (va_up (va_up (va_up (fun _ => none) 0 (some ge5)) 1 (some ge5)) 2 (some ge5)) 3 (some ge5))))))), (h2, .inl (k1, 5, .inl (upd (upd (upd (upd (upd (fun _ => 0) 0 l1) 1 l2) 2 l3) 3 l4) 4 l5))), (h3, .inr (0, [.ref h4, .int 0, .int 0, .int 0])), (h4, .inl (k2, 2, .inl f0))]) [0, 1, 2, 3, 4] rfl
    have hD := hD.sub (ws' := [(h0, .inr (9, [.int 0, .ref h1, .ref z0, .ref z1, .int 0, .int 0, .int 0])), (h1, .inl (k0, 4, .inr (.inr (.inr (.inr (va_up (va_up (va_up (va_up (fun _ => none) 0 (some ge5)) 1 (some ge5)) 2 (some ge5)) 3 (some ge5))))))), (h2, .inl (k1, 5, .inl (upd (upd (upd (upd (upd (fun _ => 0) 0 l1) 1 l2) 2 l3) 3 l4) 4 l5))), (h3, .inr (0, [.ref h4, .int 0, .int 0, .int 0])), (h4, .inl (k2, 2, .inl f0))]) [0, 1, 2, 3, 4] (by decide) rfl
    have hK := hK.sub (tys' := [(k0, .object "java/lang/String"), (k1, .int), (k2, .byte)]) [0, 1, 2] rfl
    have hl := lv_sub hl [3, 4, 5, 1, 6, 7, 8, 0] (show lv_pick [(12, .int 5), (8, .int 1), (13, .int l5), (0, .ref h0), (1, .int rp), (7, .ref h2), (9, .ref h3), (10, .ref h2), (11, .int 5)] [3, 4, 5, 1, 6, 7, 8, 0] = [(0, .ref h0), (1, .int rp), (7, .ref h2), (8, .int 1), (9, .ref h3), (10, .ref h2), (11, .int 5), (12, .int 5)] from rfl)
    exact kx_X5_type_h521 f0_t hR hx hb hr hml hown hts hlocks hA hG hS hK hP hD hl
  · have hR : kz_ty rp 2 0 [] = (R, v) := kz_ty_n.symm.trans hR
    refine lv_iload hx hb dX5_type_47 (lv_at hl 7 rfl) ?_
    refine lv_iload hx hb dX5_type_49 (lv_at hl 6 rfl) ?_
    refine lv_icmp_ge (tgt := 124) hx hb dX5_type_51 (by decide) (fun c9 => absurd c9 (by decide)) (fun _ => ?_)
    refine lv_aload hx hb dX5_type_54 (lv_at hl 5 rfl) ?_
    refine lv_iload hx hb dX5_type_56 (lv_at hl 7 rfl) ?_
    refine va_iald (D := (dC, dI)) hx hb hK hP 2 1 rfl rfl (by unfold vp_in; decide) dX5_type_58 ?_
    refine W.eq (g2 := F0 m 59 ls [.int (-1)]) rfl ?_
    refine lv_istore (lv' := [(13, .int (-1)), (0, .ref h0), (1, .int rp), (7, .ref h2), (8, .int 0), (9, .ref h3), (10, .ref h2), (11, .int 5), (12, .int 4)]) hx hb dX5_type_59 hl (by decide) rfl (fun ls hl => ?_)
    refine lv_iload hx hb dX5_type_61 (lv_at hl 4 rfl) ?_
    refine lv_iload hx hb dX5_type_63 (lv_at hl 0 rfl) ?_
    refine lv_iconst (v := (-1)) hx hb dX5_type_65 (by decide) ?_
    refine lv_iconst (v := 3) hx hb dX5_type_66 (by decide) ?_
    have hPc := hP.sub (ws' := []) [] rfl
    have hDc := hD.sub (ws' := []) [] (by decide) rfl
    have hKc := hK.sub (tys' := []) [] rfl
    have hFc := va_free (wc := []) hD hS hA [] rfl
    refine va_calli (va_runS (As := [.int (-1), .int (-1), .int 3]) (rest := [.int 0]) ⟨hx, hb, hml, hown, hts⟩ (kx_X5_isIn_5 l dC dI H.size) (cwS 3 hts gX5_type_X5_isIn rfl rfl rfl (by decide +kernel) ⟨Nat.le_of_ble_eq_true rfl, Nat.le_of_ble_eq_true rfl⟩) ⟨fun a U g mk q => by obtain ⟨q0, q1, qP, qK, qD⟩ := q; exact ⟨q0, q1, qP, va_K.moved (u := U) (U := U.calling g mk a) (Vm.Alike.refl U.vm) qK, qD⟩, fun U hU hW => ⟨rfl, by rw [hU], by rw [hU]; exact hPc, va_K.moved hW.alike hKc, hDc.weaken (fun _ _ _ _ => trivial)⟩⟩ rfl rfl hl.1 rfl (lv_room (Nat.le_of_ble_eq_true rfl)) dX5_type_67 ⟨Nat.le_of_ble_eq_true rfl, Nat.le_of_ble_eq_true rfl⟩) hS (fun q _ h => hFc q h) hFc (fun r9 u t H1 locs ht hvm hw hB hz1 hk1 hS => ?_)
    obtain rfl := hw
    obtain ⟨hP1, hK1, hD1⟩ := hB
    rw [ht] at hP1
    have hK1 := va_K.moved hvm.symm hK1
    obtain ⟨hP, hD⟩ := va_join (wr := [(h0, .inr (9, [.int 0, .ref h1, .ref z0, .ref z1, .int 0, .int 0, .int 0])), (h1, .inl (k0, 4, .inr (.inr (.inr (.inr (va_up (va_up (va_up (va_up (fun _ => none) 0 (some ge5)) 1 (some ge5)) 2 (some ge5)) 3 (some ge5))))))), (h2, .inl (k1, 5, .inl (upd (upd (upd (upd (upd (fun _ => 0) 0 l1) 1 l2) 2 l3) 3 l4) 4 (-1)))), (h3, .inr (0, [.ref h4, .int 0, .int 0, .int 0])), (h4, .inl (k2, 2, .inl f0))]) (w1 := []) hP hD [] [0, 1, 2, 3, 4] rfl rfl (by decide) (by decide) hk1 hFc hP1 hD1
    generalize H1 = H at hP hS ⊢
    have hP : va_P (dC, dI) vwCl [(h0, .inr (9, [.int 0, .ref h1, .ref z0, .ref z1, .int 0, .int 0, .int 0])), (h1, .inl (k0, 4, .inr (.inr (.inr (.inr (va_up (va_up (va_up (va_up (fun _ => none) 0 (some ge5)) 1 (some ge5)) 2 (some ge5)) 3 (some ge5))))))), (h2, .inl (k1, 5, .inl (upd (upd (upd (upd (upd (fun _ => 0) 0 l1) 1 l2) 2 l3) 3 l4) 4 (-1)))), (h3, .inr (0, [.ref h4, .int 0, .int 0, .int 0])), (h4, .inl (k2, 2, .inl f0))] H := hP
    have hD : va_D A [(h0, .inr (9, [.int 0, .ref h1, .ref z0, .ref z1, .int 0, .int 0, .int 0])), (h1, .inl (k0, 4, .inr (.inr (.inr (.inr (va_up (va_up (va_up (va_up (fun _ => none) 0 (some ge5)) 1 (some ge5)) 2 (some ge5)) 3 (some ge5))))))), (h2, .inl (k1, 5, .inl (upd (upd (upd (upd (upd (fun _ => 0) 0 l1) 1 l2) 2 l3) 3 l4) 4 (-1)))), (h3, .inr (0, [.ref h4, .int 0, .int 0, .int 0])), (h4, .inl (k2, 2, .inl f0))] := hD
    refine lv_if_ne (tgt := 77) hx hb dX5_type_70 (by decide) (fun _ => ?_) (fun c9 => absurd c9 (by decide))
    refine lv_iconst (v := 0) hx hb dX5_type_77 (by decide) ?_
    refine lv_ior hx hb dX5_type_78 ?_
    refine lv_topi (fun y101 ey101 => ?_)
    obtain rfl : y101 = 0 := ey101.trans (by decide)
    refine lv_istore (lv' := [(8, .int 0), (13, .int (-1)), (0, .ref h0), (1, .int rp), (7, .ref h2), (9, .ref h3), (10, .ref h2), (11, .int 5), (12, .int 4)]) hx hb dX5_type_79 hl (by decide) rfl (fun ls hl => ?_)
    refine lv_iload hx hb dX5_type_81 (lv_at hl 1 rfl) ?_
    refine lv_iconst (v := 0) hx hb dX5_type_83 (by decide) ?_
    refine lv_iconst (v := 3) hx hb dX5_type_84 (by decide) ?_
    have hPc := hP.sub (ws' := []) [] rfl
    have hDc := hD.sub (ws' := []) [] (by decide) rfl
    have hKc := hK.sub (tys' := []) [] rfl
    have hFc := va_free (wc := []) hD hS hA [] rfl
    refine va_calli (va_runS (As := [.int (-1), .int 0, .int 3]) (rest := []) ⟨hx, hb, hml, hown, hts⟩ (kx_X5_isIn_6 l dC dI H.size) (cwS 3 hts gX5_type_X5_isIn rfl rfl rfl (by decide +kernel) ⟨Nat.le_of_ble_eq_true rfl, Nat.le_of_ble_eq_true rfl⟩) ⟨fun a U g mk q => by obtain ⟨q0, q1, qP, qK, qD⟩ := q; exact ⟨q0, q1, qP, va_K.moved (u := U) (U := U.calling g mk a) (Vm.Alike.refl U.vm) qK, qD⟩, fun U hU hW => ⟨rfl, by rw [hU], by rw [hU]; exact hPc, va_K.moved hW.alike hKc, hDc.weaken (fun _ _ _ _ => trivial)⟩⟩ rfl rfl hl.1 rfl (lv_room (Nat.le_of_ble_eq_true rfl)) dX5_type_85 ⟨Nat.le_of_ble_eq_true rfl, Nat.le_of_ble_eq_true rfl⟩) hS (fun q _ h => hFc q h) hFc (fun r9 u t H1 locs ht hvm hw hB hz1 hk1 hS => ?_)
    obtain rfl := hw
    obtain ⟨hP1, hK1, hD1⟩ := hB
    rw [ht] at hP1
    have hK1 := va_K.moved hvm.symm hK1
    obtain ⟨hP, hD⟩ := va_join (wr := [(h0, .inr (9, [.int 0, .ref h1, .ref z0, .ref z1, .int 0, .int 0, .int 0])), (h1, .inl (k0, 4, .inr (.inr (.inr (.inr (va_up (va_up (va_up (va_up (fun _ => none) 0 (some ge5)) 1 (some ge5)) 2 (some ge5)) 3 (some ge5))))))), (h2, .inl (k1, 5, .inl (upd (upd (upd (upd (upd (fun _ => 0) 0 l1) 1 l2) 2 l3) 3 l4) 4 (-1)))), (h3, .inr (0, [.ref h4, .int 0, .int 0, .int 0])), (h4, .inl (k2, 2, .inl f0))]) (w1 := []) hP hD [] [0, 1, 2, 3, 4] rfl rfl (by decide) (by decide) hk1 hFc hP1 hD1
    generalize H1 = H at hP hS ⊢
    have hP : va_P (dC, dI) vwCl [(h0, .inr (9, [.int 0, .ref h1, .ref z0, .ref z1, .int 0, .int 0, .int 0])), (h1, .inl (k0, 4, .inr (.inr (.inr (.inr (va_up (va_up (va_up (va_up (fun _ => none) 0 (some ge5)) 1 (some ge5)) 2 (some ge5)) 3 (some ge5))))))), (h2, .inl (k1, 5, .inl (upd (upd (upd (upd (upd (fun _ => 0) 0 l1) 1 l2) 2 l3) 3 l4) 4 (-1)))), (h3, .inr (0, [.ref h4, .int 0, .int 0, .int 0])), (h4, .inl (k2, 2, .inl f0))] H := hP
    have hD : va_D A [(h0, .inr (9, [.int 0, .ref h1, .ref z0, .ref z1, .int 0, .int 0, .int 0])), (h1, .inl (k0, 4, .inr (.inr (.inr (.inr (va_up (va_up (va_up (va_up (fun _ => none) 0 (some ge5)) 1 (some ge5)) 2 (some ge5)) 3 (some ge5))))))), (h2, .inl (k1, 5, .inl (upd (upd (upd (upd (upd (fun _ => 0) 0 l1) 1 l2) 2 l3) 3 l4) 4 (-1)))), (h3, .inr (0, [.ref h4, .int 0, .int 0, .int 0])), (h4, .inl (k2, 2, .inl f0))] := hD
    refine lv_if_eq (tgt := 118) hx hb dX5_type_88 (by decide) (fun _ => ?_) (fun c9 => absurd (by decide) c9)
    refine lv_iinc (v := 5) (lv' := [(12, .int 5), (8, .int 0), (13, .int (-1)), (0, .ref h0), (1, .int rp), (7, .ref h2), (9, .ref h3), (10, .ref h2), (11, .int 5)]) hx hb dX5_type_118 hl (k := 8) rfl (by decide) (by decide) rfl (fun ls hl => ?_)
    refine lv_goto (tgt := 47) hx hb dX5_type_121 (by decide) ?_
    have hP := hP.sub (ws' := [(h0, .inr (9, [.int 0, .ref h1, .ref z0, .ref z1, .int 0, .int 0, .int 0])), (h1, .inl (k0, 4, .inr (.inr (.inr (.inr (va_up (va_up (va_up (va_up (fun _ => none) 0 (some ge5)) 1 (some ge5)) 2 (some ge5)) 3 (some ge5))))))), (h2, .inl (k1, 5, .inl (upd (upd (upd (upd (upd (fun _ => 0) 0 l1) 1 l2) 2 l3) 3 l4) 4 (-1)))), (h3, .inr (0, [.ref h4, .int 0, .int 0, .int 0])), (h4, .inl (k2, 2, .inl f0))]) [0, 1, 2, 3, 4] rfl
    have hD := hD.sub (ws' := [(h0, .inr (9, [.int 0, .ref h1, .ref z0, .ref z1, .int 0, .int 0, .int 0])), (h1, .inl (k0, 4, .inr (.inr (.inr (.inr (va_up (va_up (va_up (va_up (fun _ => none) 0 (some ge5)) 1 (some ge5)) 2 (some ge5)) 3 (some ge5))))))), (h2, .inl (k1, 5, .inl (upd (upd (upd (upd (upd (fun _ => 0) 0 l1) 1 l2) 2 l3) 3 l4) 4 (-1)))), (h3, .inr (0, [.ref h4, .int 0, .int 0, .int 0])), (h4, .inl (k2, 2, .inl f0))]) [0, 1, 2, 3, 4] (by decide) rfl
    have hK := hK.sub (tys' := [(k0, .object "java/lang/String"), (k1, .int), (k2, .byte)]) [0, 1, 2] rfl
    have hl := lv_sub hl [3, 4, 5, 1, 6, 7, 8, 0] (show lv_pick [(12, .int 5), (8, .int 0), (13, .int (-1)), (0, .ref h0), (1, .int rp), (7, .ref h2), (9, .ref h3), (10, .ref h2), (11, .int 5)] [3, 4, 5, 1, 6, 7, 8, 0] = [(0, .ref h0), (1, .int rp), (7, .ref h2), (8, .int 0), (9, .ref h3), (10, .ref h2), (11, .int 5), (12, .int 5)] from rfl)
    exact kx_X5_type_h520 f0_t hR hx hb hr hml hown hts hlocks hA hG hS hK hP hD hl
  · have hR : kz_ty rp 3 0 [] = (R, v) := (kz_ty_g (by decide) (by decide)).symm.trans hR
    refine lv_iload hx hb dX5_type_47 (lv_at hl 7 rfl) ?_
    refine lv_iload hx hb dX5_type_49 (lv_at hl 6 rfl) ?_
    refine lv_icmp_ge (tgt := 124) hx hb dX5_type_51 (by decide) (fun c9 => absurd c9 (by decide)) (fun _ => ?_)
    refine lv_aload hx hb dX5_type_54 (lv_at hl 5 rfl) ?_
    refine lv_iload hx hb dX5_type_56 (lv_at hl 7 rfl) ?_
    refine va_iald (D := (dC, dI)) hx hb hK hP 2 1 rfl rfl (by unfold vp_in; decide) dX5_type_58 ?_
    refine W.eq (g2 := F0 m 59 ls [.int 0]) rfl ?_
    refine lv_istore (lv' := [(13, .int 0), (0, .ref h0), (1, .int rp), (7, .ref h2), (8, .int 0), (9, .ref h3), (10, .ref h2), (11, .int 5), (12, .int 4)]) hx hb dX5_type_59 hl (by decide) rfl (fun ls hl => ?_)
    refine lv_iload hx hb dX5_type_61 (lv_at hl 4 rfl) ?_
    refine lv_iload hx hb dX5_type_63 (lv_at hl 0 rfl) ?_
    refine lv_iconst (v := (-1)) hx hb dX5_type_65 (by decide) ?_
    refine lv_iconst (v := 3) hx hb dX5_type_66 (by decide) ?_
    have hPc := hP.sub (ws' := []) [] rfl
    have hDc := hD.sub (ws' := []) [] (by decide) rfl
    have hKc := hK.sub (tys' := []) [] rfl
    have hFc := va_free (wc := []) hD hS hA [] rfl
    refine va_calli (va_runS (As := [.int 0, .int (-1), .int 3]) (rest := [.int 0]) ⟨hx, hb, hml, hown, hts⟩ (kx_X5_isIn_7 l dC dI H.size) (cwS 3 hts gX5_type_X5_isIn rfl rfl rfl (by decide +kernel) ⟨Nat.le_of_ble_eq_true rfl, Nat.le_of_ble_eq_true rfl⟩) ⟨fun a U g mk q => by obtain ⟨q0, q1, qP, qK, qD⟩ := q; exact ⟨q0, q1, qP, va_K.moved (u := U) (U := U.calling g mk a) (Vm.Alike.refl U.vm) qK, qD⟩, fun U hU hW => ⟨rfl, by rw [hU], by rw [hU]; exact hPc, va_K.moved hW.alike hKc, hDc.weaken (fun _ _ _ _ => trivial)⟩⟩ rfl rfl hl.1 rfl (lv_room (Nat.le_of_ble_eq_true rfl)) dX5_type_67 ⟨Nat.le_of_ble_eq_true rfl, Nat.le_of_ble_eq_true rfl⟩) hS (fun q _ h => hFc q h) hFc (fun r9 u t H1 locs ht hvm hw hB hz1 hk1 hS => ?_)
    obtain rfl := hw
    obtain ⟨hP1, hK1, hD1⟩ := hB
    rw [ht] at hP1
    have hK1 := va_K.moved hvm.symm hK1
    obtain ⟨hP, hD⟩ := va_join (wr := [(h0, .inr (9, [.int 0, .ref h1, .ref z0, .ref z1, .int 0, .int 0, .int 0])), (h1, .inl (k0, 4, .inr (.inr (.inr (.inr (va_up (va_up (va_up (va_up (fun _ => none) 0 (some ge5)) 1 (some ge5)) 2 (some ge5)) 3 (some ge5))))))), (h2, .inl (k1, 5, .inl (upd (upd (upd (upd (upd (fun _ => 0) 0 l1) 1 l2) 2 l3) 3 l4) 4 0))), (h3, .inr (0, [.ref h4, .int 0, .int 0, .int 0])), (h4, .inl (k2, 2, .inl f0))]) (w1 := []) hP hD [] [0, 1, 2, 3, 4] rfl rfl (by decide) (by decide) hk1 hFc hP1 hD1
    generalize H1 = H at hP hS ⊢
    have hP : va_P (dC, dI) vwCl [(h0, .inr (9, [.int 0, .ref h1, .ref z0, .ref z1, .int 0, .int 0, .int 0])), (h1, .inl (k0, 4, .inr (.inr (.inr (.inr (va_up (va_up (va_up (va_up (fun _ => none) 0 (some ge5)) 1 (some ge5)) 2 (some ge5)) 3 (some ge5))))))), (h2, .inl (k1, 5, .inl (upd (upd (upd (upd (upd (fun _ => 0) 0 l1) 1 l2) 2 l3) 3 l4) 4 0))), (h3, .inr (0, [.ref h4, .int 0, .int 0, .int 0])), (h4, .inl (k2, 2, .inl f0))] H := hP
    have hD : va_D A [(h0, .inr (9, [.int 0, .ref h1, .ref z0, .ref z1, .int 0, .int 0, .int 0])), (h1, .inl (k0, 4, .inr (.inr (.inr (.inr (va_up (va_up (va_up (va_up (fun _ => none) 0 (some ge5)) 1 (some ge5)) 2 (some ge5)) 3 (some ge5))))))), (h2, .inl (k1, 5, .inl (upd (upd (upd (upd (upd (fun _ => 0) 0 l1) 1 l2) 2 l3) 3 l4) 4 0))), (h3, .inr (0, [.ref h4, .int 0, .int 0, .int 0])), (h4, .inl (k2, 2, .inl f0))] := hD
    refine lv_if_ne (tgt := 77) hx hb dX5_type_70 (by decide) (fun _ => ?_) (fun c9 => absurd c9 (by decide))
    refine lv_iconst (v := 0) hx hb dX5_type_77 (by decide) ?_
    refine lv_ior hx hb dX5_type_78 ?_
    refine lv_topi (fun y101 ey101 => ?_)
    obtain rfl : y101 = 0 := ey101.trans (by decide)
    refine lv_istore (lv' := [(8, .int 0), (13, .int 0), (0, .ref h0), (1, .int rp), (7, .ref h2), (9, .ref h3), (10, .ref h2), (11, .int 5), (12, .int 4)]) hx hb dX5_type_79 hl (by decide) rfl (fun ls hl => ?_)
    refine lv_iload hx hb dX5_type_81 (lv_at hl 1 rfl) ?_
    refine lv_iconst (v := 0) hx hb dX5_type_83 (by decide) ?_
    refine lv_iconst (v := 3) hx hb dX5_type_84 (by decide) ?_
    have hPc := hP.sub (ws' := []) [] rfl
    have hDc := hD.sub (ws' := []) [] (by decide) rfl
    have hKc := hK.sub (tys' := []) [] rfl
    have hFc := va_free (wc := []) hD hS hA [] rfl
    refine va_calli (va_runS (As := [.int 0, .int 0, .int 3]) (rest := []) ⟨hx, hb, hml, hown, hts⟩ (kx_X5_isIn_8 l dC dI H.size) (cwS 3 hts gX5_type_X5_isIn rfl rfl rfl (by decide +kernel) ⟨Nat.le_of_ble_eq_true rfl, Nat.le_of_ble_eq_true rfl⟩) ⟨fun a U g mk q => by obtain ⟨q0, q1, qP, qK, qD⟩ := q; exact ⟨q0, q1, qP, va_K.moved (u := U) (U := U.calling g mk a) (Vm.Alike.refl U.vm) qK, qD⟩, fun U hU hW => ⟨rfl, by rw [hU], by rw [hU]; exact hPc, va_K.moved hW.alike hKc, hDc.weaken (fun _ _ _ _ => trivial)⟩⟩ rfl rfl hl.1 rfl (lv_room (Nat.le_of_ble_eq_true rfl)) dX5_type_85 ⟨Nat.le_of_ble_eq_true rfl, Nat.le_of_ble_eq_true rfl⟩) hS (fun q _ h => hFc q h) hFc (fun r9 u t H1 locs ht hvm hw hB hz1 hk1 hS => ?_)
    obtain rfl := hw
    obtain ⟨hP1, hK1, hD1⟩ := hB
    rw [ht] at hP1
    have hK1 := va_K.moved hvm.symm hK1
    obtain ⟨hP, hD⟩ := va_join (wr := [(h0, .inr (9, [.int 0, .ref h1, .ref z0, .ref z1, .int 0, .int 0, .int 0])), (h1, .inl (k0, 4, .inr (.inr (.inr (.inr (va_up (va_up (va_up (va_up (fun _ => none) 0 (some ge5)) 1 (some ge5)) 2 (some ge5)) 3 (some ge5))))))), (h2, .inl (k1, 5, .inl (upd (upd (upd (upd (upd (fun _ => 0) 0 l1) 1 l2) 2 l3) 3 l4) 4 0))), (h3, .inr (0, [.ref h4, .int 0, .int 0, .int 0])), (h4, .inl (k2, 2, .inl f0))]) (w1 := []) hP hD [] [0, 1, 2, 3, 4] rfl rfl (by decide) (by decide) hk1 hFc hP1 hD1
    generalize H1 = H at hP hS ⊢
    have hP : va_P (dC, dI) vwCl [(h0, .inr (9, [.int 0, .ref h1, .ref z0, .ref z1, .int 0, .int 0, .int 0])), (h1, .inl (k0, 4, .inr (.inr (.inr (.inr (va_up (va_up (va_up (va_up (fun _ => none) 0 (some ge5)) 1 (some ge5)) 2 (some ge5)) 3 (some ge5))))))), (h2, .inl (k1, 5, .inl (upd (upd (upd (upd (upd (fun _ => 0) 0 l1) 1 l2) 2 l3) 3 l4) 4 0))), (h3, .inr (0, [.ref h4, .int 0, .int 0, .int 0])), (h4, .inl (k2, 2, .inl f0))] H := hP
    have hD : va_D A [(h0, .inr (9, [.int 0, .ref h1, .ref z0, .ref z1, .int 0, .int 0, .int 0])), (h1, .inl (k0, 4, .inr (.inr (.inr (.inr (va_up (va_up (va_up (va_up (fun _ => none) 0 (some ge5)) 1 (some ge5)) 2 (some ge5)) 3 (some ge5))))))), (h2, .inl (k1, 5, .inl (upd (upd (upd (upd (upd (fun _ => 0) 0 l1) 1 l2) 2 l3) 3 l4) 4 0))), (h3, .inr (0, [.ref h4, .int 0, .int 0, .int 0])), (h4, .inl (k2, 2, .inl f0))] := hD
    refine lv_if_eq (tgt := 118) hx hb dX5_type_88 (by decide) (fun c9 => absurd c9 (by decide)) (fun _ => ?_)
    refine va_new (ci := 1) (fs := [.null, .int 0, .int 0, .int 0]) (C := RJ4) (T := TJ4) (N := 4) hx hb hts (by decide +kernel) tyJ4 tyJ4_ok hown (hts (.classLink RX5 49 RJ4) (by decide +kernel)) (hts (.instantiable RJ4 4) (by decide +kernel)) (hts (.initialized RJ4) (by decide +kernel)) hK hP hD hS hA rfl (fun j hj => by rcases (show j = 0 ∨ j = 1 ∨ j = 2 ∨ j = 3 by omega) with rfl | rfl | rfl | rfl <;> rfl) (Nat.le_of_ble_eq_true rfl) (Nat.le_of_ble_eq_true rfl) dX5_type_91 (fun q102 H hP hD hS => ?_)
    have hP : va_P (dC, dI) vwCl [(h0, .inr (9, [.int 0, .ref h1, .ref z0, .ref z1, .int 0, .int 0, .int 0])), (h1, .inl (k0, 4, .inr (.inr (.inr (.inr (va_up (va_up (va_up (va_up (fun _ => none) 0 (some ge5)) 1 (some ge5)) 2 (some ge5)) 3 (some ge5))))))), (h2, .inl (k1, 5, .inl (upd (upd (upd (upd (upd (fun _ => 0) 0 l1) 1 l2) 2 l3) 3 l4) 4 0))), (h3, .inr (0, [.ref h4, .int 0, .int 0, .int 0])), (h4, .inl (k2, 2, .inl f0)), (q102, .inr (1, [.null, .int 0, .int 0, .int 0]))] H := hP
    have hD : va_D A [(h0, .inr (9, [.int 0, .ref h1, .ref z0, .ref z1, .int 0, .int 0, .int 0])), (h1, .inl (k0, 4, .inr (.inr (.inr (.inr (va_up (va_up (va_up (va_up (fun _ => none) 0 (some ge5)) 1 (some ge5)) 2 (some ge5)) 3 (some ge5))))))), (h2, .inl (k1, 5, .inl (upd (upd (upd (upd (upd (fun _ => 0) 0 l1) 1 l2) 2 l3) 3 l4) 4 0))), (h3, .inr (0, [.ref h4, .int 0, .int 0, .int 0])), (h4, .inl (k2, 2, .inl f0)), (q102, .inr (1, [.null, .int 0, .int 0, .int 0]))] := hD
    refine W.widen (k := 10) (n := 60) (by omega) (by omega) ?_
    refine lv_dup hx hb dX5_type_94 rfl ?_
    have hPc := hP.sub (ws' := [(q102, .inr (1, [.null, .int 0, .int 0, .int 0]))]) [5] rfl
    have hDc := hD.sub (ws' := [(q102, .inr (1, [.null, .int 0, .int 0, .int 0]))]) [5] (by decide) rfl
    have hKc := hK.sub (tys' := []) [] rfl
    have hFc := va_free (wc := [(q102, .inr (1, [.null, .int 0, .int 0, .int 0]))]) hD hS hA [5] rfl
    refine va_callv (va_runI (As := []) (rest := [.ref q102]) ⟨hx, hb, hml, hown, hts⟩ (kx_J4_init_da8c8_0 l dC dI ge5 gea gv5 gva gde gic gi0 q102 H.size) (cwI 0 hts gX5_type_J4_init_da8c8 rfl rfl rfl (hts (.initialized RJ4) (by decide +kernel)) (hts (.methodLink RX5 51 yJ4_init_da8c8) (by decide +kernel)) (hts (.instanceMethod yJ4_init_da8c8) (by decide +kernel)) rfl (by decide +kernel) ⟨Nat.le_of_ble_eq_true rfl, Nat.le_of_ble_eq_true rfl⟩) ⟨fun a U g mk q => by obtain ⟨q0, q1, qP, qK, qD, qG⟩ := q; exact ⟨q0, q1, qP, va_K.moved (u := U) (U := U.calling g mk a) (Vm.Alike.refl U.vm) qK, qD, gv.fb qG⟩, fun U hU hW => ⟨rfl, by rw [hU], by rw [hU]; exact hPc, va_K.moved hW.alike hKc, hDc.weaken (fun _ _ _ _ => trivial), gv.pass hW hU hS hFc hG⟩⟩ rfl rfl hl.1 rfl (lv_room (Nat.le_of_ble_eq_true rfl)) dX5_type_95 ⟨Nat.le_of_ble_eq_true rfl, Nat.le_of_ble_eq_true rfl⟩) hS (fun q _ h => hFc q h) hFc (fun u t H1 locs ht hvm hw hB hz1 hk1 hS => ?_)
    obtain ⟨q103, cq104, hP1, hK1, hD1⟩ := hB
    rw [ht] at hP1
    have hK1 := va_K.moved hvm.symm hK1
    obtain ⟨hP, hD⟩ := va_join (wr := [(h0, .inr (9, [.int 0, .ref h1, .ref z0, .ref z1, .int 0, .int 0, .int 0])), (h1, .inl (k0, 4, .inr (.inr (.inr (.inr (va_up (va_up (va_up (va_up (fun _ => none) 0 (some ge5)) 1 (some ge5)) 2 (some ge5)) 3 (some ge5))))))), (h2, .inl (k1, 5, .inl (upd (upd (upd (upd (upd (fun _ => 0) 0 l1) 1 l2) 2 l3) 3 l4) 4 0))), (h3, .inr (0, [.ref h4, .int 0, .int 0, .int 0])), (h4, .inl (k2, 2, .inl f0))]) (w1 := [(q102, .inr (1, [.ref q103, .int 0, .int 0, .int 0])), (q103, .inl (cq104, 16, .inl (fun _ => 0)))]) hP hD [5] [0, 1, 2, 3, 4] rfl rfl (by decide) (by decide) hk1 hFc hP1 hD1
    have hK := hK.app (hK1.sub (tys' := [(cq104, .byte)]) [0] rfl)
    generalize H1 = H at hP hS ⊢
    have hK : va_K (dC, dI) vwCl [(k0, .object "java/lang/String"), (k1, .int), (k2, .byte), (cq104, .byte)] s := hK
    have hP : va_P (dC, dI) vwCl [(h0, .inr (9, [.int 0, .ref h1, .ref z0, .ref z1, .int 0, .int 0, .int 0])), (h1, .inl (k0, 4, .inr (.inr (.inr (.inr (va_up (va_up (va_up (va_up (fun _ => none) 0 (some ge5)) 1 (some ge5)) 2 (some ge5)) 3 (some ge5))))))), (h2, .inl (k1, 5, .inl (upd (upd (upd (upd (upd (fun _ => 0) 0 l1) 1 l2) 2 l3) 3 l4) 4 0))), (h3, .inr (0, [.ref h4, .int 0, .int 0, .int 0])), (h4, .inl (k2, 2, .inl f0)), (q102, .inr (1, [.ref q103, .int 0, .int 0, .int 0])), (q103, .inl (cq104, 16, .inl (fun _ => 0)))] H := hP
    have hD : va_D A [(h0, .inr (9, [.int 0, .ref h1, .ref z0, .ref z1, .int 0, .int 0, .int 0])), (h1, .inl (k0, 4, .inr (.inr (.inr (.inr (va_up (va_up (va_up (va_up (fun _ => none) 0 (some ge5)) 1 (some ge5)) 2 (some ge5)) 3 (some ge5))))))), (h2, .inl (k1, 5, .inl (upd (upd (upd (upd (upd (fun _ => 0) 0 l1) 1 l2) 2 l3) 3 l4) 4 0))), (h3, .inr (0, [.ref h4, .int 0, .int 0, .int 0])), (h4, .inl (k2, 2, .inl f0)), (q102, .inr (1, [.ref q103, .int 0, .int 0, .int 0])), (q103, .inl (cq104, 16, .inl (fun _ => 0)))] := hD
    refine W.widen (k := 11) (n := 76) (by omega) (by omega) ?_
    refine lv_aload hx hb dX5_type_98 (lv_at hl 5 rfl) ?_
    have hPc := hP.sub (ws' := [(h3, .inr (0, [.ref h4, .int 0, .int 0, .int 0])), (h4, .inl (k2, 2, .inl f0)), (q102, .inr (1, [.ref q103, .int 0, .int 0, .int 0])), (q103, .inl (cq104, 16, .inl (fun _ => 0)))]) [3, 4, 5, 6] rfl
    have hDc := hD.sub (ws' := [(h3, .inr (0, [.ref h4, .int 0, .int 0, .int 0])), (h4, .inl (k2, 2, .inl f0)), (q102, .inr (1, [.ref q103, .int 0, .int 0, .int 0])), (q103, .inl (cq104, 16, .inl (fun _ => 0)))]) [3, 4, 5, 6] (by decide) rfl
    have hKc := hK.sub (tys' := [(k2, .byte), (cq104, .byte)]) [2, 3] rfl
    have hFc := va_free (wc := [(h3, .inr (0, [.ref h4, .int 0, .int 0, .int 0])), (h4, .inl (k2, 2, .inl f0)), (q102, .inr (1, [.ref q103, .int 0, .int 0, .int 0])), (q103, .inl (cq104, 16, .inl (fun _ => 0)))]) hD hS hA [3, 4, 5, 6] rfl
    refine va_callr (va_runV (As := [.ref h3]) (rest := []) ⟨hx, hb, hml, hown, hts⟩ (kx_J4_append_15ec4_2 l dC dI ge5 gea gv5 gva gde gic gi0 h3 h4 q102 q103 k2 cq104 H.size f0 f0_t) (cwV 1 hts gX5_type_J4_append_15ec4 rfl rfl rfl (by decide +kernel) ⟨Nat.le_of_ble_eq_true rfl, Nat.le_of_ble_eq_true rfl⟩) ⟨fun a U g mk q => by obtain ⟨q0, q1, qP, qK, qD, qG⟩ := q; exact ⟨q0, q1, qP, va_K.moved (u := U) (U := U.calling g mk a) (Vm.Alike.refl U.vm) qK, qD, gv.fb qG⟩, va_recv hKc hPc (ci := 1) (q0 := 2) rfl rfl, fun U hU hW => ⟨rfl, by rw [hU], by rw [hU]; exact hPc, va_K.moved hW.alike hKc, hDc.weaken (fun _ _ _ _ => trivial), gv.pass hW hU hS hFc hG⟩⟩ rfl rfl hl.1 rfl (lv_room (Nat.le_of_ble_eq_true rfl)) dX5_type_100 ⟨Nat.le_of_ble_eq_true rfl, Nat.le_of_ble_eq_true rfl⟩) hS (fun q _ h => hFc q h) hFc (fun u ra t H1 locs ht hvm hw hB hz1 hk1 hS => ?_)
    obtain ⟨f105, f105_t, hra, hP1, hK1, hD1⟩ := hB
    rw [hra]
    rw [ht] at hP1
    have hK1 := va_K.moved hvm.symm hK1
    obtain ⟨hP, hD⟩ := va_join (wr := [(h0, .inr (9, [.int 0, .ref h1, .ref z0, .ref z1, .int 0, .int 0, .int 0])), (h1, .inl (k0, 4, .inr (.inr (.inr (.inr (va_up (va_up (va_up (va_up (fun _ => none) 0 (some ge5)) 1 (some ge5)) 2 (some ge5)) 3 (some ge5))))))), (h2, .inl (k1, 5, .inl (upd (upd (upd (upd (upd (fun _ => 0) 0 l1) 1 l2) 2 l3) 3 l4) 4 0)))]) (w1 := [(h3, .inr (0, [.ref h4, .int 0, .int 0, .int 0])), (h4, .inl (k2, 2, .inl f0)), (q102, .inr (1, [.ref q103, .int 0, .int 0, .int 2])), (q103, .inl (cq104, 16, .inl f105))]) hP hD [3, 4, 5, 6] [0, 1, 2] rfl rfl (by decide) (by decide) hk1 hFc hP1 hD1
    generalize H1 = H at hP hS ⊢
    have hP : va_P (dC, dI) vwCl [(h0, .inr (9, [.int 0, .ref h1, .ref z0, .ref z1, .int 0, .int 0, .int 0])), (h1, .inl (k0, 4, .inr (.inr (.inr (.inr (va_up (va_up (va_up (va_up (fun _ => none) 0 (some ge5)) 1 (some ge5)) 2 (some ge5)) 3 (some ge5))))))), (h2, .inl (k1, 5, .inl (upd (upd (upd (upd (upd (fun _ => 0) 0 l1) 1 l2) 2 l3) 3 l4) 4 0))), (h3, .inr (0, [.ref h4, .int 0, .int 0, .int 0])), (h4, .inl (k2, 2, .inl f0)), (q102, .inr (1, [.ref q103, .int 0, .int 0, .int 2])), (q103, .inl (cq104, 16, .inl f105))] H := hP
    have hD : va_D A [(h0, .inr (9, [.int 0, .ref h1, .ref z0, .ref z1, .int 0, .int 0, .int 0])), (h1, .inl (k0, 4, .inr (.inr (.inr (.inr (va_up (va_up (va_up (va_up (fun _ => none) 0 (some ge5)) 1 (some ge5)) 2 (some ge5)) 3 (some ge5))))))), (h2, .inl (k1, 5, .inl (upd (upd (upd (upd (upd (fun _ => 0) 0 l1) 1 l2) 2 l3) 3 l4) 4 0))), (h3, .inr (0, [.ref h4, .int 0, .int 0, .int 0])), (h4, .inl (k2, 2, .inl f0)), (q102, .inr (1, [.ref q103, .int 0, .int 0, .int 2])), (q103, .inl (cq104, 16, .inl f105))] := hD
    refine va_ldcS hx hb hown g_sa dX5_type_103 ?_
    refine lv_iload hx hb dX5_type_105 (lv_at hl 1 rfl) ?_
    have hPc := hP.sub (ws' := []) [] rfl
    have hDc := hD.sub (ws' := []) [] (by decide) rfl
    have hKc := hK.sub (tys' := []) [] rfl
    have hFc := va_free (wc := []) hD hS hA [] rfl
    refine va_calli (va_runV (As := [.int 0]) (rest := [.ref q102]) ⟨hx, hb, hml, hown, hts⟩ (kx_J0_charAt_5068e_0 l dC dI ge5 gea gv5 gva gde gic gi0 H.size) (cwV 1 hts gX5_type_J0_charAt_5068e rfl rfl rfl (by decide +kernel) ⟨Nat.le_of_ble_eq_true rfl, Nat.le_of_ble_eq_true rfl⟩) ⟨fun a U g mk q => by obtain ⟨q0, q1, qP, qK, qD, qG⟩ := q; exact ⟨q0, q1, qP, va_K.moved (u := U) (U := U.calling g mk a) (Vm.Alike.refl U.vm) qK, qD, gv.fb qG⟩, (by obtain ⟨cell, k1, k2, k3, -⟩ := g_oa.kept hS.2.1; exact ⟨cell, k1, k2, k3⟩), fun U hU hW => ⟨rfl, by rw [hU], by rw [hU]; exact hPc, va_K.moved hW.alike hKc, hDc.weaken (fun _ _ _ _ => trivial), gv.pass hW hU hS hFc hG⟩⟩ rfl rfl hl.1 rfl (lv_room (Nat.le_of_ble_eq_true rfl)) dX5_type_107 ⟨Nat.le_of_ble_eq_true rfl, Nat.le_of_ble_eq_true rfl⟩) hS (fun q _ h => hFc q h) hFc (fun r9 u t H1 locs ht hvm hw hB hz1 hk1 hS => ?_)
    obtain rfl := hw
    obtain ⟨hP1, hK1, hD1⟩ := hB
    rw [ht] at hP1
    have hK1 := va_K.moved hvm.symm hK1
    obtain ⟨hP, hD⟩ := va_join (wr := [(h0, .inr (9, [.int 0, .ref h1, .ref z0, .ref z1, .int 0, .int 0, .int 0])), (h1, .inl (k0, 4, .inr (.inr (.inr (.inr (va_up (va_up (va_up (va_up (fun _ => none) 0 (some ge5)) 1 (some ge5)) 2 (some ge5)) 3 (some ge5))))))), (h2, .inl (k1, 5, .inl (upd (upd (upd (upd (upd (fun _ => 0) 0 l1) 1 l2) 2 l3) 3 l4) 4 0))), (h3, .inr (0, [.ref h4, .int 0, .int 0, .int 0])), (h4, .inl (k2, 2, .inl f0)), (q102, .inr (1, [.ref q103, .int 0, .int 0, .int 2])), (q103, .inl (cq104, 16, .inl f105))]) (w1 := []) hP hD [] [0, 1, 2, 3, 4, 5, 6] rfl rfl (by decide) (by decide) hk1 hFc hP1 hD1
    generalize H1 = H at hP hS ⊢
    have hP : va_P (dC, dI) vwCl [(h0, .inr (9, [.int 0, .ref h1, .ref z0, .ref z1, .int 0, .int 0, .int 0])), (h1, .inl (k0, 4, .inr (.inr (.inr (.inr (va_up (va_up (va_up (va_up (fun _ => none) 0 (some ge5)) 1 (some ge5)) 2 (some ge5)) 3 (some ge5))))))), (h2, .inl (k1, 5, .inl (upd (upd (upd (upd (upd (fun _ => 0) 0 l1) 1 l2) 2 l3) 3 l4) 4 0))), (h3, .inr (0, [.ref h4, .int 0, .int 0, .int 0])), (h4, .inl (k2, 2, .inl f0)), (q102, .inr (1, [.ref q103, .int 0, .int 0, .int 2])), (q103, .inl (cq104, 16, .inl f105))] H := hP
    have hD : va_D A [(h0, .inr (9, [.int 0, .ref h1, .ref z0, .ref z1, .int 0, .int 0, .int 0])), (h1, .inl (k0, 4, .inr (.inr (.inr (.inr (va_up (va_up (va_up (va_up (fun _ => none) 0 (some ge5)) 1 (some ge5)) 2 (some ge5)) 3 (some ge5))))))), (h2, .inl (k1, 5, .inl (upd (upd (upd (upd (upd (fun _ => 0) 0 l1) 1 l2) 2 l3) 3 l4) 4 0))), (h3, .inr (0, [.ref h4, .int 0, .int 0, .int 0])), (h4, .inl (k2, 2, .inl f0)), (q102, .inr (1, [.ref q103, .int 0, .int 0, .int 2])), (q103, .inl (cq104, 16, .inl f105))] := hD
    have hPc := hP.sub (ws' := [(q102, .inr (1, [.ref q103, .int 0, .int 0, .int 2])), (q103, .inl (cq104, 16, .inl f105))]) [5, 6] rfl
    have hDc := hD.sub (ws' := [(q102, .inr (1, [.ref q103, .int 0, .int 0, .int 2])), (q103, .inl (cq104, 16, .inl f105))]) [5, 6] (by decide) rfl
    have hKc := hK.sub (tys' := [(cq104, .byte)]) [3] rfl
    have hFc := va_free (wc := [(q102, .inr (1, [.ref q103, .int 0, .int 0, .int 2])), (q103, .inl (cq104, 16, .inl f105))]) hD hS hA [5, 6] rfl
    refine va_callr (va_runV (As := [.int 97]) (rest := []) ⟨hx, hb, hml, hown, hts⟩ (kx_J4_append_cf468_8 l dC dI ge5 gea gv5 gva gde gic gi0 q102 q103 cq104 H.size f105 f105_t) (cwV 1 hts gX5_type_J4_append_cf468 rfl rfl rfl (by decide +kernel) ⟨Nat.le_of_ble_eq_true rfl, Nat.le_of_ble_eq_true rfl⟩) ⟨fun a U g mk q => by obtain ⟨q0, q1, qP, qK, qD, qG⟩ := q; exact ⟨q0, q1, qP, va_K.moved (u := U) (U := U.calling g mk a) (Vm.Alike.refl U.vm) qK, qD, gv.fb qG⟩, va_recv hKc hPc (ci := 1) (q0 := 0) rfl rfl, fun U hU hW => ⟨rfl, by rw [hU], by rw [hU]; exact hPc, va_K.moved hW.alike hKc, hDc.weaken (fun _ _ _ _ => trivial), gv.pass hW hU hS hFc hG⟩⟩ rfl rfl hl.1 rfl (lv_room (Nat.le_of_ble_eq_true rfl)) dX5_type_110 ⟨Nat.le_of_ble_eq_true rfl, Nat.le_of_ble_eq_true rfl⟩) hS (fun q _ h => hFc q h) hFc (fun u ra t H1 locs ht hvm hw hB hz1 hk1 hS => ?_)
    obtain ⟨f106, f106_t, hra, hP1, hK1, hD1⟩ := hB
    rw [hra]
    rw [ht] at hP1
    have hK1 := va_K.moved hvm.symm hK1
    obtain ⟨hP, hD⟩ := va_join (wr := [(h0, .inr (9, [.int 0, .ref h1, .ref z0, .ref z1, .int 0, .int 0, .int 0])), (h1, .inl (k0, 4, .inr (.inr (.inr (.inr (va_up (va_up (va_up (va_up (fun _ => none) 0 (some ge5)) 1 (some ge5)) 2 (some ge5)) 3 (some ge5))))))), (h2, .inl (k1, 5, .inl (upd (upd (upd (upd (upd (fun _ => 0) 0 l1) 1 l2) 2 l3) 3 l4) 4 0))), (h3, .inr (0, [.ref h4, .int 0, .int 0, .int 0])), (h4, .inl (k2, 2, .inl f0))]) (w1 := [(q102, .inr (1, [.ref q103, .int 0, .int 0, .int 3])), (q103, .inl (cq104, 16, .inl f106))]) hP hD [5, 6] [0, 1, 2, 3, 4] rfl rfl (by decide) (by decide) hk1 hFc hP1 hD1
    generalize H1 = H at hP hS ⊢
    have hP : va_P (dC, dI) vwCl [(h0, .inr (9, [.int 0, .ref h1, .ref z0, .ref z1, .int 0, .int 0, .int 0])), (h1, .inl (k0, 4, .inr (.inr (.inr (.inr (va_up (va_up (va_up (va_up (fun _ => none) 0 (some ge5)) 1 (some ge5)) 2 (some ge5)) 3 (some ge5))))))), (h2, .inl (k1, 5, .inl (upd (upd (upd (upd (upd (fun _ => 0) 0 l1) 1 l2) 2 l3) 3 l4) 4 0))), (h3, .inr (0, [.ref h4, .int 0, .int 0, .int 0])), (h4, .inl (k2, 2, .inl f0)), (q102, .inr (1, [.ref q103, .int 0, .int 0, .int 3])), (q103, .inl (cq104, 16, .inl f106))] H := hP
    have hD : va_D A [(h0, .inr (9, [.int 0, .ref h1, .ref z0, .ref z1, .int 0, .int 0, .int 0])), (h1, .inl (k0, 4, .inr (.inr (.inr (.inr (va_up (va_up (va_up (va_up (fun _ => none) 0 (some ge5)) 1 (some ge5)) 2 (some ge5)) 3 (some ge5))))))), (h2, .inl (k1, 5, .inl (upd (upd (upd (upd (upd (fun _ => 0) 0 l1) 1 l2) 2 l3) 3 l4) 4 0))), (h3, .inr (0, [.ref h4, .int 0, .int 0, .int 0])), (h4, .inl (k2, 2, .inl f0)), (q102, .inr (1, [.ref q103, .int 0, .int 0, .int 3])), (q103, .inl (cq104, 16, .inl f106))] := hD
    have hPc := hP.sub (ws' := [(q102, .inr (1, [.ref q103, .int 0, .int 0, .int 3])), (q103, .inl (cq104, 16, .inl f106))]) [5, 6] rfl
    have hDc := hD.sub (ws' := [(q102, .inr (1, [.ref q103, .int 0, .int 0, .int 3])), (q103, .inl (cq104, 16, .inl f106))]) [5, 6] (by decide) rfl
    have hKc := hK.sub (tys' := [(cq104, .byte)]) [3] rfl
    have hFc := va_free (wc := [(q102, .inr (1, [.ref q103, .int 0, .int 0, .int 3])), (q103, .inl (cq104, 16, .inl f106))]) hD hS hA [5, 6] rfl
    refine va_callr (va_runV (As := []) (rest := []) ⟨hx, hb, hml, hown, hts⟩ (kx_J4_toString_0e30d_3 l dC dI ge5 gea gv5 gva gde gic gi0 q102 q103 cq104 H.size f106 f106_t) (cwV 0 hts gX5_type_J4_toString_0e30d rfl rfl rfl (by decide +kernel) ⟨Nat.le_of_ble_eq_true rfl, Nat.le_of_ble_eq_true rfl⟩) ⟨fun a U g mk q => by obtain ⟨q0, q1, qP, qK, qD, qG⟩ := q; exact ⟨q0, q1, qP, va_K.moved (u := U) (U := U.calling g mk a) (Vm.Alike.refl U.vm) qK, qD, gv.fb qG⟩, va_recv hKc hPc (ci := 1) (q0 := 0) rfl rfl, fun U hU hW => ⟨rfl, by rw [hU], by rw [hU]; exact hPc, va_K.moved hW.alike hKc, hDc.weaken (fun _ _ _ _ => trivial), gv.pass hW hU hS hFc hG⟩⟩ rfl rfl hl.1 rfl (lv_room (Nat.le_of_ble_eq_true rfl)) dX5_type_113 ⟨Nat.le_of_ble_eq_true rfl, Nat.le_of_ble_eq_true rfl⟩) hS (fun q _ h => hFc q h) hFc (fun u ra t H1 locs ht hvm hw hB hz1 hk1 hS => ?_)
    obtain ⟨q107, q108, cq109, f110, f110_t, hra, hP1, hK1, hD1⟩ := hB
    rw [hra]
    rw [ht] at hP1
    have hK1 := va_K.moved hvm.symm hK1
    obtain ⟨hP, hD⟩ := va_join (wr := [(h0, .inr (9, [.int 0, .ref h1, .ref z0, .ref z1, .int 0, .int 0, .int 0])), (h1, .inl (k0, 4, .inr (.inr (.inr (.inr (va_up (va_up (va_up (va_up (fun _ => none) 0 (some ge5)) 1 (some ge5)) 2 (some ge5)) 3 (some ge5))))))), (h2, .inl (k1, 5, .inl (upd (upd (upd (upd (upd (fun _ => 0) 0 l1) 1 l2) 2 l3) 3 l4) 4 0))), (h3, .inr (0, [.ref h4, .int 0, .int 0, .int 0])), (h4, .inl (k2, 2, .inl f0))]) (w1 := [(q102, .inr (1, [.ref q103, .int 0, .int 0, .int 3])), (q103, .inl (cq104, 16, .inl f106)), (q107, .inr (0, [.ref q108, .int 0, .int 0, .int 0])), (q108, .inl (cq109, 3, .inl f110))]) hP hD [5, 6] [0, 1, 2, 3, 4] rfl rfl (by decide) (by decide) hk1 hFc hP1 hD1
    have hK := hK.app (hK1.sub (tys' := [(cq109, .byte)]) [1] rfl)
    generalize H1 = H at hP hS ⊢
    have hK : va_K (dC, dI) vwCl [(k0, .object "java/lang/String"), (k1, .int), (k2, .byte), (cq104, .byte), (cq109, .byte)] s := hK
    have hP : va_P (dC, dI) vwCl [(h0, .inr (9, [.int 0, .ref h1, .ref z0, .ref z1, .int 0, .int 0, .int 0])), (h1, .inl (k0, 4, .inr (.inr (.inr (.inr (va_up (va_up (va_up (va_up (fun _ => none) 0 (some ge5)) 1 (some ge5)) 2 (some ge5)) 3 (some ge5))))))), (h2, .inl (k1, 5, .inl (upd (upd (upd (upd (upd (fun _ => 0) 0 l1) 1 l2) 2 l3) 3 l4) 4 0))), (h3, .inr (0, [.ref h4, .int 0, .int 0, .int 0])), (h4, .inl (k2, 2, .inl f0)), (q102, .inr (1, [.ref q103, .int 0, .int 0, .int 3])), (q103, .inl (cq104, 16, .inl f106)), (q107, .inr (0, [.ref q108, .int 0, .int 0, .int 0])), (q108, .inl (cq109, 3, .inl f110))] H := hP
    have hD : va_D A [(h0, .inr (9, [.int 0, .ref h1, .ref z0, .ref z1, .int 0, .int 0, .int 0])), (h1, .inl (k0, 4, .inr (.inr (.inr (.inr (va_up (va_up (va_up (va_up (fun _ => none) 0 (some ge5)) 1 (some ge5)) 2 (some ge5)) 3 (some ge5))))))), (h2, .inl (k1, 5, .inl (upd (upd (upd (upd (upd (fun _ => 0) 0 l1) 1 l2) 2 l3) 3 l4) 4 0))), (h3, .inr (0, [.ref h4, .int 0, .int 0, .int 0])), (h4, .inl (k2, 2, .inl f0)), (q102, .inr (1, [.ref q103, .int 0, .int 0, .int 3])), (q103, .inl (cq104, 16, .inl f106)), (q107, .inr (0, [.ref q108, .int 0, .int 0, .int 0])), (q108, .inl (cq109, 3, .inl f110))] := hD
    refine W.widen (k := 13) (n := 83) (by omega) (by omega) ?_
    refine lv_astore (lv' := [(9, .ref q107), (8, .int 0), (13, .int 0), (0, .ref h0), (1, .int rp), (7, .ref h2), (10, .ref h2), (11, .int 5), (12, .int 4)]) hx hb dX5_type_116 hl (by decide) rfl (fun ls hl => ?_)
    refine lv_iinc (v := 5) (lv' := [(12, .int 5), (9, .ref q107), (8, .int 0), (13, .int 0), (0, .ref h0), (1, .int rp), (7, .ref h2), (10, .ref h2), (11, .int 5)]) hx hb dX5_type_118 hl (k := 8) rfl (by decide) (by decide) rfl (fun ls hl => ?_)
    refine lv_goto (tgt := 47) hx hb dX5_type_121 (by decide) ?_
    have hP := hP.sub (ws' := [(h0, .inr (9, [.int 0, .ref h1, .ref z0, .ref z1, .int 0, .int 0, .int 0])), (h1, .inl (k0, 4, .inr (.inr (.inr (.inr (va_up (va_up (va_up (va_up (fun _ => none) 0 (some ge5)) 1 (some ge5)) 2 (some ge5)) 3 (some ge5))))))), (h2, .inl (k1, 5, .inl (upd (upd (upd (upd (upd (fun _ => 0) 0 l1) 1 l2) 2 l3) 3 l4) 4 0))), (q107, .inr (0, [.ref q108, .int 0, .int 0, .int 0])), (q108, .inl (cq109, 3, .inl f110))]) [0, 1, 2, 7, 8] rfl
    have hD := hD.sub (ws' := [(h0, .inr (9, [.int 0, .ref h1, .ref z0, .ref z1, .int 0, .int 0, .int 0])), (h1, .inl (k0, 4, .inr (.inr (.inr (.inr (va_up (va_up (va_up (va_up (fun _ => none) 0 (some ge5)) 1 (some ge5)) 2 (some ge5)) 3 (some ge5))))))), (h2, .inl (k1, 5, .inl (upd (upd (upd (upd (upd (fun _ => 0) 0 l1) 1 l2) 2 l3) 3 l4) 4 0))), (q107, .inr (0, [.ref q108, .int 0, .int 0, .int 0])), (q108, .inl (cq109, 3, .inl f110))]) [0, 1, 2, 7, 8] (by decide) rfl
    have hK := hK.sub (tys' := [(k0, .object "java/lang/String"), (k1, .int), (cq109, .byte)]) [0, 1, 4] rfl
    have hl := lv_sub hl [4, 5, 6, 2, 1, 7, 8, 0] (show lv_pick [(12, .int 5), (9, .ref q107), (8, .int 0), (13, .int 0), (0, .ref h0), (1, .int rp), (7, .ref h2), (10, .ref h2), (11, .int 5)] [4, 5, 6, 2, 1, 7, 8, 0] = [(0, .ref h0), (1, .int rp), (7, .ref h2), (8, .int 0), (9, .ref q107), (10, .ref h2), (11, .int 5), (12, .int 5)] from rfl)
    exact kx_X5_type_h530 f110_t hR hx hb hr hml hown hts hlocks hA hG hS hK hP hD hl
  · have hR : kz_ty rp 3 0 [] = (R, v) := (kz_ty_g (by decide) (by decide)).symm.trans hR
    refine lv_iload hx hb dX5_type_47 (lv_at hl 7 rfl) ?_
    refine lv_iload hx hb dX5_type_49 (lv_at hl 6 rfl) ?_
    refine lv_icmp_ge (tgt := 124) hx hb dX5_type_51 (by decide) (fun c9 => absurd c9 (by decide)) (fun _ => ?_)
    refine lv_aload hx hb dX5_type_54 (lv_at hl 5 rfl) ?_
    refine lv_iload hx hb dX5_type_56 (lv_at hl 7 rfl) ?_
    refine va_iald (D := (dC, dI)) hx hb hK hP 2 1 rfl rfl (by unfold vp_in; decide) dX5_type_58 ?_
    refine W.eq (g2 := F0 m 59 ls [.int 1]) rfl ?_
    refine lv_istore (lv' := [(13, .int 1), (0, .ref h0), (1, .int rp), (7, .ref h2), (8, .int 0), (9, .ref h3), (10, .ref h2), (11, .int 5), (12, .int 4)]) hx hb dX5_type_59 hl (by decide) rfl (fun ls hl => ?_)
    refine lv_iload hx hb dX5_type_61 (lv_at hl 4 rfl) ?_
    refine lv_iload hx hb dX5_type_63 (lv_at hl 0 rfl) ?_
    refine lv_iconst (v := (-1)) hx hb dX5_type_65 (by decide) ?_
    refine lv_iconst (v := 3) hx hb dX5_type_66 (by decide) ?_
    have hPc := hP.sub (ws' := []) [] rfl
    have hDc := hD.sub (ws' := []) [] (by decide) rfl
    have hKc := hK.sub (tys' := []) [] rfl
    have hFc := va_free (wc := []) hD hS hA [] rfl
    refine va_calli (va_runS (As := [.int 1, .int (-1), .int 3]) (rest := [.int 0]) ⟨hx, hb, hml, hown, hts⟩ (kx_X5_isIn_9 l dC dI H.size) (cwS 3 hts gX5_type_X5_isIn rfl rfl rfl (by decide +kernel) ⟨Nat.le_of_ble_eq_true rfl, Nat.le_of_ble_eq_true rfl⟩) ⟨fun a U g mk q => by obtain ⟨q0, q1, qP, qK, qD⟩ := q; exact ⟨q0, q1, qP, va_K.moved (u := U) (U := U.calling g mk a) (Vm.Alike.refl U.vm) qK, qD⟩, fun U hU hW => ⟨rfl, by rw [hU], by rw [hU]; exact hPc, va_K.moved hW.alike hKc, hDc.weaken (fun _ _ _ _ => trivial)⟩⟩ rfl rfl hl.1 rfl (lv_room (Nat.le_of_ble_eq_true rfl)) dX5_type_67 ⟨Nat.le_of_ble_eq_true rfl, Nat.le_of_ble_eq_true rfl⟩) hS (fun q _ h => hFc q h) hFc (fun r9 u t H1 locs ht hvm hw hB hz1 hk1 hS => ?_)
    obtain rfl := hw
    obtain ⟨hP1, hK1, hD1⟩ := hB
    rw [ht] at hP1
    have hK1 := va_K.moved hvm.symm hK1
    obtain ⟨hP, hD⟩ := va_join (wr := [(h0, .inr (9, [.int 0, .ref h1, .ref z0, .ref z1, .int 0, .int 0, .int 0])), (h1, .inl (k0, 4, .inr (.inr (.inr (.inr (va_up (va_up (va_up (va_up (fun _ => none) 0 (some ge5)) 1 (some ge5)) 2 (some ge5)) 3 (some ge5))))))), (h2, .inl (k1, 5, .inl (upd (upd (upd (upd (upd (fun _ => 0) 0 l1) 1 l2) 2 l3) 3 l4) 4 1))), (h3, .inr (0, [.ref h4, .int 0, .int 0, .int 0])), (h4, .inl (k2, 2, .inl f0))]) (w1 := []) hP hD [] [0, 1, 2, 3, 4] rfl rfl (by decide) (by decide) hk1 hFc hP1 hD1
    generalize H1 = H at hP hS ⊢
    have hP : va_P (dC, dI) vwCl [(h0, .inr (9, [.int 0, .ref h1, .ref z0, .ref z1, .int 0, .int 0, .int 0])), (h1, .inl (k0, 4, .inr (.inr (.inr (.inr (va_up (va_up (va_up (va_up (fun _ => none) 0 (some ge5)) 1 (some ge5)) 2 (some ge5)) 3 (some ge5))))))), (h2, .inl (k1, 5, .inl (upd (upd (upd (upd (upd (fun _ => 0) 0 l1) 1 l2) 2 l3) 3 l4) 4 1))), (h3, .inr (0, [.ref h4, .int 0, .int 0, .int 0])), (h4, .inl (k2, 2, .inl f0))] H := hP
    have hD : va_D A [(h0, .inr (9, [.int 0, .ref h1, .ref z0, .ref z1, .int 0, .int 0, .int 0])), (h1, .inl (k0, 4, .inr (.inr (.inr (.inr (va_up (va_up (va_up (va_up (fun _ => none) 0 (some ge5)) 1 (some ge5)) 2 (some ge5)) 3 (some ge5))))))), (h2, .inl (k1, 5, .inl (upd (upd (upd (upd (upd (fun _ => 0) 0 l1) 1 l2) 2 l3) 3 l4) 4 1))), (h3, .inr (0, [.ref h4, .int 0, .int 0, .int 0])), (h4, .inl (k2, 2, .inl f0))] := hD
    refine lv_if_ne (tgt := 77) hx hb dX5_type_70 (by decide) (fun _ => ?_) (fun c9 => absurd c9 (by decide))
    refine lv_iconst (v := 0) hx hb dX5_type_77 (by decide) ?_
    refine lv_ior hx hb dX5_type_78 ?_
    refine lv_topi (fun y101 ey101 => ?_)
    obtain rfl : y101 = 0 := ey101.trans (by decide)
    refine lv_istore (lv' := [(8, .int 0), (13, .int 1), (0, .ref h0), (1, .int rp), (7, .ref h2), (9, .ref h3), (10, .ref h2), (11, .int 5), (12, .int 4)]) hx hb dX5_type_79 hl (by decide) rfl (fun ls hl => ?_)
    refine lv_iload hx hb dX5_type_81 (lv_at hl 1 rfl) ?_
    refine lv_iconst (v := 0) hx hb dX5_type_83 (by decide) ?_
    refine lv_iconst (v := 3) hx hb dX5_type_84 (by decide) ?_
    have hPc := hP.sub (ws' := []) [] rfl
    have hDc := hD.sub (ws' := []) [] (by decide) rfl
    have hKc := hK.sub (tys' := []) [] rfl
    have hFc := va_free (wc := []) hD hS hA [] rfl
    refine va_calli (va_runS (As := [.int 1, .int 0, .int 3]) (rest := []) ⟨hx, hb, hml, hown, hts⟩ (kx_X5_isIn_10 l dC dI H.size) (cwS 3 hts gX5_type_X5_isIn rfl rfl rfl (by decide +kernel) ⟨Nat.le_of_ble_eq_true rfl, Nat.le_of_ble_eq_true rfl⟩) ⟨fun a U g mk q => by obtain ⟨q0, q1, qP, qK, qD⟩ := q; exact ⟨q0, q1, qP, va_K.moved (u := U) (U := U.calling g mk a) (Vm.Alike.refl U.vm) qK, qD⟩, fun U hU hW => ⟨rfl, by rw [hU], by rw [hU]; exact hPc, va_K.moved hW.alike hKc, hDc.weaken (fun _ _ _ _ => trivial)⟩⟩ rfl rfl hl.1 rfl (lv_room (Nat.le_of_ble_eq_true rfl)) dX5_type_85 ⟨Nat.le_of_ble_eq_true rfl, Nat.le_of_ble_eq_true rfl⟩) hS (fun q _ h => hFc q h) hFc (fun r9 u t H1 locs ht hvm hw hB hz1 hk1 hS => ?_)
    obtain rfl := hw
    obtain ⟨hP1, hK1, hD1⟩ := hB
    rw [ht] at hP1
    have hK1 := va_K.moved hvm.symm hK1
    obtain ⟨hP, hD⟩ := va_join (wr := [(h0, .inr (9, [.int 0, .ref h1, .ref z0, .ref z1, .int 0, .int 0, .int 0])), (h1, .inl (k0, 4, .inr (.inr (.inr (.inr (va_up (va_up (va_up (va_up (fun _ => none) 0 (some ge5)) 1 (some ge5)) 2 (some ge5)) 3 (some ge5))))))), (h2, .inl (k1, 5, .inl (upd (upd (upd (upd (upd (fun _ => 0) 0 l1) 1 l2) 2 l3) 3 l4) 4 1))), (h3, .inr (0, [.ref h4, .int 0, .int 0, .int 0])), (h4, .inl (k2, 2, .inl f0))]) (w1 := []) hP hD [] [0, 1, 2, 3, 4] rfl rfl (by decide) (by decide) hk1 hFc hP1 hD1
    generalize H1 = H at hP hS ⊢
    have hP : va_P (dC, dI) vwCl [(h0, .inr (9, [.int 0, .ref h1, .ref z0, .ref z1, .int 0, .int 0, .int 0])), (h1, .inl (k0, 4, .inr (.inr (.inr (.inr (va_up (va_up (va_up (va_up (fun _ => none) 0 (some ge5)) 1 (some ge5)) 2 (some ge5)) 3 (some ge5))))))), (h2, .inl (k1, 5, .inl (upd (upd (upd (upd (upd (fun _ => 0) 0 l1) 1 l2) 2 l3) 3 l4) 4 1))), (h3, .inr (0, [.ref h4, .int 0, .int 0, .int 0])), (h4, .inl (k2, 2, .inl f0))] H := hP
    have hD : va_D A [(h0, .inr (9, [.int 0, .ref h1, .ref z0, .ref z1, .int 0, .int 0, .int 0])), (h1, .inl (k0, 4, .inr (.inr (.inr (.inr (va_up (va_up (va_up (va_up (fun _ => none) 0 (some ge5)) 1 (some ge5)) 2 (some ge5)) 3 (some ge5))))))), (h2, .inl (k1, 5, .inl (upd (upd (upd (upd (upd (fun _ => 0) 0 l1) 1 l2) 2 l3) 3 l4) 4 1))), (h3, .inr (0, [.ref h4, .int 0, .int 0, .int 0])), (h4, .inl (k2, 2, .inl f0))] := hD
    refine lv_if_eq (tgt := 118) hx hb dX5_type_88 (by decide) (fun c9 => absurd c9 (by decide)) (fun _ => ?_)
    refine va_new (ci := 1) (fs := [.null, .int 0, .int 0, .int 0]) (C := RJ4) (T := TJ4) (N := 4) hx hb hts (by decide +kernel) tyJ4 tyJ4_ok hown (hts (.classLink RX5 49 RJ4) (by decide +kernel)) (hts (.instantiable RJ4 4) (by decide +kernel)) (hts (.initialized RJ4) (by decide +kernel)) hK hP hD hS hA rfl (fun j hj => by rcases (show j = 0 ∨ j = 1 ∨ j = 2 ∨ j = 3 by omega) with rfl | rfl | rfl | rfl <;> rfl) (Nat.le_of_ble_eq_true rfl) (Nat.le_of_ble_eq_true rfl) dX5_type_91 (fun q102 H hP hD hS => ?_)
    have hP : va_P (dC, dI) vwCl [(h0, .inr (9, [.int 0, .ref h1, .ref z0, .ref z1, .int 0, .int 0, .int 0])), (h1, .inl (k0, 4, .inr (.inr (.inr (.inr (va_up (va_up (va_up (va_up (fun _ => none) 0 (some ge5)) 1 (some ge5)) 2 (some ge5)) 3 (some ge5))))))), (h2, .inl (k1, 5, .inl (upd (upd (upd (upd (upd (fun _ => 0) 0 l1) 1 l2) 2 l3) 3 l4) 4 1))), (h3, .inr (0, [.ref h4, .int 0, .int 0, .int 0])), (h4, .inl (k2, 2, .inl f0)), (q102, .inr (1, [.null, .int 0, .int 0, .int 0]))] H := hP
    have hD : va_D A [(h0, .inr (9, [.int 0, .ref h1, .ref z0, .ref z1, .int 0, .int 0, .int 0])), (h1, .inl (k0, 4, .inr (.inr (.inr (.inr (va_up (va_up (va_up (va_up (fun _ => none) 0 (some ge5)) 1 (some ge5)) 2 (some ge5)) 3 (some ge5))))))), (h2, .inl (k1, 5, .inl (upd (upd (upd (upd (upd (fun _ => 0) 0 l1) 1 l2) 2 l3) 3 l4) 4 1))), (h3, .inr (0, [.ref h4, .int 0, .int 0, .int 0])), (h4, .inl (k2, 2, .inl f0)), (q102, .inr (1, [.null, .int 0, .int 0, .int 0]))] := hD
    refine W.widen (k := 10) (n := 60) (by omega) (by omega) ?_
    refine lv_dup hx hb dX5_type_94 rfl ?_
    have hPc := hP.sub (ws' := [(q102, .inr (1, [.null, .int 0, .int 0, .int 0]))]) [5] rfl
    have hDc := hD.sub (ws' := [(q102, .inr (1, [.null, .int 0, .int 0, .int 0]))]) [5] (by decide) rfl
    have hKc := hK.sub (tys' := []) [] rfl
    have hFc := va_free (wc := [(q102, .inr (1, [.null, .int 0, .int 0, .int 0]))]) hD hS hA [5] rfl
    refine va_callv (va_runI (As := []) (rest := [.ref q102]) ⟨hx, hb, hml, hown, hts⟩ (kx_J4_init_da8c8_0 l dC dI ge5 gea gv5 gva gde gic gi0 q102 H.size) (cwI 0 hts gX5_type_J4_init_da8c8 rfl rfl rfl (hts (.initialized RJ4) (by decide +kernel)) (hts (.methodLink RX5 51 yJ4_init_da8c8) (by decide +kernel)) (hts (.instanceMethod yJ4_init_da8c8) (by decide +kernel)) rfl (by decide +kernel) ⟨Nat.le_of_ble_eq_true rfl, Nat.le_of_ble_eq_true rfl⟩) ⟨fun a U g mk q => by obtain ⟨q0, q1, qP, qK, qD, qG⟩ := q; exact ⟨q0, q1, qP, va_K.moved (u := U) (U := U.calling g mk a) (Vm.Alike.refl U.vm) qK, qD, gv.fb qG⟩, fun U hU hW => ⟨rfl, by rw [hU], by rw [hU]; exact hPc, va_K.moved hW.alike hKc, hDc.weaken (fun _ _ _ _ => trivial), gv.pass hW hU hS hFc hG⟩⟩ rfl rfl hl.1 rfl (lv_room (Nat.le_of_ble_eq_true rfl)) dX5_type_95 ⟨Nat.le_of_ble_eq_true rfl, Nat.le_of_ble_eq_true rfl⟩) hS (fun q _ h => hFc q h) hFc (fun u t H1 locs ht hvm hw hB hz1 hk1 hS => ?_)
    obtain ⟨q103, cq104, hP1, hK1, hD1⟩ := hB
    rw [ht] at hP1
    have hK1 := va_K.moved hvm.symm hK1
    obtain ⟨hP, hD⟩ := va_join (wr := [(h0, .inr (9, [.int 0, .ref h1, .ref z0, .ref z1, .int 0, .int 0, .int 0])), (h1, .inl (k0, 4, .inr (.inr (.inr (.inr (va_up (va_up (va_up (va_up (fun _ => none) 0 (some ge5)) 1 (some ge5)) 2 (some ge5)) 3 (some ge5))))))), (h2, .inl (k1, 5, .inl (upd (upd (upd (upd (upd (fun _ => 0) 0 l1) 1 l2) 2 l3) 3 l4) 4 1))), (h3, .inr (0, [.ref h4, .int 0, .int 0, .int 0])), (h4, .inl (k2, 2, .inl f0))]) (w1 := [(q102, .inr (1, [.ref q103, .int 0, .int 0, .int 0])), (q103, .inl (cq104, 16, .inl (fun _ => 0)))]) hP hD [5] [0, 1, 2, 3, 4] rfl rfl (by decide) (by decide) hk1 hFc hP1 hD1
    have hK := hK.app (hK1.sub (tys' := [(cq104, .byte)]) [0] rfl)
    generalize H1 = H at hP hS ⊢
    have hK : va_K (dC, dI) vwCl [(k0, .object "java/lang/String"), (k1, .int), (k2, .byte), (cq104, .byte)] s := hK
    have hP : va_P (dC, dI) vwCl [(h0, .inr (9, [.int 0, .ref h1, .ref z0, .ref z1, .int 0, .int 0, .int 0])), (h1, .inl (k0, 4, .inr (.inr (.inr (.inr (va_up (va_up (va_up (va_up (fun _ => none) 0 (some ge5)) 1 (some ge5)) 2 (some ge5)) 3 (some ge5))))))), (h2, .inl (k1, 5, .inl (upd (upd (upd (upd (upd (fun _ => 0) 0 l1) 1 l2) 2 l3) 3 l4) 4 1))), (h3, .inr (0, [.ref h4, .int 0, .int 0, .int 0])), (h4, .inl (k2, 2, .inl f0)), (q102, .inr (1, [.ref q103, .int 0, .int 0, .int 0])), (q103, .inl (cq104, 16, .inl (fun _ => 0)))] H := hP
    have hD : va_D A [(h0, .inr (9, [.int 0, .ref h1, .ref z0, .ref z1, .int 0, .int 0, .int 0])), (h1, .inl (k0, 4, .inr (.inr (.inr (.inr (va_up (va_up (va_up (va_up (fun _ => none) 0 (some ge5)) 1 (some ge5)) 2 (some ge5)) 3 (some ge5))))))), (h2, .inl (k1, 5, .inl (upd (upd (upd (upd (upd (fun _ => 0) 0 l1) 1 l2) 2 l3) 3 l4) 4 1))), (h3, .inr (0, [.ref h4, .int 0, .int 0, .int 0])), (h4, .inl (k2, 2, .inl f0)), (q102, .inr (1, [.ref q103, .int 0, .int 0, .int 0])), (q103, .inl (cq104, 16, .inl (fun _ => 0)))] := hD
    refine W.widen (k := 11) (n := 76) (by omega) (by omega) ?_
    refine lv_aload hx hb dX5_type_98 (lv_at hl 5 rfl) ?_
    have hPc := hP.sub (ws' := [(h3, .inr (0, [.ref h4, .int 0, .int 0, .int 0])), (h4, .inl (k2, 2, .inl f0)), (q102, .inr (1, [.ref q103, .int 0, .int 0, .int 0])), (q103, .inl (cq104, 16, .inl (fun _ => 0)))]) [3, 4, 5, 6] rfl
    have hDc := hD.sub (ws' := [(h3, .inr (0, [.ref h4, .int 0, .int 0, .int 0])), (h4, .inl (k2, 2, .inl f0)), (q102, .inr (1, [.ref q103, .int 0, .int 0, .int 0])), (q103, .inl (cq104, 16, .inl (fun _ => 0)))]) [3, 4, 5, 6] (by decide) rfl
    have hKc := hK.sub (tys' := [(k2, .byte), (cq104, .byte)]) [2, 3] rfl
    have hFc := va_free (wc := [(h3, .inr (0, [.ref h4, .int 0, .int 0, .int 0])), (h4, .inl (k2, 2, .inl f0)), (q102, .inr (1, [.ref q103, .int 0, .int 0, .int 0])), (q103, .inl (cq104, 16, .inl (fun _ => 0)))]) hD hS hA [3, 4, 5, 6] rfl
    refine va_callr (va_runV (As := [.ref h3]) (rest := []) ⟨hx, hb, hml, hown, hts⟩ (kx_J4_append_15ec4_2 l dC dI ge5 gea gv5 gva gde gic gi0 h3 h4 q102 q103 k2 cq104 H.size f0 f0_t) (cwV 1 hts gX5_type_J4_append_15ec4 rfl rfl rfl (by decide +kernel) ⟨Nat.le_of_ble_eq_true rfl, Nat.le_of_ble_eq_true rfl⟩) ⟨fun a U g mk q => by obtain ⟨q0, q1, qP, qK, qD, qG⟩ := q; exact ⟨q0, q1, qP, va_K.moved (u := U) (U := U.calling g mk a) (Vm.Alike.refl U.vm) qK, qD, gv.fb qG⟩, va_recv hKc hPc (ci := 1) (q0 := 2) rfl rfl, fun U hU hW => ⟨rfl, by rw [hU], by rw [hU]; exact hPc, va_K.moved hW.alike hKc, hDc.weaken (fun _ _ _ _ => trivial), gv.pass hW hU hS hFc hG⟩⟩ rfl rfl hl.1 rfl (lv_room (Nat.le_of_ble_eq_true rfl)) dX5_type_100 ⟨Nat.le_of_ble_eq_true rfl, Nat.le_of_ble_eq_true rfl⟩) hS (fun q _ h => hFc q h) hFc (fun u ra t H1 locs ht hvm hw hB hz1 hk1 hS => ?_)
    obtain ⟨f105, f105_t, hra, hP1, hK1, hD1⟩ := hB
    rw [hra]
    rw [ht] at hP1
    have hK1 := va_K.moved hvm.symm hK1
    obtain ⟨hP, hD⟩ := va_join (wr := [(h0, .inr (9, [.int 0, .ref h1, .ref z0, .ref z1, .int 0, .int 0, .int 0])), (h1, .inl (k0, 4, .inr (.inr (.inr (.inr (va_up (va_up (va_up (va_up (fun _ => none) 0 (some ge5)) 1 (some ge5)) 2 (some ge5)) 3 (some ge5))))))), (h2, .inl (k1, 5, .inl (upd (upd (upd (upd (upd (fun _ => 0) 0 l1) 1 l2) 2 l3) 3 l4) 4 1)))]) (w1 := [(h3, .inr (0, [.ref h4, .int 0, .int 0, .int 0])), (h4, .inl (k2, 2, .inl f0)), (q102, .inr (1, [.ref q103, .int 0, .int 0, .int 2])), (q103, .inl (cq104, 16, .inl f105))]) hP hD [3, 4, 5, 6] [0, 1, 2] rfl rfl (by decide) (by decide) hk1 hFc hP1 hD1
    generalize H1 = H at hP hS ⊢
    have hP : va_P (dC, dI) vwCl [(h0, .inr (9, [.int 0, .ref h1, .ref z0, .ref z1, .int 0, .int 0, .int 0])), (h1, .inl (k0, 4, .inr (.inr (.inr (.inr (va_up (va_up (va_up (va_up (fun _ => none) 0 (some ge5)) 1 (some ge5)) 2 (some ge5)) 3 (some ge5))))))), (h2, .inl (k1, 5, .inl (upd (upd (upd (upd (upd (fun _ => 0) 0 l1) 1 l2) 2 l3) 3 l4) 4 1))), (h3, .inr (0, [.ref h4, .int 0, .int 0, .int 0])), (h4, .inl (k2, 2, .inl f0)), (q102, .inr (1, [.ref q103, .int 0, .int 0, .int 2])), (q103, .inl (cq104, 16, .inl f105))] H := hP
    have hD : va_D A [(h0, .inr (9, [.int 0, .ref h1, .ref z0, .ref z1, .int 0, .int 0, .int 0])), (h1, .inl (k0, 4, .inr (.inr (.inr (.inr (va_up (va_up (va_up (va_up (fun _ => none) 0 (some ge5)) 1 (some ge5)) 2 (some ge5)) 3 (some ge5))))))), (h2, .inl (k1, 5, .inl (upd (upd (upd (upd (upd (fun _ => 0) 0 l1) 1 l2) 2 l3) 3 l4) 4 1))), (h3, .inr (0, [.ref h4, .int 0, .int 0, .int 0])), (h4, .inl (k2, 2, .inl f0)), (q102, .inr (1, [.ref q103, .int 0, .int 0, .int 2])), (q103, .inl (cq104, 16, .inl f105))] := hD
    refine va_ldcS hx hb hown g_sa dX5_type_103 ?_
    refine lv_iload hx hb dX5_type_105 (lv_at hl 1 rfl) ?_
    have hPc := hP.sub (ws' := []) [] rfl
    have hDc := hD.sub (ws' := []) [] (by decide) rfl
    have hKc := hK.sub (tys' := []) [] rfl
    have hFc := va_free (wc := []) hD hS hA [] rfl
    refine va_calli (va_runV (As := [.int 1]) (rest := [.ref q102]) ⟨hx, hb, hml, hown, hts⟩ (kx_J0_charAt_5068e_1 l dC dI ge5 gea gv5 gva gde gic gi0 H.size) (cwV 1 hts gX5_type_J0_charAt_5068e rfl rfl rfl (by decide +kernel) ⟨Nat.le_of_ble_eq_true rfl, Nat.le_of_ble_eq_true rfl⟩) ⟨fun a U g mk q => by obtain ⟨q0, q1, qP, qK, qD, qG⟩ := q; exact ⟨q0, q1, qP, va_K.moved (u := U) (U := U.calling g mk a) (Vm.Alike.refl U.vm) qK, qD, gv.fb qG⟩, (by obtain ⟨cell, k1, k2, k3, -⟩ := g_oa.kept hS.2.1; exact ⟨cell, k1, k2, k3⟩), fun U hU hW => ⟨rfl, by rw [hU], by rw [hU]; exact hPc, va_K.moved hW.alike hKc, hDc.weaken (fun _ _ _ _ => trivial), gv.pass hW hU hS hFc hG⟩⟩ rfl rfl hl.1 rfl (lv_room (Nat.le_of_ble_eq_true rfl)) dX5_type_107 ⟨Nat.le_of_ble_eq_true rfl, Nat.le_of_ble_eq_true rfl⟩) hS (fun q _ h => hFc q h) hFc (fun r9 u t H1 locs ht hvm hw hB hz1 hk1 hS => ?_)
    obtain rfl := hw
    obtain ⟨hP1, hK1, hD1⟩ := hB
    rw [ht] at hP1
    have hK1 := va_K.moved hvm.symm hK1
    obtain ⟨hP, hD⟩ := va_join (wr := [(h0, .inr (9, [.int 0, .ref h1, .ref z0, .ref z1, .int 0, .int 0, .int 0])), (h1, .inl (k0, 4, .inr (.inr (.inr (.inr (va_up (va_up (va_up (va_up (fun _ => none) 0 (some ge5)) 1 (some ge5)) 2 (some ge5)) 3 (some ge5))))))), (h2, .inl (k1, 5, .inl (upd (upd (upd (upd (upd (fun _ => 0) 0 l1) 1 l2) 2 l3) 3 l4) 4 1))), (h3, .inr (0, [.ref h4, .int 0, .int 0, .int 0])), (h4, .inl (k2, 2, .inl f0)), (q102, .inr (1, [.ref q103, .int 0, .int 0, .int 2])), (q103, .inl (cq104, 16, .inl f105))]) (w1 := []) hP hD [] [0, 1, 2, 3, 4, 5, 6] rfl rfl (by decide) (by decide) hk1 hFc hP1 hD1
    generalize H1 = H at hP hS ⊢
    have hP : va_P (dC, dI) vwCl [(h0, .inr (9, [.int 0, .ref h1, .ref z0, .ref z1, .int 0, .int 0, .int 0])), (h1, .inl (k0, 4, .inr (.inr (.inr (.inr (va_up (va_up (va_up (va_up (fun _ => none) 0 (some ge5)) 1 (some ge5)) 2 (some ge5)) 3 (some ge5))))))), (h2, .inl (k1, 5, .inl (upd (upd (upd (upd (upd (fun _ => 0) 0 l1) 1 l2) 2 l3) 3 l4) 4 1))), (h3, .inr (0, [.ref h4, .int 0, .int 0, .int 0])), (h4, .inl (k2, 2, .inl f0)), (q102, .inr (1, [.ref q103, .int 0, .int 0, .int 2])), (q103, .inl (cq104, 16, .inl f105))] H := hP
    have hD : va_D A [(h0, .inr (9, [.int 0, .ref h1, .ref z0, .ref z1, .int 0, .int 0, .int 0])), (h1, .inl (k0, 4, .inr (.inr (.inr (.inr (va_up (va_up (va_up (va_up (fun _ => none) 0 (some ge5)) 1 (some ge5)) 2 (some ge5)) 3 (some ge5))))))), (h2, .inl (k1, 5, .inl (upd (upd (upd (upd (upd (fun _ => 0) 0 l1) 1 l2) 2 l3) 3 l4) 4 1))), (h3, .inr (0, [.ref h4, .int 0, .int 0, .int 0])), (h4, .inl (k2, 2, .inl f0)), (q102, .inr (1, [.ref q103, .int 0, .int 0, .int 2])), (q103, .inl (cq104, 16, .inl f105))] := hD
    have hPc := hP.sub (ws' := [(q102, .inr (1, [.ref q103, .int 0, .int 0, .int 2])), (q103, .inl (cq104, 16, .inl f105))]) [5, 6] rfl
    have hDc := hD.sub (ws' := [(q102, .inr (1, [.ref q103, .int 0, .int 0, .int 2])), (q103, .inl (cq104, 16, .inl f105))]) [5, 6] (by decide) rfl
    have hKc := hK.sub (tys' := [(cq104, .byte)]) [3] rfl
    have hFc := va_free (wc := [(q102, .inr (1, [.ref q103, .int 0, .int 0, .int 2])), (q103, .inl (cq104, 16, .inl f105))]) hD hS hA [5, 6] rfl
    refine va_callr (va_runV (As := [.int 98]) (rest := []) ⟨hx, hb, hml, hown, hts⟩ (kx_J4_append_cf468_9 l dC dI ge5 gea gv5 gva gde gic gi0 q102 q103 cq104 H.size f105 f105_t) (cwV 1 hts gX5_type_J4_append_cf468 rfl rfl rfl (by decide +kernel) ⟨Nat.le_of_ble_eq_true rfl, Nat.le_of_ble_eq_true rfl⟩) ⟨fun a U g mk q => by obtain ⟨q0, q1, qP, qK, qD, qG⟩ := q; exact ⟨q0, q1, qP, va_K.moved (u := U) (U := U.calling g mk a) (Vm.Alike.refl U.vm) qK, qD, gv.fb qG⟩, va_recv hKc hPc (ci := 1) (q0 := 0) rfl rfl, fun U hU hW => ⟨rfl, by rw [hU], by rw [hU]; exact hPc, va_K.moved hW.alike hKc, hDc.weaken (fun _ _ _ _ => trivial), gv.pass hW hU hS hFc hG⟩⟩ rfl rfl hl.1 rfl (lv_room (Nat.le_of_ble_eq_true rfl)) dX5_type_110 ⟨Nat.le_of_ble_eq_true rfl, Nat.le_of_ble_eq_true rfl⟩) hS (fun q _ h => hFc q h) hFc (fun u ra t H1 locs ht hvm hw hB hz1 hk1 hS => ?_)
    obtain ⟨f106, f106_t, hra, hP1, hK1, hD1⟩ := hB
    rw [hra]
    rw [ht] at hP1
    have hK1 := va_K.moved hvm.symm hK1
    obtain ⟨hP, hD⟩ := va_join (wr := [(h0, .inr (9, [.int 0, .ref h1, .ref z0, .ref z1, .int 0, .int 0, .int 0])), (h1, .inl (k0, 4, .inr (.inr (.inr (.inr (va_up (va_up (va_up (va_up (fun _ => none) 0 (some ge5)) 1 (some ge5)) 2 (some ge5)) 3 (some ge5))))))), (h2, .inl (k1, 5, .inl (upd (upd (upd (upd (upd (fun _ => 0) 0 l1) 1 l2) 2 l3) 3 l4) 4 1))), (h3, .inr (0, [.ref h4, .int 0, .int 0, .int 0])), (h4, .inl (k2, 2, .inl f0))]) (w1 := [(q102, .inr (1, [.ref q103, .int 0, .int 0, .int 3])), (q103, .inl (cq104, 16, .inl f106))]) hP hD [5, 6] [0, 1, 2, 3, 4] rfl rfl (by decide) (by decide) hk1 hFc hP1 hD1
    generalize H1 = H at hP hS ⊢
    have hP : va_P (dC, dI) vwCl [(h0, .inr (9, [.int 0, .ref h1, .ref z0, .ref z1, .int 0, .int 0, .int 0])), (h1, .inl (k0, 4, .inr (.inr (.inr (.inr (va_up (va_up (va_up (va_up (fun _ => none) 0 (some ge5)) 1 (some ge5)) 2 (some ge5)) 3 (some ge5))))))), (h2, .inl (k1, 5, .inl (upd (upd (upd (upd (upd (fun _ => 0) 0 l1) 1 l2) 2 l3) 3 l4) 4 1))), (h3, .inr (0, [.ref h4, .int 0, .int 0, .int 0])), (h4, .inl (k2, 2, .inl f0)), (q102, .inr (1, [.ref q103, .int 0, .int 0, .int 3])), (q103, .inl (cq104, 16, .inl f106))] H := hP
    have hD : va_D A [(h0, .inr (9, [.int 0, .ref h1, .ref z0, .ref z1, .int 0, .int 0, .int 0])), (h1, .inl (k0, 4, .inr (.inr (.inr (.inr (va_up (va_up (va_up (va_up (fun _ => none) 0 (some ge5)) 1 (some ge5)) 2 (some ge5)) 3 (some ge5))))))), (h2, .inl (k1, 5, .inl (upd (upd (upd (upd (upd (fun _ => 0) 0 l1) 1 l2) 2 l3) 3 l4) 4 1))), (h3, .inr (0, [.ref h4, .int 0, .int 0, .int 0])), (h4, .inl (k2, 2, .inl f0)), (q102, .inr (1, [.ref q103, .int 0, .int 0, .int 3])), (q103, .inl (cq104, 16, .inl f106))] := hD
    have hPc := hP.sub (ws' := [(q102, .inr (1, [.ref q103, .int 0, .int 0, .int 3])), (q103, .inl (cq104, 16, .inl f106))]) [5, 6] rfl
    have hDc := hD.sub (ws' := [(q102, .inr (1, [.ref q103, .int 0, .int 0, .int 3])), (q103, .inl (cq104, 16, .inl f106))]) [5, 6] (by decide) rfl
    have hKc := hK.sub (tys' := [(cq104, .byte)]) [3] rfl
    have hFc := va_free (wc := [(q102, .inr (1, [.ref q103, .int 0, .int 0, .int 3])), (q103, .inl (cq104, 16, .inl f106))]) hD hS hA [5, 6] rfl
    refine va_callr (va_runV (As := []) (rest := []) ⟨hx, hb, hml, hown, hts⟩ (kx_J4_toString_0e30d_3 l dC dI ge5 gea gv5 gva gde gic gi0 q102 q103 cq104 H.size f106 f106_t) (cwV 0 hts gX5_type_J4_toString_0e30d rfl rfl rfl (by decide +kernel) ⟨Nat.le_of_ble_eq_true rfl, Nat.le_of_ble_eq_true rfl⟩) ⟨fun a U g mk q => by obtain ⟨q0, q1, qP, qK, qD, qG⟩ := q; exact ⟨q0, q1, qP, va_K.moved (u := U) (U := U.calling g mk a) (Vm.Alike.refl U.vm) qK, qD, gv.fb qG⟩, va_recv hKc hPc (ci := 1) (q0 := 0) rfl rfl, fun U hU hW => ⟨rfl, by rw [hU], by rw [hU]; exact hPc, va_K.moved hW.alike hKc, hDc.weaken (fun _ _ _ _ => trivial), gv.pass hW hU hS hFc hG⟩⟩ rfl rfl hl.1 rfl (lv_room (Nat.le_of_ble_eq_true rfl)) dX5_type_113 ⟨Nat.le_of_ble_eq_true rfl, Nat.le_of_ble_eq_true rfl⟩) hS (fun q _ h => hFc q h) hFc (fun u ra t H1 locs ht hvm hw hB hz1 hk1 hS => ?_)
    obtain ⟨q107, q108, cq109, f110, f110_t, hra, hP1, hK1, hD1⟩ := hB
    rw [hra]
    rw [ht] at hP1
    have hK1 := va_K.moved hvm.symm hK1
    obtain ⟨hP, hD⟩ := va_join (wr := [(h0, .inr (9, [.int 0, .ref h1, .ref z0, .ref z1, .int 0, .int 0, .int 0])), (h1, .inl (k0, 4, .inr (.inr (.inr (.inr (va_up (va_up (va_up (va_up (fun _ => none) 0 (some ge5)) 1 (some ge5)) 2 (some ge5)) 3 (some ge5))))))), (h2, .inl (k1, 5, .inl (upd (upd (upd (upd (upd (fun _ => 0) 0 l1) 1 l2) 2 l3) 3 l4) 4 1))), (h3, .inr (0, [.ref h4, .int 0, .int 0, .int 0])), (h4, .inl (k2, 2, .inl f0))]) (w1 := [(q102, .inr (1, [.ref q103, .int 0, .int 0, .int 3])), (q103, .inl (cq104, 16, .inl f106)), (q107, .inr (0, [.ref q108, .int 0, .int 0, .int 0])), (q108, .inl (cq109, 3, .inl f110))]) hP hD [5, 6] [0, 1, 2, 3, 4] rfl rfl (by decide) (by decide) hk1 hFc hP1 hD1
    have hK := hK.app (hK1.sub (tys' := [(cq109, .byte)]) [1] rfl)
    generalize H1 = H at hP hS ⊢
    have hK : va_K (dC, dI) vwCl [(k0, .object "java/lang/String"), (k1, .int), (k2, .byte), (cq104, .byte), (cq109, .byte)] s := hK
    have hP : va_P (dC, dI) vwCl [(h0, .inr (9, [.int 0, .ref h1, .ref z0, .ref z1, .int 0, .int 0, .int 0])), (h1, .inl (k0, 4, .inr (.inr (.inr (.inr (va_up (va_up (va_up (va_up (fun _ => none) 0 (some ge5)) 1 (some ge5)) 2 (some ge5)) 3 (some ge5))))))), (h2, .inl (k1, 5, .inl (upd (upd (upd (upd (upd (fun _ => 0) 0 l1) 1 l2) 2 l3) 3 l4) 4 1))), (h3, .inr (0, [.ref h4, .int 0, .int 0, .int 0])), (h4, .inl (k2, 2, .inl f0)), (q102, .inr (1, [.ref q103, .int 0, .int 0, .int 3])), (q103, .inl (cq104, 16, .inl f106)), (q107, .inr (0, [.ref q108, .int 0, .int 0, .int 0])), (q108, .inl (cq109, 3, .inl f110))] H := hP
    have hD : va_D A [(h0, .inr (9, [.int 0, .ref h1, .ref z0, .ref z1, .int 0, .int 0, .int 0])), (h1, .inl (k0, 4, .inr (.inr (.inr (.inr (va_up (va_up (va_up (va_up (fun _ => none) 0 (some ge5)) 1 (some ge5)) 2 (some ge5)) 3 (some ge5))))))), (h2, .inl (k1, 5, .inl (upd (upd (upd (upd (upd (fun _ => 0) 0 l1) 1 l2) 2 l3) 3 l4) 4 1))), (h3, .inr (0, [.ref h4, .int 0, .int 0, .int 0])), (h4, .inl (k2, 2, .inl f0)), (q102, .inr (1, [.ref q103, .int 0, .int 0, .int 3])), (q103, .inl (cq104, 16, .inl f106)), (q107, .inr (0, [.ref q108, .int 0, .int 0, .int 0])), (q108, .inl (cq109, 3, .inl f110))] := hD
    refine W.widen (k := 13) (n := 83) (by omega) (by omega) ?_
    refine lv_astore (lv' := [(9, .ref q107), (8, .int 0), (13, .int 1), (0, .ref h0), (1, .int rp), (7, .ref h2), (10, .ref h2), (11, .int 5), (12, .int 4)]) hx hb dX5_type_116 hl (by decide) rfl (fun ls hl => ?_)
    refine lv_iinc (v := 5) (lv' := [(12, .int 5), (9, .ref q107), (8, .int 0), (13, .int 1), (0, .ref h0), (1, .int rp), (7, .ref h2), (10, .ref h2), (11, .int 5)]) hx hb dX5_type_118 hl (k := 8) rfl (by decide) (by decide) rfl (fun ls hl => ?_)
    refine lv_goto (tgt := 47) hx hb dX5_type_121 (by decide) ?_
    have hP := hP.sub (ws' := [(h0, .inr (9, [.int 0, .ref h1, .ref z0, .ref z1, .int 0, .int 0, .int 0])), (h1, .inl (k0, 4, .inr (.inr (.inr (.inr (va_up (va_up (va_up (va_up (fun _ => none) 0 (some ge5)) 1 (some ge5)) 2 (some ge5)) 3 (some ge5))))))), (h2, .inl (k1, 5, .inl (upd (upd (upd (upd (upd (fun _ => 0) 0 l1) 1 l2) 2 l3) 3 l4) 4 1))), (q107, .inr (0, [.ref q108, .int 0, .int 0, .int 0])), (q108, .inl (cq109, 3, .inl f110))]) [0, 1, 2, 7, 8] rfl
    have hD := hD.sub (ws' := [(h0, .inr (9, [.int 0, .ref h1, .ref z0, .ref z1, .int 0, .int 0, .int 0])), (h1, .inl (k0, 4, .inr (.inr (.inr (.inr (va_up (va_up (va_up (va_up (fun _ => none) 0 (some ge5)) 1 (some ge5)) 2 (some ge5)) 3 (some ge5))))))), (h2, .inl (k1, 5, .inl (upd (upd (upd (upd (upd (fun _ => 0) 0 l1) 1 l2) 2 l3) 3 l4) 4 1))), (q107, .inr (0, [.ref q108, .int 0, .int 0, .int 0])), (q108, .inl (cq109, 3, .inl f110))]) [0, 1, 2, 7, 8] (by decide) rfl
    have hK := hK.sub (tys' := [(k0, .object "java/lang/String"), (k1, .int), (cq109, .byte)]) [0, 1, 4] rfl
    have hl := lv_sub hl [4, 5, 6, 2, 1, 7, 8, 0] (show lv_pick [(12, .int 5), (9, .ref q107), (8, .int 0), (13, .int 1), (0, .ref h0), (1, .int rp), (7, .ref h2), (10, .ref h2), (11, .int 5)] [4, 5, 6, 2, 1, 7, 8, 0] = [(0, .ref h0), (1, .int rp), (7, .ref h2), (8, .int 0), (9, .ref q107), (10, .ref h2), (11, .int 5), (12, .int 5)] from rfl)
    exact kx_X5_type_h530 f110_t hR hx hb hr hml hown hts hlocks hA hG hS hK hP hD hl
  · have hR : kz_ty rp 3 0 [] = (R, v) := (kz_ty_g (by decide) (by decide)).symm.trans hR
    refine lv_iload hx hb dX5_type_47 (lv_at hl 7 rfl) ?_
    refine lv_iload hx hb dX5_type_49 (lv_at hl 6 rfl) ?_
    refine lv_icmp_ge (tgt := 124) hx hb dX5_type_51 (by decide) (fun c9 => absurd c9 (by decide)) (fun _ => ?_)
    refine lv_aload hx hb dX5_type_54 (lv_at hl 5 rfl) ?_
    refine lv_iload hx hb dX5_type_56 (lv_at hl 7 rfl) ?_
    refine va_iald (D := (dC, dI)) hx hb hK hP 2 1 rfl rfl (by unfold vp_in; decide) dX5_type_58 ?_
    refine W.eq (g2 := F0 m 59 ls [.int 2]) rfl ?_
    refine lv_istore (lv' := [(13, .int 2), (0, .ref h0), (1, .int rp), (7, .ref h2), (8, .int 0), (9, .ref h3), (10, .ref h2), (11, .int 5), (12, .int 4)]) hx hb dX5_type_59 hl (by decide) rfl (fun ls hl => ?_)
    refine lv_iload hx hb dX5_type_61 (lv_at hl 4 rfl) ?_
    refine lv_iload hx hb dX5_type_63 (lv_at hl 0 rfl) ?_
    refine lv_iconst (v := (-1)) hx hb dX5_type_65 (by decide) ?_
    refine lv_iconst (v := 3) hx hb dX5_type_66 (by decide) ?_
    have hPc := hP.sub (ws' := []) [] rfl
    have hDc := hD.sub (ws' := []) [] (by decide) rfl
    have hKc := hK.sub (tys' := []) [] rfl
    have hFc := va_free (wc := []) hD hS hA [] rfl
    refine va_calli (va_runS (As := [.int 2, .int (-1), .int 3]) (rest := [.int 0]) ⟨hx, hb, hml, hown, hts⟩ (kx_X5_isIn_11 l dC dI H.size) (cwS 3 hts gX5_type_X5_isIn rfl rfl rfl (by decide +kernel) ⟨Nat.le_of_ble_eq_true rfl, Nat.le_of_ble_eq_true rfl⟩) ⟨fun a U g mk q => by obtain ⟨q0, q1, qP, qK, qD⟩ := q; exact ⟨q0, q1, qP, va_K.moved (u := U) (U := U.calling g mk a) (Vm.Alike.refl U.vm) qK, qD⟩, fun U hU hW => ⟨rfl, by rw [hU], by rw [hU]; exact hPc, va_K.moved hW.alike hKc, hDc.weaken (fun _ _ _ _ => trivial)⟩⟩ rfl rfl hl.1 rfl (lv_room (Nat.le_of_ble_eq_true rfl)) dX5_type_67 ⟨Nat.le_of_ble_eq_true rfl, Nat.le_of_ble_eq_true rfl⟩) hS (fun q _ h => hFc q h) hFc (fun r9 u t H1 locs ht hvm hw hB hz1 hk1 hS => ?_)
    obtain rfl := hw
    obtain ⟨hP1, hK1, hD1⟩ := hB
    rw [ht] at hP1
    have hK1 := va_K.moved hvm.symm hK1
    obtain ⟨hP, hD⟩ := va_join (wr := [(h0, .inr (9, [.int 0, .ref h1, .ref z0, .ref z1, .int 0, .int 0, .int 0])), (h1, .inl (k0, 4, .inr (.inr (.inr (.inr (va_up (va_up (va_up (va_up (fun _ => none) 0 (some ge5)) 1 (some ge5)) 2 (some ge5)) 3 (some ge5))))))), (h2, .inl (k1, 5, .inl (upd (upd (upd (upd (upd (fun _ => 0) 0 l1) 1 l2) 2 l3) 3 l4) 4 2))), (h3, .inr (0, [.ref h4, .int 0, .int 0, .int 0])), (h4, .inl (k2, 2, .inl f0))]) (w1 := []) hP hD [] [0, 1, 2, 3, 4] rfl rfl (by decide) (by decide) hk1 hFc hP1 hD1
    generalize H1 = H at hP hS ⊢
    have hP : va_P (dC, dI) vwCl [(h0, .inr (9, [.int 0, .ref h1, .ref z0, .ref z1, .int 0, .int 0, .int 0])), (h1, .inl (k0, 4, .inr (.inr (.inr (.inr (va_up (va_up (va_up (va_up (fun _ => none) 0 (some ge5)) 1 (some ge5)) 2 (some ge5)) 3 (some ge5))))))), (h2, .inl (k1, 5, .inl (upd (upd (upd (upd (upd (fun _ => 0) 0 l1) 1 l2) 2 l3) 3 l4) 4 2))), (h3, .inr (0, [.ref h4, .int 0, .int 0, .int 0])), (h4, .inl (k2, 2, .inl f0))] H := hP
    have hD : va_D A [(h0, .inr (9, [.int 0, .ref h1, .ref z0, .ref z1, .int 0, .int 0, .int 0])), (h1, .inl (k0, 4, .inr (.inr (.inr (.inr (va_up (va_up (va_up (va_up (fun _ => none) 0 (some ge5)) 1 (some ge5)) 2 (some ge5)) 3 (some ge5))))))), (h2, .inl (k1, 5, .inl (upd (upd (upd (upd (upd (fun _ => 0) 0 l1) 1 l2) 2 l3) 3 l4) 4 2))), (h3, .inr (0, [.ref h4, .int 0, .int 0, .int 0])), (h4, .inl (k2, 2, .inl f0))] := hD
    refine lv_if_ne (tgt := 77) hx hb dX5_type_70 (by decide) (fun _ => ?_) (fun c9 => absurd c9 (by decide))
    refine lv_iconst (v := 0) hx hb dX5_type_77 (by decide) ?_
    refine lv_ior hx hb dX5_type_78 ?_
    refine lv_topi (fun y101 ey101 => ?_)
    obtain rfl : y101 = 0 := ey101.trans (by decide)
    refine lv_istore (lv' := [(8, .int 0), (13, .int 2), (0, .ref h0), (1, .int rp), (7, .ref h2), (9, .ref h3), (10, .ref h2), (11, .int 5), (12, .int 4)]) hx hb dX5_type_79 hl (by decide) rfl (fun ls hl => ?_)
    refine lv_iload hx hb dX5_type_81 (lv_at hl 1 rfl) ?_
    refine lv_iconst (v := 0) hx hb dX5_type_83 (by decide) ?_
    refine lv_iconst (v := 3) hx hb dX5_type_84 (by decide) ?_
    have hPc := hP.sub (ws' := []) [] rfl
    have hDc := hD.sub (ws' := []) [] (by decide) rfl
    have hKc := hK.sub (tys' := []) [] rfl
    have hFc := va_free (wc := []) hD hS hA [] rfl
    refine va_calli (va_runS (As := [.int 2, .int 0, .int 3]) (rest := []) ⟨hx, hb, hml, hown, hts⟩ (kx_X5_isIn_12 l dC dI H.size) (cwS 3 hts gX5_type_X5_isIn rfl rfl rfl (by decide +kernel) ⟨Nat.le_of_ble_eq_true rfl, Nat.le_of_ble_eq_true rfl⟩) ⟨fun a U g mk q => by obtain ⟨q0, q1, qP, qK, qD⟩ := q; exact ⟨q0, q1, qP, va_K.moved (u := U) (U := U.calling g mk a) (Vm.Alike.refl U.vm) qK, qD⟩, fun U hU hW => ⟨rfl, by rw [hU], by rw [hU]; exact hPc, va_K.moved hW.alike hKc, hDc.weaken (fun _ _ _ _ => trivial)⟩⟩ rfl rfl hl.1 rfl (lv_room (Nat.le_of_ble_eq_true rfl)) dX5_type_85 ⟨Nat.le_of_ble_eq_true rfl, Nat.le_of_ble_eq_true rfl⟩) hS (fun q _ h => hFc q h) hFc (fun r9 u t H1 locs ht hvm hw hB hz1 hk1 hS => ?_)
    obtain rfl := hw
    obtain ⟨hP1, hK1, hD1⟩ := hB
    rw [ht] at hP1
    have hK1 := va_K.moved hvm.symm hK1
    obtain ⟨hP, hD⟩ := va_join (wr := [(h0, .inr (9, [.int 0, .ref h1, .ref z0, .ref z1, .int 0, .int 0, .int 0])), (h1, .inl (k0, 4, .inr (.inr (.inr (.inr (va_up (va_up (va_up (va_up (fun _ => none) 0 (some ge5)) 1 (some ge5)) 2 (some ge5)) 3 (some ge5))))))), (h2, .inl (k1, 5, .inl (upd (upd (upd (upd (upd (fun _ => 0) 0 l1) 1 l2) 2 l3) 3 l4) 4 2))), (h3, .inr (0, [.ref h4, .int 0, .int 0, .int 0])), (h4, .inl (k2, 2, .inl f0))]) (w1 := []) hP hD [] [0, 1, 2, 3, 4] rfl rfl (by decide) (by decide) hk1 hFc hP1 hD1
    generalize H1 = H at hP hS ⊢
    have hP : va_P (dC, dI) vwCl [(h0, .inr (9, [.int 0, .ref h1, .ref z0, .ref z1, .int 0, .int 0, .int 0])), (h1, .inl (k0, 4, .inr (.inr (.inr (.inr (va_up (va_up (va_up (va_up (fun _ => none) 0 (some ge5)) 1 (some ge5)) 2 (some ge5)) 3 (some ge5))))))), (h2, .inl (k1, 5, .inl (upd (upd (upd (upd (upd (fun _ => 0) 0 l1) 1 l2) 2 l3) 3 l4) 4 2))), (h3, .inr (0, [.ref h4, .int 0, .int 0, .int 0])), (h4, .inl (k2, 2, .inl f0))] H := hP
    have hD : va_D A [(h0, .inr (9, [.int 0, .ref h1, .ref z0, .ref z1, .int 0, .int 0, .int 0])), (h1, .inl (k0, 4, .inr (.inr (.inr (.inr (va_up (va_up (va_up (va_up (fun _ => none) 0 (some ge5)) 1 (some ge5)) 2 (some ge5)) 3 (some ge5))))))), (h2, .inl (k1, 5, .inl (upd (upd (upd (upd (upd (fun _ => 0) 0 l1) 1 l2) 2 l3) 3 l4) 4 2))), (h3, .inr (0, [.ref h4, .int 0, .int 0, .int 0])), (h4, .inl (k2, 2, .inl f0))] := hD
    refine lv_if_eq (tgt := 118) hx hb dX5_type_88 (by decide) (fun c9 => absurd c9 (by decide)) (fun _ => ?_)
    refine va_new (ci := 1) (fs := [.null, .int 0, .int 0, .int 0]) (C := RJ4) (T := TJ4) (N := 4) hx hb hts (by decide +kernel) tyJ4 tyJ4_ok hown (hts (.classLink RX5 49 RJ4) (by decide +kernel)) (hts (.instantiable RJ4 4) (by decide +kernel)) (hts (.initialized RJ4) (by decide +kernel)) hK hP hD hS hA rfl (fun j hj => by rcases (show j = 0 ∨ j = 1 ∨ j = 2 ∨ j = 3 by omega) with rfl | rfl | rfl | rfl <;> rfl) (Nat.le_of_ble_eq_true rfl) (Nat.le_of_ble_eq_true rfl) dX5_type_91 (fun q102 H hP hD hS => ?_)
    have hP : va_P (dC, dI) vwCl [(h0, .inr (9, [.int 0, .ref h1, .ref z0, .ref z1, .int 0, .int 0, .int 0])), (h1, .inl (k0, 4, .inr (.inr (.inr (.inr (va_up (va_up (va_up (va_up (fun _ => none) 0 (some ge5)) 1 (some ge5)) 2 (some ge5)) 3 (some ge5))))))), (h2, .inl (k1, 5, .inl (upd (upd (upd (upd (upd (fun _ => 0) 0 l1) 1 l2) 2 l3) 3 l4) 4 2))), (h3, .inr (0, [.ref h4, .int 0, .int 0, .int 0])), (h4, .inl (k2, 2, .inl f0)), (q102, .inr (1, [.null, .int 0, .int 0, .int 0]))] H := hP
    have hD : va_D A [(h0, .inr (9, [.int 0, .ref h1, .ref z0, .ref z1, .int 0, .int 0, .int 0])), (h1, .inl (k0, 4, .inr (.inr (.inr (.inr (va_up (va_up (va_up (va_up (fun _ => none) 0 (some ge5)) 1 (some ge5)) 2 (some ge5)) 3 (some ge5))))))), (h2, .inl (k1, 5, .inl (upd (upd (upd (upd (upd (fun _ => 0) 0 l1) 1 l2) 2 l3) 3 l4) 4 2))), (h3, .inr (0, [.ref h4, .int 0, .int 0, .int 0])), (h4, .inl (k2, 2, .inl f0)), (q102, .inr (1, [.null, .int 0, .int 0, .int 0]))] := hD
    refine W.widen (k := 10) (n := 60) (by omega) (by omega) ?_
    refine lv_dup hx hb dX5_type_94 rfl ?_
    have hPc := hP.sub (ws' := [(q102, .inr (1, [.null, .int 0, .int 0, .int 0]))]) [5] rfl
    have hDc := hD.sub (ws' := [(q102, .inr (1, [.null, .int 0, .int 0, .int 0]))]) [5] (by decide) rfl
    have hKc := hK.sub (tys' := []) [] rfl
    have hFc := va_free (wc := [(q102, .inr (1, [.null, .int 0, .int 0, .int 0]))]) hD hS hA [5] rfl
    refine va_callv (va_runI (As := []) (rest := [.ref q102]) ⟨hx, hb, hml, hown, hts⟩ (kx_J4_init_da8c8_0 l dC dI ge5 gea gv5 gva gde gic gi0 q102 H.size) (cwI 0 hts gX5_type_J4_init_da8c8 rfl rfl rfl (hts (.initialized RJ4) (by decide +kernel)) (hts (.methodLink RX5 51 yJ4_init_da8c8) (by decide +kernel)) (hts (.instanceMethod yJ4_init_da8c8) (by decide +kernel)) rfl (by decide +kernel) ⟨Nat.le_of_ble_eq_true rfl, Nat.le_of_ble_eq_true rfl⟩) ⟨fun a U g mk q => by obtain ⟨q0, q1, qP, qK, qD, qG⟩ := q; exact ⟨q0, q1, qP, va_K.moved (u := U) (U := U.calling g mk a) (Vm.Alike.refl U.vm) qK, qD, gv.fb qG⟩, fun U hU hW => ⟨rfl, by rw [hU], by rw [hU]; exact hPc, va_K.moved hW.alike hKc, hDc.weaken (fun _ _ _ _ => trivial), gv.pass hW hU hS hFc hG⟩⟩ rfl rfl hl.1 rfl (lv_room (Nat.le_of_ble_eq_true rfl)) dX5_type_95 ⟨Nat.le_of_ble_eq_true rfl, Nat.le_of_ble_eq_true rfl⟩) hS (fun q _ h => hFc q h) hFc (fun u t H1 locs ht hvm hw hB hz1 hk1 hS => ?_)
    obtain ⟨q103, cq104, hP1, hK1, hD1⟩ := hB
    rw [ht] at hP1
    have hK1 := va_K.moved hvm.symm hK1
    obtain ⟨hP, hD⟩ := va_join (wr := [(h0, .inr (9, [.int 0, .ref h1, .ref z0, .ref z1, .int 0, .int 0, .int 0])), (h1, .inl (k0, 4, .inr (.inr (.inr (.inr (va_up (va_up (va_up (va_up (fun _ => none) 0 (some ge5)) 1 (some ge5)) 2 (some ge5)) 3 (some ge5))))))), (h2, .inl (k1, 5, .inl (upd (upd (upd (upd (upd (fun _ => 0) 0 l1) 1 l2) 2 l3) 3 l4) 4 2))), (h3, .inr (0, [.ref h4, .int 0, .int 0, .int 0])), (h4, .inl (k2, 2, .inl f0))]) (w1 := [(q102, .inr (1, [.ref q103, .int 0, .int 0, .int 0])), (q103, .inl (cq104, 16, .inl (fun _ => 0)))]) hP hD [5] [0, 1, 2, 3, 4] rfl rfl (by decide) (by decide) hk1 hFc hP1 hD1
    have hK := hK.app (hK1.sub (tys' := [(cq104, .byte)]) [0] rfl)
    generalize H1 = H at hP hS ⊢
    have hK : va_K (dC, dI) vwCl [(k0, .object "java/lang/String"), (k1, .int), (k2, .byte), (cq104, .byte)] s := hK
    have hP : va_P (dC, dI) vwCl [(h0, .inr (9, [.int 0, .ref h1, .ref z0, .ref z1, .int 0, .int 0, .int 0])), (h1, .inl (k0, 4, .inr (.inr (.inr (.inr (va_up (va_up (va_up (va_up (fun _ => none) 0 (some ge5)) 1 (some ge5)) 2 (some ge5)) 3 (some ge5))))))), (h2, .inl (k1, 5, .inl (upd (upd (upd (upd (upd (fun _ => 0) 0 l1) 1 l2) 2 l3) 3 l4) 4 2))), (h3, .inr (0, [.ref h4, .int 0, .int 0, .int 0])), (h4, .inl (k2, 2, .inl f0)), (q102, .inr (1, [.ref q103, .int 0, .int 0, .int 0])), (q103, .inl (cq104, 16, .inl (fun _ => 0)))] H := hP
    have hD : va_D A [(h0, .inr (9, [.int 0, .ref h1, .ref z0, .ref z1, .int 0, .int 0, .int 0])), (h1, .inl (k0, 4, .inr (.inr (.inr (.inr (va_up (va_up (va_up (va_up (fun _ => none) 0 (some ge5)) 1 (some ge5)) 2 (some ge5)) 3 (some ge5))))))), (h2, .inl (k1, 5, .inl (upd (upd (upd (upd (upd (fun _ => 0) 0 l1) 1 l2) 2 l3) 3 l4) 4 2))), (h3, .inr (0, [.ref h4, .int 0, .int 0, .int 0])), (h4, .inl (k2, 2, .inl f0)), (q102, .inr (1, [.ref q103, .int 0, .int 0, .int 0])), (q103, .inl (cq104, 16, .inl (fun _ => 0)))] := hD
    refine W.widen (k := 11) (n := 76) (by omega) (by omega) ?_
    refine lv_aload hx hb dX5_type_98 (lv_at hl 5 rfl) ?_
    have hPc := hP.sub (ws' := [(h3, .inr (0, [.ref h4, .int 0, .int 0, .int 0])), (h4, .inl (k2, 2, .inl f0)), (q102, .inr (1, [.ref q103, .int 0, .int 0, .int 0])), (q103, .inl (cq104, 16, .inl (fun _ => 0)))]) [3, 4, 5, 6] rfl
    have hDc := hD.sub (ws' := [(h3, .inr (0, [.ref h4, .int 0, .int 0, .int 0])), (h4, .inl (k2, 2, .inl f0)), (q102, .inr (1, [.ref q103, .int 0, .int 0, .int 0])), (q103, .inl (cq104, 16, .inl (fun _ => 0)))]) [3, 4, 5, 6] (by decide) rfl
    have hKc := hK.sub (tys' := [(k2, .byte), (cq104, .byte)]) [2, 3] rfl
    have hFc := va_free (wc := [(h3, .inr (0, [.ref h4, .int 0, .int 0, .int 0])), (h4, .inl (k2, 2, .inl f0)), (q102, .inr (1, [.ref q103, .int 0, .int 0, .int 0])), (q103, .inl (cq104, 16, .inl (fun _ => 0)))]) hD hS hA [3, 4, 5, 6] rfl
    refine va_callr (va_runV (As := [.ref h3]) (rest := []) ⟨hx, hb, hml, hown, hts⟩ (kx_J4_append_15ec4_2 l dC dI ge5 gea gv5 gva gde gic gi0 h3 h4 q102 q103 k2 cq104 H.size f0 f0_t) (cwV 1 hts gX5_type_J4_append_15ec4 rfl rfl rfl (by decide +kernel) ⟨Nat.le_of_ble_eq_true rfl, Nat.le_of_ble_eq_true rfl⟩) ⟨fun a U g mk q => by obtain ⟨q0, q1, qP, qK, qD, qG⟩ := q; exact ⟨q0, q1, qP, va_K.moved (u := U) (U := U.calling g mk a) (Vm.Alike.refl U.vm) qK, qD, gv.fb qG⟩, va_recv hKc hPc (ci := 1) (q0 := 2) rfl rfl, fun U hU hW => ⟨rfl, by rw [hU], by rw [hU]; exact hPc, va_K.moved hW.alike hKc, hDc.weaken (fun _ _ _ _ => trivial), gv.pass hW hU hS hFc hG⟩⟩ rfl rfl hl.1 rfl (lv_room (Nat.le_of_ble_eq_true rfl)) dX5_type_100 ⟨Nat.le_of_ble_eq_true rfl, Nat.le_of_ble_eq_true rfl⟩) hS (fun q _ h => hFc q h) hFc (fun u ra t H1 locs ht hvm hw hB hz1 hk1 hS => ?_)
    obtain ⟨f105, f105_t, hra, hP1, hK1, hD1⟩ := hB
    rw [hra]
    rw [ht] at hP1
    have hK1 := va_K.moved hvm.symm hK1
    obtain ⟨hP, hD⟩ := va_join (wr := [(h0, .inr (9, [.int 0, .ref h1, .ref z0, .ref z1, .int 0, .int 0, .int 0])), (h1, .inl (k0, 4, .inr (.inr (.inr (.inr (va_up (va_up (va_up (va_up (fun _ => none) 0 (some ge5)) 1 (some ge5)) 2 (some ge5)) 3 (some ge5))))))), (h2, .inl (k1, 5, .inl (upd (upd (upd (upd (upd (fun _ => 0) 0 l1) 1 l2) 2 l3) 3 l4) 4 2)))]) (w1 := [(h3, .inr (0, [.ref h4, .int 0, .int 0, .int 0])), (h4, .inl (k2, 2, .inl f0)), (q102, .inr (1, [.ref q103, .int 0, .int 0, .int 2])), (q103, .inl (cq104, 16, .inl f105))]) hP hD [3, 4, 5, 6] [0, 1, 2] rfl rfl (by decide) (by decide) hk1 hFc hP1 hD1
    generalize H1 = H at hP hS ⊢
    have hP : va_P (dC, dI) vwCl [(h0, .inr (9, [.int 0, .ref h1, .ref z0, .ref z1, .int 0, .int 0, .int 0])), (h1, .inl (k0, 4, .inr (.inr (.inr (.inr (va_up (va_up (va_up (va_up (fun _ => none) 0 (some ge5)) 1 (some ge5)) 2 (some ge5)) 3 (some ge5))))))), (h2, .inl (k1, 5, .inl (upd (upd (upd (upd (upd (fun _ => 0) 0 l1) 1 l2) 2 l3) 3 l4) 4 2))), (h3, .inr (0, [.ref h4, .int 0, .int 0, .int 0])), (h4, .inl (k2, 2, .inl f0)), (q102, .inr (1, [.ref q103, .int 0, .int 0, .int 2])), (q103, .inl (cq104, 16, .inl f105))] H := hP
    have hD : va_D A [(h0, .inr (9, [.int 0, .ref h1, .ref z0, .ref z1, .int 0, .int 0, .int 0])), (h1, .inl (k0, 4, .inr (.inr (.inr (.inr (va_up (va_up (va_up (va_up (fun _ => none) 0 (some ge5)) 1 (some ge5)) 2 (some ge5)) 3 (some ge5))))))), (h2, .inl (k1, 5, .inl (upd (upd (upd (upd (upd (fun _ => 0) 0 l1) 1 l2) 2 l3) 3 l4) 4 2))), (h3, .inr (0, [.ref h4, .int 0, .int 0, .int 0])), (h4, .inl (k2, 2, .inl f0)), (q102, .inr (1, [.ref q103, .int 0, .int 0, .int 2])), (q103, .inl (cq104, 16, .inl f105))] := hD
    refine va_ldcS hx hb hown g_sa dX5_type_103 ?_
    refine lv_iload hx hb dX5_type_105 (lv_at hl 1 rfl) ?_
    have hPc := hP.sub (ws' := []) [] rfl
    have hDc := hD.sub (ws' := []) [] (by decide) rfl
    have hKc := hK.sub (tys' := []) [] rfl
    have hFc := va_free (wc := []) hD hS hA [] rfl
    refine va_calli (va_runV (As := [.int 2]) (rest := [.ref q102]) ⟨hx, hb, hml, hown, hts⟩ (kx_J0_charAt_5068e_2 l dC dI ge5 gea gv5 gva gde gic gi0 H.size) (cwV 1 hts gX5_type_J0_charAt_5068e rfl rfl rfl (by decide +kernel) ⟨Nat.le_of_ble_eq_true rfl, Nat.le_of_ble_eq_true rfl⟩) ⟨fun a U g mk q => by obtain ⟨q0, q1, qP, qK, qD, qG⟩ := q; exact ⟨q0, q1, qP, va_K.moved (u := U) (U := U.calling g mk a) (Vm.Alike.refl U.vm) qK, qD, gv.fb qG⟩, (by obtain ⟨cell, k1, k2, k3, -⟩ := g_oa.kept hS.2.1; exact ⟨cell, k1, k2, k3⟩), fun U hU hW => ⟨rfl, by rw [hU], by rw [hU]; exact hPc, va_K.moved hW.alike hKc, hDc.weaken (fun _ _ _ _ => trivial), gv.pass hW hU hS hFc hG⟩⟩ rfl rfl hl.1 rfl (lv_room (Nat.le_of_ble_eq_true rfl)) dX5_type_107 ⟨Nat.le_of_ble_eq_true rfl, Nat.le_of_ble_eq_true rfl⟩) hS (fun q _ h => hFc q h) hFc (fun r9 u t H1 locs ht hvm hw hB hz1 hk1 hS => ?_)
    obtain rfl := hw
    obtain ⟨hP1, hK1, hD1⟩ := hB
    rw [ht] at hP1
    have hK1 := va_K.moved hvm.symm hK1
    obtain ⟨hP, hD⟩ := va_join (wr := [(h0, .inr (9, [.int 0, .ref h1, .ref z0, .ref z1, .int 0, .int 0, .int 0])), (h1, .inl (k0, 4, .inr (.inr (.inr (.inr (va_up (va_up (va_up (va_up (fun _ => none) 0 (some ge5)) 1 (some ge5)) 2 (some ge5)) 3 (some ge5))))))), (h2, .inl (k1, 5, .inl (upd (upd (upd (upd (upd (fun _ => 0) 0 l1) 1 l2) 2 l3) 3 l4) 4 2))), (h3, .inr (0, [.ref h4, .int 0, .int 0, .int 0])), (h4, .inl (k2, 2, .inl f0)), (q102, .inr (1, [.ref q103, .int 0, .int 0, .int 2])), (q103, .inl (cq104, 16, .inl f105))]) (w1 := []) hP hD [] [0, 1, 2, 3, 4, 5, 6] rfl rfl (by decide) (by decide) hk1 hFc hP1 hD1
    generalize H1 = H at hP hS ⊢
    have hP : va_P (dC, dI) vwCl [(h0, .inr (9, [.int 0, .ref h1, .ref z0, .ref z1, .int 0, .int 0, .int 0])), (h1, .inl (k0, 4, .inr (.inr (.inr (.inr (va_up (va_up (va_up (va_up (fun _ => none) 0 (some ge5)) 1 (some ge5)) 2 (some ge5)) 3 (some ge5))))))), (h2, .inl (k1, 5, .inl (upd (upd (upd (upd (upd (fun _ => 0) 0 l1) 1 l2) 2 l3) 3 l4) 4 2))), (h3, .inr (0, [.ref h4, .int 0, .int 0, .int 0])), (h4, .inl (k2, 2, .inl f0)), (q102, .inr (1, [.ref q103, .int 0, .int 0, .int 2])), (q103, .inl (cq104, 16, .inl f105))] H := hP
    have hD : va_D A [(h0, .inr (9, [.int 0, .ref h1, .ref z0, .ref z1, .int 0, .int 0, .int 0])), (h1, .inl (k0, 4, .inr (.inr (.inr (.inr (va_up (va_up (va_up (va_up (fun _ => none) 0 (some ge5)) 1 (some ge5)) 2 (some ge5)) 3 (some ge5))))))), (h2, .inl (k1, 5, .inl (upd (upd (upd (upd (upd (fun _ => 0) 0 l1) 1 l2) 2 l3) 3 l4) 4 2))), (h3, .inr (0, [.ref h4, .int 0, .int 0, .int 0])), (h4, .inl (k2, 2, .inl f0)), (q102, .inr (1, [.ref q103, .int 0, .int 0, .int 2])), (q103, .inl (cq104, 16, .inl f105))] := hD
    have hPc := hP.sub (ws' := [(q102, .inr (1, [.ref q103, .int 0, .int 0, .int 2])), (q103, .inl (cq104, 16, .inl f105))]) [5, 6] rfl
    have hDc := hD.sub (ws' := [(q102, .inr (1, [.ref q103, .int 0, .int 0, .int 2])), (q103, .inl (cq104, 16, .inl f105))]) [5, 6] (by decide) rfl
    have hKc := hK.sub (tys' := [(cq104, .byte)]) [3] rfl
    have hFc := va_free (wc := [(q102, .inr (1, [.ref q103, .int 0, .int 0, .int 2])), (q103, .inl (cq104, 16, .inl f105))]) hD hS hA [5, 6] rfl
    refine va_callr (va_runV (As := [.int 99]) (rest := []) ⟨hx, hb, hml, hown, hts⟩ (kx_J4_append_cf468_10 l dC dI ge5 gea gv5 gva gde gic gi0 q102 q103 cq104 H.size f105 f105_t) (cwV 1 hts gX5_type_J4_append_cf468 rfl rfl rfl (by decide +kernel) ⟨Nat.le_of_ble_eq_true rfl, Nat.le_of_ble_eq_true rfl⟩) ⟨fun a U g mk q => by obtain ⟨q0, q1, qP, qK, qD, qG⟩ := q; exact ⟨q0, q1, qP, va_K.moved (u := U) (U := U.calling g mk a) (Vm.Alike.refl U.vm) qK, qD, gv.fb qG⟩, va_recv hKc hPc (ci := 1) (q0 := 0) rfl rfl, fun U hU hW => ⟨rfl, by rw [hU], by rw [hU]; exact hPc, va_K.moved hW.alike hKc, hDc.weaken (fun _ _ _ _ => trivial), gv.pass hW hU hS hFc hG⟩⟩ rfl rfl hl.1 rfl (lv_room (Nat.le_of_ble_eq_true rfl)) dX5_type_110 ⟨Nat.le_of_ble_eq_true rfl, Nat.le_of_ble_eq_true rfl⟩) hS (fun q _ h => hFc q h) hFc (fun u ra t H1 locs ht hvm hw hB hz1 hk1 hS => ?_)
    obtain ⟨f106, f106_t, hra, hP1, hK1, hD1⟩ := hB
    rw [hra]
    rw [ht] at hP1
    have hK1 := va_K.moved hvm.symm hK1
    obtain ⟨hP, hD⟩ := va_join (wr := [(h0, .inr (9, [.int 0, .ref h1, .ref z0, .ref z1, .int 0, .int 0, .int 0])), (h1, .inl (k0, 4, .inr (.inr (.inr (.inr (va_up (va_up (va_up (va_up (fun _ => none) 0 (some ge5)) 1 (some ge5)) 2 (some ge5)) 3 (some ge5))))))), (h2, .inl (k1, 5, .inl (upd (upd (upd (upd (upd (fun _ => 0) 0 l1) 1 l2) 2 l3) 3 l4) 4 2))), (h3, .inr (0, [.ref h4, .int 0, .int 0, .int 0])), (h4, .inl (k2, 2, .inl f0))]) (w1 := [(q102, .inr (1, [.ref q103, .int 0, .int 0, .int 3])), (q103, .inl (cq104, 16, .inl f106))]) hP hD [5, 6] [0, 1, 2, 3, 4] rfl rfl (by decide) (by decide) hk1 hFc hP1 hD1
    generalize H1 = H at hP hS ⊢
    have hP : va_P (dC, dI) vwCl [(h0, .inr (9, [.int 0, .ref h1, .ref z0, .ref z1, .int 0, .int 0, .int 0])), (h1, .inl (k0, 4, .inr (.inr (.inr (.inr (va_up (va_up (va_up (va_up (fun _ => none) 0 (some ge5)) 1 (some ge5)) 2 (some ge5)) 3 (some ge5))))))), (h2, .inl (k1, 5, .inl (upd (upd (upd (upd (upd (fun _ => 0) 0 l1) 1 l2) 2 l3) 3 l4) 4 2))), (h3, .inr (0, [.ref h4, .int 0, .int 0, .int 0])), (h4, .inl (k2, 2, .inl f0)), (q102, .inr (1, [.ref q103, .int 0, .int 0, .int 3])), (q103, .inl (cq104, 16, .inl f106))] H := hP
    have hD : va_D A [(h0, .inr (9, [.int 0, .ref h1, .ref z0, .ref z1, .int 0, .int 0, .int 0])), (h1, .inl (k0, 4, .inr (.inr (.inr (.inr (va_up (va_up (va_up (va_up (fun _ => none) 0 (some ge5)) 1 (some ge5)) 2 (some ge5)) 3 (some ge5))))))), (h2, .inl (k1, 5, .inl (upd (upd (upd (upd (upd (fun _ => 0) 0 l1) 1 l2) 2 l3) 3 l4) 4 2))), (h3, .inr (0, [.ref h4, .int 0, .int 0, .int 0])), (h4, .inl (k2, 2, .inl f0)), (q102, .inr (1, [.ref q103, .int 0, .int 0, .int 3])), (q103, .inl (cq104, 16, .inl f106))] := hD
    have hPc := hP.sub (ws' := [(q102, .inr (1, [.ref q103, .int 0, .int 0, .int 3])), (q103, .inl (cq104, 16, .inl f106))]) [5, 6] rfl
    have hDc := hD.sub (ws' := [(q102, .inr (1, [.ref q103, .int 0, .int 0, .int 3])), (q103, .inl (cq104, 16, .inl f106))]) [5, 6] (by decide) rfl
    have hKc := hK.sub (tys' := [(cq104, .byte)]) [3] rfl
    have hFc := va_free (wc := [(q102, .inr (1, [.ref q103, .int 0, .int 0, .int 3])), (q103, .inl (cq104, 16, .inl f106))]) hD hS hA [5, 6] rfl
    refine va_callr (va_runV (As := []) (rest := []) ⟨hx, hb, hml, hown, hts⟩ (kx_J4_toString_0e30d_3 l dC dI ge5 gea gv5 gva gde gic gi0 q102 q103 cq104 H.size f106 f106_t) (cwV 0 hts gX5_type_J4_toString_0e30d rfl rfl rfl (by decide +kernel) ⟨Nat.le_of_ble_eq_true rfl, Nat.le_of_ble_eq_true rfl⟩) ⟨fun a U g mk q => by obtain ⟨q0, q1, qP, qK, qD, qG⟩ := q; exact ⟨q0, q1, qP, va_K.moved (u := U) (U := U.calling g mk a) (Vm.Alike.refl U.vm) qK, qD, gv.fb qG⟩, va_recv hKc hPc (ci := 1) (q0 := 0) rfl rfl, fun U hU hW => ⟨rfl, by rw [hU], by rw [hU]; exact hPc, va_K.moved hW.alike hKc, hDc.weaken (fun _ _ _ _ => trivial), gv.pass hW hU hS hFc hG⟩⟩ rfl rfl hl.1 rfl (lv_room (Nat.le_of_ble_eq_true rfl)) dX5_type_113 ⟨Nat.le_of_ble_eq_true rfl, Nat.le_of_ble_eq_true rfl⟩) hS (fun q _ h => hFc q h) hFc (fun u ra t H1 locs ht hvm hw hB hz1 hk1 hS => ?_)
    obtain ⟨q107, q108, cq109, f110, f110_t, hra, hP1, hK1, hD1⟩ := hB
    rw [hra]
    rw [ht] at hP1
    have hK1 := va_K.moved hvm.symm hK1
    obtain ⟨hP, hD⟩ := va_join (wr := [(h0, .inr (9, [.int 0, .ref h1, .ref z0, .ref z1, .int 0, .int 0, .int 0])), (h1, .inl (k0, 4, .inr (.inr (.inr (.inr (va_up (va_up (va_up (va_up (fun _ => none) 0 (some ge5)) 1 (some ge5)) 2 (some ge5)) 3 (some ge5))))))), (h2, .inl (k1, 5, .inl (upd (upd (upd (upd (upd (fun _ => 0) 0 l1) 1 l2) 2 l3) 3 l4) 4 2))), (h3, .inr (0, [.ref h4, .int 0, .int 0, .int 0])), (h4, .inl (k2, 2, .inl f0))]) (w1 := [(q102, .inr (1, [.ref q103, .int 0, .int 0, .int 3])), (q103, .inl (cq104, 16, .inl f106)), (q107, .inr (0, [.ref q108, .int 0, .int 0, .int 0])), (q108, .inl (cq109, 3, .inl f110))]) hP hD [5, 6] [0, 1, 2, 3, 4] rfl rfl (by decide) (by decide) hk1 hFc hP1 hD1
    have hK := hK.app (hK1.sub (tys' := [(cq109, .byte)]) [1] rfl)
    generalize H1 = H at hP hS ⊢
    have hK : va_K (dC, dI) vwCl [(k0, .object "java/lang/String"), (k1, .int), (k2, .byte), (cq104, .byte), (cq109, .byte)] s := hK
    have hP : va_P (dC, dI) vwCl [(h0, .inr (9, [.int 0, .ref h1, .ref z0, .ref z1, .int 0, .int 0, .int 0])), (h1, .inl (k0, 4, .inr (.inr (.inr (.inr (va_up (va_up (va_up (va_up (fun _ => none) 0 (some ge5)) 1 (some ge5)) 2 (some ge5)) 3 (some ge5))))))), (h2, .inl (k1, 5, .inl (upd (upd (upd (upd (upd (fun _ => 0) 0 l1) 1 l2) 2 l3) 3 l4) 4 2))), (h3, .inr (0, [.ref h4, .int 0, .int 0, .int 0])), (h4, .inl (k2, 2, .inl f0)), (q102, .inr (1, [.ref q103, .int 0, .int 0, .int 3])), (q103, .inl (cq104, 16, .inl f106)), (q107, .inr (0, [.ref q108, .int 0, .int 0, .int 0])), (q108, .inl (cq109, 3, .inl f110))] H := hP
    have hD : va_D A [(h0, .inr (9, [.int 0, .ref h1, .ref z0, .ref z1, .int 0, .int 0, .int 0])), (h1, .inl (k0, 4, .inr (.inr (.inr (.inr (va_up (va_up (va_up (va_up (fun _ => none) 0 (some ge5)) 1 (some ge5)) 2 (some ge5)) 3 (some ge5))))))), (h2, .inl (k1, 5, .inl (upd (upd (upd (upd (upd (fun _ => 0) 0 l1) 1 l2) 2 l3) 3 l4) 4 2))), (h3, .inr (0, [.ref h4, .int 0, .int 0, .int 0])), (h4, .inl (k2, 2, .inl f0)), (q102, .inr (1, [.ref q103, .int 0, .int 0, .int 3])), (q103, .inl (cq104, 16, .inl f106)), (q107, .inr (0, [.ref q108, .int 0, .int 0, .int 0])), (q108, .inl (cq109, 3, .inl f110))] := hD
    refine W.widen (k := 13) (n := 83) (by omega) (by omega) ?_
    refine lv_astore (lv' := [(9, .ref q107), (8, .int 0), (13, .int 2), (0, .ref h0), (1, .int rp), (7, .ref h2), (10, .ref h2), (11, .int 5), (12, .int 4)]) hx hb dX5_type_116 hl (by decide) rfl (fun ls hl => ?_)
    refine lv_iinc (v := 5) (lv' := [(12, .int 5), (9, .ref q107), (8, .int 0), (13, .int 2), (0, .ref h0), (1, .int rp), (7, .ref h2), (10, .ref h2), (11, .int 5)]) hx hb dX5_type_118 hl (k := 8) rfl (by decide) (by decide) rfl (fun ls hl => ?_)
    refine lv_goto (tgt := 47) hx hb dX5_type_121 (by decide) ?_
    have hP := hP.sub (ws' := [(h0, .inr (9, [.int 0, .ref h1, .ref z0, .ref z1, .int 0, .int 0, .int 0])), (h1, .inl (k0, 4, .inr (.inr (.inr (.inr (va_up (va_up (va_up (va_up (fun _ => none) 0 (some ge5)) 1 (some ge5)) 2 (some ge5)) 3 (some ge5))))))), (h2, .inl (k1, 5, .inl (upd (upd (upd (upd (upd (fun _ => 0) 0 l1) 1 l2) 2 l3) 3 l4) 4 2))), (q107, .inr (0, [.ref q108, .int 0, .int 0, .int 0])), (q108, .inl (cq109, 3, .inl f110))]) [0, 1, 2, 7, 8] rfl
    have hD := hD.sub (ws' := [(h0, .inr (9, [.int 0, .ref h1, .ref z0, .ref z1, .int 0, .int 0, .int 0])), (h1, .inl (k0, 4, .inr (.inr (.inr (.inr (va_up (va_up (va_up (va_up (fun _ => none) 0 (some ge5)) 1 (some ge5)) 2 (some ge5)) 3 (some ge5))))))), (h2, .inl (k1, 5, .inl (upd (upd (upd (upd (upd (fun _ => 0) 0 l1) 1 l2) 2 l3) 3 l4) 4 2))), (q107, .inr (0, [.ref q108, .int 0, .int 0, .int 0])), (q108, .inl (cq109, 3, .inl f110))]) [0, 1, 2, 7, 8] (by decide) rfl
    have hK := hK.sub (tys' := [(k0, .object "java/lang/String"), (k1, .int), (cq109, .byte)]) [0, 1, 4] rfl
    have hl := lv_sub hl [4, 5, 6, 2, 1, 7, 8, 0] (show lv_pick [(12, .int 5), (9, .ref q107), (8, .int 0), (13, .int 2), (0, .ref h0), (1, .int rp), (7, .ref h2), (10, .ref h2), (11, .int 5)] [4, 5, 6, 2, 1, 7, 8, 0] = [(0, .ref h0), (1, .int rp), (7, .ref h2), (8, .int 0), (9, .ref q107), (10, .ref h2), (11, .int 5), (12, .int 5)] from rfl)
    exact kx_X5_type_h530 f110_t hR hx hb hr hml hown hts hlocks hA hG hS hK hP hD hl
  · have hR : kz_ty rp 3 0 [] = (R, v) := (kz_ty_g (by decide) (by decide)).symm.trans hR
    refine lv_iload hx hb dX5_type_47 (lv_at hl 7 rfl) ?_
    refine lv_iload hx hb dX5_type_49 (lv_at hl 6 rfl) ?_
    refine lv_icmp_ge (tgt := 124) hx hb dX5_type_51 (by decide) (fun c9 => absurd c9 (by decide)) (fun _ => ?_)
    refine lv_aload hx hb dX5_type_54 (lv_at hl 5 rfl) ?_
    refine lv_iload hx hb dX5_type_56 (lv_at hl 7 rfl) ?_
    refine va_iald (D := (dC, dI)) hx hb hK hP 2 1 rfl rfl (by unfold vp_in; decide) dX5_type_58 ?_
    refine W.eq (g2 := F0 m 59 ls [.int 3]) rfl ?_
    refine lv_istore (lv' := [(13, .int 3), (0, .ref h0), (1, .int rp), (7, .ref h2), (8, .int 0), (9, .ref h3), (10, .ref h2), (11, .int 5), (12, .int 4)]) hx hb dX5_type_59 hl (by decide) rfl (fun ls hl => ?_)
    refine lv_iload hx hb dX5_type_61 (lv_at hl 4 rfl) ?_
    refine lv_iload hx hb dX5_type_63 (lv_at hl 0 rfl) ?_
    refine lv_iconst (v := (-1)) hx hb dX5_type_65 (by decide) ?_
    refine lv_iconst (v := 3) hx hb dX5_type_66 (by decide) ?_
    have hPc := hP.sub (ws' := []) [] rfl
    have hDc := hD.sub (ws' := []) [] (by decide) rfl
    have hKc := hK.sub (tys' := []) [] rfl
    have hFc := va_free (wc := []) hD hS hA [] rfl
    refine va_calli (va_runS (As := [.int 3, .int (-1), .int 3]) (rest := [.int 0]) ⟨hx, hb, hml, hown, hts⟩ (kx_X5_isIn_13 l dC dI H.size) (cwS 3 hts gX5_type_X5_isIn rfl rfl rfl (by decide +kernel) ⟨Nat.le_of_ble_eq_true rfl, Nat.le_of_ble_eq_true rfl⟩) ⟨fun a U g mk q => by obtain ⟨q0, q1, qP, qK, qD⟩ := q; exact ⟨q0, q1, qP, va_K.moved (u := U) (U := U.calling g mk a) (Vm.Alike.refl U.vm) qK, qD⟩, fun U hU hW => ⟨rfl, by rw [hU], by rw [hU]; exact hPc, va_K.moved hW.alike hKc, hDc.weaken (fun _ _ _ _ => trivial)⟩⟩ rfl rfl hl.1 rfl (lv_room (Nat.le_of_ble_eq_true rfl)) dX5_type_67 ⟨Nat.le_of_ble_eq_true rfl, Nat.le_of_ble_eq_true rfl⟩) hS (fun q _ h => hFc q h) hFc (fun r9 u t H1 locs ht hvm hw hB hz1 hk1 hS => ?_)
    obtain rfl := hw
    obtain ⟨hP1, hK1, hD1⟩ := hB
    rw [ht] at hP1
    have hK1 := va_K.moved hvm.symm hK1
    obtain ⟨hP, hD⟩ := va_join (wr := [(h0, .inr (9, [.int 0, .ref h1, .ref z0, .ref z1, .int 0, .int 0, .int 0])), (h1, .inl (k0, 4, .inr (.inr (.inr (.inr (va_up (va_up (va_up (va_up (fun _ => none) 0 (some ge5)) 1 (some ge5)) 2 (some ge5)) 3 (some ge5))))))), (h2, .inl (k1, 5, .inl (upd (upd (upd (upd (upd (fun _ => 0) 0 l1) 1 l2) 2 l3) 3 l4) 4 3))), (h3, .inr (0, [.ref h4, .int 0, .int 0, .int 0])), (h4, .inl (k2, 2, .inl f0))]) (w1 := []) hP hD [] [0, 1, 2, 3, 4] rfl rfl (by decide) (by decide) hk1 hFc hP1 hD1
    generalize H1 = H at hP hS ⊢
    have hP : va_P (dC, dI) vwCl [(h0, .inr (9, [.int 0, .ref h1, .ref z0, .ref z1, .int 0, .int 0, .int 0])), (h1, .inl (k0, 4, .inr (.inr (.inr (.inr (va_up (va_up (va_up (va_up (fun _ => none) 0 (some ge5)) 1 (some ge5)) 2 (some ge5)) 3 (some ge5))))))), (h2, .inl (k1, 5, .inl (upd (upd (upd (upd (upd (fun _ => 0) 0 l1) 1 l2) 2 l3) 3 l4) 4 3))), (h3, .inr (0, [.ref h4, .int 0, .int 0, .int 0])), (h4, .inl (k2, 2, .inl f0))] H := hP
    have hD : va_D A [(h0, .inr (9, [.int 0, .ref h1, .ref z0, .ref z1, .int 0, .int 0, .int 0])), (h1, .inl (k0, 4, .inr (.inr (.inr (.inr (va_up (va_up (va_up (va_up (fun _ => none) 0 (some ge5)) 1 (some ge5)) 2 (some ge5)) 3 (some ge5))))))), (h2, .inl (k1, 5, .inl (upd (upd (upd (upd (upd (fun _ => 0) 0 l1) 1 l2) 2 l3) 3 l4) 4 3))), (h3, .inr (0, [.ref h4, .int 0, .int 0, .int 0])), (h4, .inl (k2, 2, .inl f0))] := hD
    refine lv_if_ne (tgt := 77) hx hb dX5_type_70 (by decide) (fun _ => ?_) (fun c9 => absurd c9 (by decide))
    refine lv_iconst (v := 0) hx hb dX5_type_77 (by decide) ?_
    refine lv_ior hx hb dX5_type_78 ?_
    refine lv_topi (fun y101 ey101 => ?_)
    obtain rfl : y101 = 0 := ey101.trans (by decide)
    refine lv_istore (lv' := [(8, .int 0), (13, .int 3), (0, .ref h0), (1, .int rp), (7, .ref h2), (9, .ref h3), (10, .ref h2), (11, .int 5), (12, .int 4)]) hx hb dX5_type_79 hl (by decide) rfl (fun ls hl => ?_)
    refine lv_iload hx hb dX5_type_81 (lv_at hl 1 rfl) ?_
    refine lv_iconst (v := 0) hx hb dX5_type_83 (by decide) ?_
    refine lv_iconst (v := 3) hx hb dX5_type_84 (by decide) ?_
    have hPc := hP.sub (ws' := []) [] rfl
    have hDc := hD.sub (ws' := []) [] (by decide) rfl
    have hKc := hK.sub (tys' := []) [] rfl
    have hFc := va_free (wc := []) hD hS hA [] rfl
    refine va_calli (va_runS (As := [.int 3, .int 0, .int 3]) (rest := []) ⟨hx, hb, hml, hown, hts⟩ (kx_X5_isIn_14 l dC dI H.size) (cwS 3 hts gX5_type_X5_isIn rfl rfl rfl (by decide +kernel) ⟨Nat.le_of_ble_eq_true rfl, Nat.le_of_ble_eq_true rfl⟩) ⟨fun a U g mk q => by obtain ⟨q0, q1, qP, qK, qD⟩ := q; exact ⟨q0, q1, qP, va_K.moved (u := U) (U := U.calling g mk a) (Vm.Alike.refl U.vm) qK, qD⟩, fun U hU hW => ⟨rfl, by rw [hU], by rw [hU]; exact hPc, va_K.moved hW.alike hKc, hDc.weaken (fun _ _ _ _ => trivial)⟩⟩ rfl rfl hl.1 rfl (lv_room (Nat.le_of_ble_eq_true rfl)) dX5_type_85 ⟨Nat.le_of_ble_eq_true rfl, Nat.le_of_ble_eq_true rfl⟩) hS (fun q _ h => hFc q h) hFc (fun r9 u t H1 locs ht hvm hw hB hz1 hk1 hS => ?_)
    obtain rfl := hw
    obtain ⟨hP1, hK1, hD1⟩ := hB
    rw [ht] at hP1
    have hK1 := va_K.moved hvm.symm hK1
    obtain ⟨hP, hD⟩ := va_join (wr := [(h0, .inr (9, [.int 0, .ref h1, .ref z0, .ref z1, .int 0, .int 0, .int 0])), (h1, .inl (k0, 4, .inr (.inr (.inr (.inr (va_up (va_up (va_up (va_up (fun _ => none) 0 (some ge5)) 1 (some ge5)) 2 (some ge5)) 3 (some ge5))))))), (h2, .inl (k1, 5, .inl (upd (upd (upd (upd (upd (fun _ => 0) 0 l1) 1 l2) 2 l3) 3 l4) 4 3))), (h3, .inr (0, [.ref h4, .int 0, .int 0, .int 0])), (h4, .inl (k2, 2, .inl f0))]) (w1 := []) hP hD [] [0, 1, 2, 3, 4] rfl rfl (by decide) (by decide) hk1 hFc hP1 hD1
    generalize H1 = H at hP hS ⊢
    have hP : va_P (dC, dI) vwCl [(h0, .inr (9, [.int 0, .ref h1, .ref z0, .ref z1, .int 0, .int 0, .int 0])), (h1, .inl (k0, 4, .inr (.inr (.inr (.inr (va_up (va_up (va_up (va_up (fun _ => none) 0 (some ge5)) 1 (some ge5)) 2 (some ge5)) 3 (some ge5))))))), (h2, .inl (k1, 5, .inl (upd (upd (upd (upd (upd (fun _ => 0) 0 l1) 1 l2) 2 l3) 3 l4) 4 3))), (h3, .inr (0, [.ref h4, .int 0, .int 0, .int 0])), (h4, .inl (k2, 2, .inl f0))] H := hP
    have hD : va_D A [(h0, .inr (9, [.int 0, .ref h1, .ref z0, .ref z1, .int 0, .int 0, .int 0])), (h1, .inl (k0, 4, .inr (.inr (.inr (.inr (va_up (va_up (va_up (va_up (fun _ => none) 0 (some ge5)) 1 (some ge5)) 2 (some ge5)) 3 (some ge5))))))), (h2, .inl (k1, 5, .inl (upd (upd (upd (upd (upd (fun _ => 0) 0 l1) 1 l2) 2 l3) 3 l4) 4 3))), (h3, .inr (0, [.ref h4, .int 0, .int 0, .int 0])), (h4, .inl (k2, 2, .inl f0))] := hD
    refine lv_if_eq (tgt := 118) hx hb dX5_type_88 (by decide) (fun c9 => absurd c9 (by decide)) (fun _ => ?_)
    refine va_new (ci := 1) (fs := [.null, .int 0, .int 0, .int 0]) (C := RJ4) (T := TJ4) (N := 4) hx hb hts (by decide +kernel) tyJ4 tyJ4_ok hown (hts (.classLink RX5 49 RJ4) (by decide +kernel)) (hts (.instantiable RJ4 4) (by decide +kernel)) (hts (.initialized RJ4) (by decide +kernel)) hK hP hD hS hA rfl (fun j hj => by rcases (show j = 0 ∨ j = 1 ∨ j = 2 ∨ j = 3 by omega) with rfl | rfl | rfl | rfl <;> rfl) (Nat.le_of_ble_eq_true rfl) (Nat.le_of_ble_eq_true rfl) dX5_type_91 (fun q102 H hP hD hS => ?_)
    have hP : va_P (dC, dI) vwCl [(h0, .inr (9, [.int 0, .ref h1, .ref z0, .ref z1, .int 0, .int 0, .int 0])), (h1, .inl (k0, 4, .inr (.inr (.inr (.inr (va_up (va_up (va_up (va_up (fun _ => none) 0 (some ge5)) 1 (some ge5)) 2 (some ge5)) 3 (some ge5))))))), (h2, .inl (k1, 5, .inl (upd (upd (upd (upd (upd (fun _ => 0) 0 l1) 1 l2) 2 l3) 3 l4) 4 3))), (h3, .inr (0, [.ref h4, .int 0, .int 0, .int 0])), (h4, .inl (k2, 2, .inl f0)), (q102, .inr (1, [.null, .int 0, .int 0, .int 0]))] H := hP
    have hD : va_D A [(h0, .inr (9, [.int 0, .ref h1, .ref z0, .ref z1, .int 0, .int 0, .int 0])), (h1, .inl (k0, 4, .inr (.inr (.inr (.inr (va_up (va_up (va_up (va_up (fun _ => none) 0 (some ge5)) 1 (some ge5)) 2 (some ge5)) 3 (some ge5))))))), (h2, .inl (k1, 5, .inl (upd (upd (upd (upd (upd (fun _ => 0) 0 l1) 1 l2) 2 l3) 3 l4) 4 3))), (h3, .inr (0, [.ref h4, .int 0, .int 0, .int 0])), (h4, .inl (k2, 2, .inl f0)), (q102, .inr (1, [.null, .int 0, .int 0, .int 0]))] := hD
    refine W.widen (k := 10) (n := 60) (by omega) (by omega) ?_
    refine lv_dup hx hb dX5_type_94 rfl ?_
    have hPc := hP.sub (ws' := [(q102, .inr (1, [.null, .int 0, .int 0, .int 0]))]) [5] rfl
    have hDc := hD.sub (ws' := [(q102, .inr (1, [.null, .int 0, .int 0, .int 0]))]) [5] (by decide) rfl
    have hKc := hK.sub (tys' := []) [] rfl
    have hFc := va_free (wc := [(q102, .inr (1, [.null, .int 0, .int 0, .int 0]))]) hD hS hA [5] rfl
    refine va_callv (va_runI (As := []) (rest := [.ref q102]) ⟨hx, hb, hml, hown, hts⟩ (kx_J4_init_da8c8_0 l dC dI ge5 gea gv5 gva gde gic gi0 q102 H.size) (cwI 0 hts gX5_type_J4_init_da8c8 rfl rfl rfl (hts (.initialized RJ4) (by decide +kernel)) (hts (.methodLink RX5 51 yJ4_init_da8c8) (by decide +kernel)) (hts (.instanceMethod yJ4_init_da8c8) (by decide +kernel)) rfl (by decide +kernel) ⟨Nat.le_of_ble_eq_true rfl, Nat.le_of_ble_eq_true rfl⟩) ⟨fun a U g mk q => by obtain ⟨q0, q1, qP, qK, qD, qG⟩ := q; exact ⟨q0, q1, qP, va_K.moved (u := U) (U := U.calling g mk a) (Vm.Alike.refl U.vm) qK, qD, gv.fb qG⟩, fun U hU hW => ⟨rfl, by rw [hU], by rw [hU]; exact hPc, va_K.moved hW.alike hKc, hDc.weaken (fun _ _ _ _ => trivial), gv.pass hW hU hS hFc hG⟩⟩ rfl rfl hl.1 rfl (lv_room (Nat.le_of_ble_eq_true rfl)) dX5_type_95 ⟨Nat.le_of_ble_eq_true rfl, Nat.le_of_ble_eq_true rfl⟩) hS (fun q _ h => hFc q h) hFc (fun u t H1 locs ht hvm hw hB hz1 hk1 hS => ?_)
    obtain ⟨q103, cq104, hP1, hK1, hD1⟩ := hB
    rw [ht] at hP1
    have hK1 := va_K.moved hvm.symm hK1
    obtain ⟨hP, hD⟩ := va_join (wr := [(h0, .inr (9, [.int 0, .ref h1, .ref z0, .ref z1, .int 0, .int 0, .int 0])), (h1, .inl (k0, 4, .inr (.inr (.inr (.inr (va_up (va_up (va_up (va_up (fun _ => none) 0 (some ge5)) 1 (some ge5)) 2 (some ge5)) 3 (some ge5))))))), (h2, .inl (k1, 5, .inl (upd (upd (upd (upd (upd (fun _ => 0) 0 l1) 1 l2) 2 l3) 3 l4) 4 3))), (h3, .inr (0, [.ref h4, .int 0, .int 0, .int 0])), (h4, .inl (k2, 2, .inl f0))]) (w1 := [(q102, .inr (1, [.ref q103, .int 0, .int 0, .int 0])), (q103, .inl (cq104, 16, .inl (fun _ => 0)))]) hP hD [5] [0, 1, 2, 3, 4] rfl rfl (by decide) (by decide) hk1 hFc hP1 hD1
    have hK := hK.app (hK1.sub (tys' := [(cq104, .byte)]) [0] rfl)
    generalize H1 = H at hP hS ⊢
    have hK : va_K (dC, dI) vwCl [(k0, .object "java/lang/String"), (k1, .int), (k2, .byte), (cq104, .byte)] s := hK
    have hP : va_P (dC, dI) vwCl [(h0, .inr (9, [.int 0, .ref h1, .ref z0, .ref z1, .int 0, .int 0, .int 0])), (h1, .inl (k0, 4, .inr (.inr (.inr (.inr (va_up (va_up (va_up (va_up (fun _ => none) 0 (some ge5)) 1 (some ge5)) 2 (some ge5)) 3 (some ge5))))))), (h2, .inl (k1, 5, .inl (upd (upd (upd (upd (upd (fun _ => 0) 0 l1) 1 l2) 2 l3) 3 l4) 4 3))), (h3, .inr (0, [.ref h4, .int 0, .int 0, .int 0])), (h4, .inl (k2, 2, .inl f0)), (q102, .inr (1, [.ref q103, .int 0, .int 0, .int 0])), (q103, .inl (cq104, 16, .inl (fun _ => 0)))] H := hP
    have hD : va_D A [(h0, .inr (9, [.int 0, .ref h1, .ref z0, .ref z1, .int 0, .int 0, .int 0])), (h1, .inl (k0, 4, .inr (.inr (.inr (.inr (va_up (va_up (va_up (va_up (fun _ => none) 0 (some ge5)) 1 (some ge5)) 2 (some ge5)) 3 (some ge5))))))), (h2, .inl (k1, 5, .inl (upd (upd (upd (upd (upd (fun _ => 0) 0 l1) 1 l2) 2 l3) 3 l4) 4 3))), (h3, .inr (0, [.ref h4, .int 0, .int 0, .int 0])), (h4, .inl (k2, 2, .inl f0)), (q102, .inr (1, [.ref q103, .int 0, .int 0, .int 0])), (q103, .inl (cq104, 16, .inl (fun _ => 0)))] := hD
    refine W.widen (k := 11) (n := 76) (by omega) (by omega) ?_
    refine lv_aload hx hb dX5_type_98 (lv_at hl 5 rfl) ?_
    have hPc := hP.sub (ws' := [(h3, .inr (0, [.ref h4, .int 0, .int 0, .int 0])), (h4, .inl (k2, 2, .inl f0)), (q102, .inr (1, [.ref q103, .int 0, .int 0, .int 0])), (q103, .inl (cq104, 16, .inl (fun _ => 0)))]) [3, 4, 5, 6] rfl
    have hDc := hD.sub (ws' := [(h3, .inr (0, [.ref h4, .int 0, .int 0, .int 0])), (h4, .inl (k2, 2, .inl f0)), (q102, .inr (1, [.ref q103, .int 0, .int 0, .int 0])), (q103, .inl (cq104, 16, .inl (fun _ => 0)))]) [3, 4, 5, 6] (by decide) rfl
    have hKc := hK.sub (tys' := [(k2, .byte), (cq104, .byte)]) [2, 3] rfl
    have hFc := va_free (wc := [(h3, .inr (0, [.ref h4, .int 0, .int 0, .int 0])), (h4, .inl (k2, 2, .inl f0)), (q102, .inr (1, [.ref q103, .int 0, .int 0, .int 0])), (q103, .inl (cq104, 16, .inl (fun _ => 0)))]) hD hS hA [3, 4, 5, 6] rfl
    refine va_callr (va_runV (As := [.ref h3]) (rest := []) ⟨hx, hb, hml, hown, hts⟩ (kx_J4_append_15ec4_2 l dC dI ge5 gea gv5 gva gde gic gi0 h3 h4 q102 q103 k2 cq104 H.size f0 f0_t) (cwV 1 hts gX5_type_J4_append_15ec4 rfl rfl rfl (by decide +kernel) ⟨Nat.le_of_ble_eq_true rfl, Nat.le_of_ble_eq_true rfl⟩) ⟨fun a U g mk q => by obtain ⟨q0, q1, qP, qK, qD, qG⟩ := q; exact ⟨q0, q1, qP, va_K.moved (u := U) (U := U.calling g mk a) (Vm.Alike.refl U.vm) qK, qD, gv.fb qG⟩, va_recv hKc hPc (ci := 1) (q0 := 2) rfl rfl, fun U hU hW => ⟨rfl, by rw [hU], by rw [hU]; exact hPc, va_K.moved hW.alike hKc, hDc.weaken (fun _ _ _ _ => trivial), gv.pass hW hU hS hFc hG⟩⟩ rfl rfl hl.1 rfl (lv_room (Nat.le_of_ble_eq_true rfl)) dX5_type_100 ⟨Nat.le_of_ble_eq_true rfl, Nat.le_of_ble_eq_true rfl⟩) hS (fun q _ h => hFc q h) hFc (fun u ra t H1 locs ht hvm hw hB hz1 hk1 hS => ?_)
    obtain ⟨f105, f105_t, hra, hP1, hK1, hD1⟩ := hB
    rw [hra]
    rw [ht] at hP1
    have hK1 := va_K.moved hvm.symm hK1
    obtain ⟨hP, hD⟩ := va_join (wr := [(h0, .inr (9, [.int 0, .ref h1, .ref z0, .ref z1, .int 0, .int 0, .int 0])), (h1, .inl (k0, 4, .inr (.inr (.inr (.inr (va_up (va_up (va_up (va_up (fun _ => none) 0 (some ge5)) 1 (some ge5)) 2 (some ge5)) 3 (some ge5))))))), (h2, .inl (k1, 5, .inl (upd (upd (upd (upd (upd (fun _ => 0) 0 l1) 1 l2) 2 l3) 3 l4) 4 3)))]) (w1 := [(h3, .inr (0, [.ref h4, .int 0, .int 0, .int 0])), (h4, .inl (k2, 2, .inl f0)), (q102, .inr (1, [.ref q103, .int 0, .int 0, .int 2])), (q103, .inl (cq104, 16, .inl f105))]) hP hD [3, 4, 5, 6] [0, 1, 2] rfl rfl (by decide) (by decide) hk1 hFc hP1 hD1
    generalize H1 = H at hP hS ⊢
    have hP : va_P (dC, dI) vwCl [(h0, .inr (9, [.int 0, .ref h1, .ref z0, .ref z1, .int 0, .int 0, .int 0])), (h1, .inl (k0, 4, .inr (.inr (.inr (.inr (va_up (va_up (va_up (va_up (fun _ => none) 0 (some ge5)) 1 (some ge5)) 2 (some ge5)) 3 (some ge5))))))), (h2, .inl (k1, 5, .inl (upd (upd (upd (upd (upd (fun _ => 0) 0 l1) 1 l2) 2 l3) 3 l4) 4 3))), (h3, .inr (0, [.ref h4, .int 0, .int 0, .int 0])), (h4, .inl (k2, 2, .inl f0)), (q102, .inr (1, [.ref q103, .int 0, .int 0, .int 2])), (q103, .inl (cq104, 16, .inl f105))] H := hP
    have hD : va_D A [(h0, .inr (9, [.int 0, .ref h1, .ref z0, .ref z1, .int 0, .int 0, .int 0])), (h1, .inl (k0, 4, .inr (.inr (.inr (.inr (va_up (va_up (va_up (va_up (fun _ => none) 0 (some ge5)) 1 (some ge5)) 2 (some ge5)) 3 (some ge5))))))), (h2, .inl (k1, 5, .inl (upd (upd (upd (upd (upd (fun _ => 0) 0 l1) 1 l2) 2 l3) 3 l4) 4 3))), (h3, .inr (0, [.ref h4, .int 0, .int 0, .int 0])), (h4, .inl (k2, 2, .inl f0)), (q102, .inr (1, [.ref q103, .int 0, .int 0, .int 2])), (q103, .inl (cq104, 16, .inl f105))] := hD
    refine va_ldcS hx hb hown g_sa dX5_type_103 ?_
    refine lv_iload hx hb dX5_type_105 (lv_at hl 1 rfl) ?_
    have hPc := hP.sub (ws' := []) [] rfl
    have hDc := hD.sub (ws' := []) [] (by decide) rfl
    have hKc := hK.sub (tys' := []) [] rfl
    have hFc := va_free (wc := []) hD hS hA [] rfl
    refine va_calli (va_runV (As := [.int 3]) (rest := [.ref q102]) ⟨hx, hb, hml, hown, hts⟩ (kx_J0_charAt_5068e_3 l dC dI ge5 gea gv5 gva gde gic gi0 H.size) (cwV 1 hts gX5_type_J0_charAt_5068e rfl rfl rfl (by decide +kernel) ⟨Nat.le_of_ble_eq_true rfl, Nat.le_of_ble_eq_true rfl⟩) ⟨fun a U g mk q => by obtain ⟨q0, q1, qP, qK, qD, qG⟩ := q; exact ⟨q0, q1, qP, va_K.moved (u := U) (U := U.calling g mk a) (Vm.Alike.refl U.vm) qK, qD, gv.fb qG⟩, (by obtain ⟨cell, k1, k2, k3, -⟩ := g_oa.kept hS.2.1; exact ⟨cell, k1, k2, k3⟩), fun U hU hW => ⟨rfl, by rw [hU], by rw [hU]; exact hPc, va_K.moved hW.alike hKc, hDc.weaken (fun _ _ _ _ => trivial), gv.pass hW hU hS hFc hG⟩⟩ rfl rfl hl.1 rfl (lv_room (Nat.le_of_ble_eq_true rfl)) dX5_type_107 ⟨Nat.le_of_ble_eq_true rfl, Nat.le_of_ble_eq_true rfl⟩) hS (fun q _ h => hFc q h) hFc (fun r9 u t H1 locs ht hvm hw hB hz1 hk1 hS => ?_)
    obtain rfl := hw
    obtain ⟨hP1, hK1, hD1⟩ := hB
    rw [ht] at hP1
    have hK1 := va_K.moved hvm.symm hK1
    obtain ⟨hP, hD⟩ := va_join (wr := [(h0, .inr (9, [.int 0, .ref h1, .ref z0, .ref z1, .int 0, .int 0, .int 0])), (h1, .inl (k0, 4, .inr (.inr (.inr (.inr (va_up (va_up (va_up (va_up (fun _ => none) 0 (some ge5)) 1 (some ge5)) 2 (some ge5)) 3 (some ge5))))))), (h2, .inl (k1, 5, .inl (upd (upd (upd (upd (upd (fun _ => 0) 0 l1) 1 l2) 2 l3) 3 l4) 4 3))), (h3, .inr (0, [.ref h4, .int 0, .int 0, .int 0])), (h4, .inl (k2, 2, .inl f0)), (q102, .inr (1, [.ref q103, .int 0, .int 0, .int 2])), (q103, .inl (cq104, 16, .inl f105))]) (w1 := []) hP hD [] [0, 1, 2, 3, 4, 5, 6] rfl rfl (by decide) (by decide) hk1 hFc hP1 hD1
    generalize H1 = H at hP hS ⊢
    have hP : va_P (dC, dI) vwCl [(h0, .inr (9, [.int 0, .ref h1, .ref z0, .ref z1, .int 0, .int 0, .int 0])), (h1, .inl (k0, 4, .inr (.inr (.inr (.inr (va_up (va_up (va_up (va_up (fun _ => none) 0 (some ge5)) 1 (some ge5)) 2 (some ge5)) 3 (some ge5))))))), (h2, .inl (k1, 5, .inl (upd (upd (upd (upd (upd (fun _ => 0) 0 l1) 1 l2) 2 l3) 3 l4) 4 3))), (h3, .inr (0, [.ref h4, .int 0, .int 0, .int 0])), (h4, .inl (k2, 2, .inl f0)), (q102, .inr (1, [.ref q103, .int 0, .int 0, .int 2])), (q103, .inl (cq104, 16, .inl f105))] H := hP
    have hD : va_D A [(h0, .inr (9, [.int 0, .ref h1, .ref z0, .ref z1, .int 0, .int 0, .int 0])), (h1, .inl (k0, 4, .inr (.inr (.inr (.inr (va_up (va_up (va_up (va_up (fun _ => none) 0 (some ge5)) 1 (some ge5)) 2 (some ge5)) 3 (some ge5))))))), (h2, .inl (k1, 5, .inl (upd (upd (upd (upd (upd (fun _ => 0) 0 l1) 1 l2) 2 l3) 3 l4) 4 3))), (h3, .inr (0, [.ref h4, .int 0, .int 0, .int 0])), (h4, .inl (k2, 2, .inl f0)), (q102, .inr (1, [.ref q103, .int 0, .int 0, .int 2])), (q103, .inl (cq104, 16, .inl f105))] := hD
    have hPc := hP.sub (ws' := [(q102, .inr (1, [.ref q103, .int 0, .int 0, .int 2])), (q103, .inl (cq104, 16, .inl f105))]) [5, 6] rfl
    have hDc := hD.sub (ws' := [(q102, .inr (1, [.ref q103, .int 0, .int 0, .int 2])), (q103, .inl (cq104, 16, .inl f105))]) [5, 6] (by decide) rfl
    have hKc := hK.sub (tys' := [(cq104, .byte)]) [3] rfl
    have hFc := va_free (wc := [(q102, .inr (1, [.ref q103, .int 0, .int 0, .int 2])), (q103, .inl (cq104, 16, .inl f105))]) hD hS hA [5, 6] rfl
    refine va_callr (va_runV (As := [.int 100]) (rest := []) ⟨hx, hb, hml, hown, hts⟩ (kx_J4_append_cf468_11 l dC dI ge5 gea gv5 gva gde gic gi0 q102 q103 cq104 H.size f105 f105_t) (cwV 1 hts gX5_type_J4_append_cf468 rfl rfl rfl (by decide +kernel) ⟨Nat.le_of_ble_eq_true rfl, Nat.le_of_ble_eq_true rfl⟩) ⟨fun a U g mk q => by obtain ⟨q0, q1, qP, qK, qD, qG⟩ := q; exact ⟨q0, q1, qP, va_K.moved (u := U) (U := U.calling g mk a) (Vm.Alike.refl U.vm) qK, qD, gv.fb qG⟩, va_recv hKc hPc (ci := 1) (q0 := 0) rfl rfl, fun U hU hW => ⟨rfl, by rw [hU], by rw [hU]; exact hPc, va_K.moved hW.alike hKc, hDc.weaken (fun _ _ _ _ => trivial), gv.pass hW hU hS hFc hG⟩⟩ rfl rfl hl.1 rfl (lv_room (Nat.le_of_ble_eq_true rfl)) dX5_type_110 ⟨Nat.le_of_ble_eq_true rfl, Nat.le_of_ble_eq_true rfl⟩) hS (fun q _ h => hFc q h) hFc (fun u ra t H1 locs ht hvm hw hB hz1 hk1 hS => ?_)
    obtain ⟨f106, f106_t, hra, hP1, hK1, hD1⟩ := hB
    rw [hra]
    rw [ht] at hP1
    have hK1 := va_K.moved hvm.symm hK1
    obtain ⟨hP, hD⟩ := va_join (wr := [(h0, .inr (9, [.int 0, .ref h1, .ref z0, .ref z1, .int 0, .int 0, .int 0])), (h1, .inl (k0, 4, .inr (.inr (.inr (.inr (va_up (va_up (va_up (va_up (fun _ => none) 0 (some ge5)) 1 (some ge5)) 2 (some ge5)) 3 (some ge5))))))), (h2, .inl (k1, 5, .inl (upd (upd (upd (upd (upd (fun _ => 0) 0 l1) 1 l2) 2 l3) 3 l4) 4 3))), (h3, .inr (0, [.ref h4, .int 0, .int 0, .int 0])), (h4, .inl (k2, 2, .inl f0))]) (w1 := [(q102, .inr (1, [.ref q103, .int 0, .int 0, .int 3])), (q103, .inl (cq104, 16, .inl f106))]) hP hD [5, 6] [0, 1, 2, 3, 4] rfl rfl (by decide) (by decide) hk1 hFc hP1 hD1
    generalize H1 = H at hP hS ⊢
    have hP : va_P (dC, dI) vwCl [(h0, .inr (9, [.int 0, .ref h1, .ref z0, .ref z1, .int 0, .int 0, .int 0])), (h1, .inl (k0, 4, .inr (.inr (.inr (.inr (va_up (va_up (va_up (va_up (fun _ => none) 0 (some ge5)) 1 (some ge5)) 2 (some ge5)) 3 (some ge5))))))), (h2, .inl (k1, 5, .inl (upd (upd (upd (upd (upd (fun _ => 0) 0 l1) 1 l2) 2 l3) 3 l4) 4 3))), (h3, .inr (0, [.ref h4, .int 0, .int 0, .int 0])), (h4, .inl (k2, 2, .inl f0)), (q102, .inr (1, [.ref q103, .int 0, .int 0, .int 3])), (q103, .inl (cq104, 16, .inl f106))] H := hP
    have hD : va_D A [(h0, .inr (9, [.int 0, .ref h1, .ref z0, .ref z1, .int 0, .int 0, .int 0])), (h1, .inl (k0, 4, .inr (.inr (.inr (.inr (va_up (va_up (va_up (va_up (fun _ => none) 0 (some ge5)) 1 (some ge5)) 2 (some ge5)) 3 (some ge5))))))), (h2, .inl (k1, 5, .inl (upd (upd (upd (upd (upd (fun _ => 0) 0 l1) 1 l2) 2 l3) 3 l4) 4 3))), (h3, .inr (0, [.ref h4, .int 0, .int 0, .int 0])), (h4, .inl (k2, 2, .inl f0)), (q102, .inr (1, [.ref q103, .int 0, .int 0, .int 3])), (q103, .inl (cq104, 16, .inl f106))] := hD
    have hPc := hP.sub (ws' := [(q102, .inr (1, [.ref q103, .int 0, .int 0, .int 3])), (q103, .inl (cq104, 16, .inl f106))]) [5, 6] rfl
    have hDc := hD.sub (ws' := [(q102, .inr (1, [.ref q103, .int 0, .int 0, .int 3])), (q103, .inl (cq104, 16, .inl f106))]) [5, 6] (by decide) rfl
    have hKc := hK.sub (tys' := [(cq104, .byte)]) [3] rfl
    have hFc := va_free (wc := [(q102, .inr (1, [.ref q103, .int 0, .int 0, .int 3])), (q103, .inl (cq104, 16, .inl f106))]) hD hS hA [5, 6] rfl
    refine va_callr (va_runV (As := []) (rest := []) ⟨hx, hb, hml, hown, hts⟩ (kx_J4_toString_0e30d_3 l dC dI ge5 gea gv5 gva gde gic gi0 q102 q103 cq104 H.size f106 f106_t) (cwV 0 hts gX5_type_J4_toString_0e30d rfl rfl rfl (by decide +kernel) ⟨Nat.le_of_ble_eq_true rfl, Nat.le_of_ble_eq_true rfl⟩) ⟨fun a U g mk q => by obtain ⟨q0, q1, qP, qK, qD, qG⟩ := q; exact ⟨q0, q1, qP, va_K.moved (u := U) (U := U.calling g mk a) (Vm.Alike.refl U.vm) qK, qD, gv.fb qG⟩, va_recv hKc hPc (ci := 1) (q0 := 0) rfl rfl, fun U hU hW => ⟨rfl, by rw [hU], by rw [hU]; exact hPc, va_K.moved hW.alike hKc, hDc.weaken (fun _ _ _ _ => trivial), gv.pass hW hU hS hFc hG⟩⟩ rfl rfl hl.1 rfl (lv_room (Nat.le_of_ble_eq_true rfl)) dX5_type_113 ⟨Nat.le_of_ble_eq_true rfl, Nat.le_of_ble_eq_true rfl⟩) hS (fun q _ h => hFc q h) hFc (fun u ra t H1 locs ht hvm hw hB hz1 hk1 hS => ?_)
    obtain ⟨q107, q108, cq109, f110, f110_t, hra, hP1, hK1, hD1⟩ := hB
    rw [hra]
    rw [ht] at hP1
    have hK1 := va_K.moved hvm.symm hK1
    obtain ⟨hP, hD⟩ := va_join (wr := [(h0, .inr (9, [.int 0, .ref h1, .ref z0, .ref z1, .int 0, .int 0, .int 0])), (h1, .inl (k0, 4, .inr (.inr (.inr (.inr (va_up (va_up (va_up (va_up (fun _ => none) 0 (some ge5)) 1 (some ge5)) 2 (some ge5)) 3 (some ge5))))))), (h2, .inl (k1, 5, .inl (upd (upd (upd (upd (upd (fun _ => 0) 0 l1) 1 l2) 2 l3) 3 l4) 4 3))), (h3, .inr (0, [.ref h4, .int 0, .int 0, .int 0])), (h4, .inl (k2, 2, .inl f0))]) (w1 := [(q102, .inr (1, [.ref q103, .int 0, .int 0, .int 3])), (q103, .inl (cq104, 16, .inl f106)), (q107, .inr (0, [.ref q108, .int 0, .int 0, .int 0])), (q108, .inl (cq109, 3, .inl f110))]) hP hD [5, 6] [0, 1, 2, 3, 4] rfl rfl (by decide) (by decide) hk1 hFc hP1 hD1
    have hK := hK.app (hK1.sub (tys' := [(cq109, .byte)]) [1] rfl)
    generalize H1 = H at hP hS ⊢
    have hK : va_K (dC, dI) vwCl [(k0, .object "java/lang/String"), (k1, .int), (k2, .byte), (cq104, .byte), (cq109, .byte)] s := hK
    have hP : va_P (dC, dI) vwCl [(h0, .inr (9, [.int 0, .ref h1, .ref z0, .ref z1, .int 0, .int 0, .int 0])), (h1, .inl (k0, 4, .inr (.inr (.inr (.inr (va_up (va_up (va_up (va_up (fun _ => none) 0 (some ge5)) 1 (some ge5)) 2 (some ge5)) 3 (some ge5))))))), (h2, .inl (k1, 5, .inl (upd (upd (upd (upd (upd (fun _ => 0) 0 l1) 1 l2) 2 l3) 3 l4) 4 3))), (h3, .inr (0, [.ref h4, .int 0, .int 0, .int 0])), (h4, .inl (k2, 2, .inl f0)), (q102, .inr (1, [.ref q103, .int 0, .int 0, .int 3])), (q103, .inl (cq104, 16, .inl f106)), (q107, .inr (0, [.ref q108, .int 0, .int 0, .int 0])), (q108, .inl (cq109, 3, .inl f110))] H := hP
    have hD : va_D A [(h0, .inr (9, [.int 0, .ref h1, .ref z0, .ref z1, .int 0, .int 0, .int 0])), (h1, .inl (k0, 4, .inr (.inr (.inr (.inr (va_up (va_up (va_up (va_up (fun _ => none) 0 (some ge5)) 1 (some ge5)) 2 (some ge5)) 3 (some ge5))))))), (h2, .inl (k1, 5, .inl (upd (upd (upd (upd (upd (fun _ => 0) 0 l1) 1 l2) 2 l3) 3 l4) 4 3))), (h3, .inr (0, [.ref h4, .int 0, .int 0, .int 0])), (h4, .inl (k2, 2, .inl f0)), (q102, .inr (1, [.ref q103, .int 0, .int 0, .int 3])), (q103, .inl (cq104, 16, .inl f106)), (q107, .inr (0, [.ref q108, .int 0, .int 0, .int 0])), (q108, .inl (cq109, 3, .inl f110))] := hD
    refine W.widen (k := 13) (n := 83) (by omega) (by omega) ?_
    refine lv_astore (lv' := [(9, .ref q107), (8, .int 0), (13, .int 3), (0, .ref h0), (1, .int rp), (7, .ref h2), (10, .ref h2), (11, .int 5), (12, .int 4)]) hx hb dX5_type_116 hl (by decide) rfl (fun ls hl => ?_)
    refine lv_iinc (v := 5) (lv' := [(12, .int 5), (9, .ref q107), (8, .int 0), (13, .int 3), (0, .ref h0), (1, .int rp), (7, .ref h2), (10, .ref h2), (11, .int 5)]) hx hb dX5_type_118 hl (k := 8) rfl (by decide) (by decide) rfl (fun ls hl => ?_)
    refine lv_goto (tgt := 47) hx hb dX5_type_121 (by decide) ?_
    have hP := hP.sub (ws' := [(h0, .inr (9, [.int 0, .ref h1, .ref z0, .ref z1, .int 0, .int 0, .int 0])), (h1, .inl (k0, 4, .inr (.inr (.inr (.inr (va_up (va_up (va_up (va_up (fun _ => none) 0 (some ge5)) 1 (some ge5)) 2 (some ge5)) 3 (some ge5))))))), (h2, .inl (k1, 5, .inl (upd (upd (upd (upd (upd (fun _ => 0) 0 l1) 1 l2) 2 l3) 3 l4) 4 3))), (q107, .inr (0, [.ref q108, .int 0, .int 0, .int 0])), (q108, .inl (cq109, 3, .inl f110))]) [0, 1, 2, 7, 8] rfl
    have hD := hD.sub (ws' := [(h0, .inr (9, [.int 0, .ref h1, .ref z0, .ref z1, .int 0, .int 0, .int 0])), (h1, .inl (k0, 4, .inr (.inr (.inr (.inr (va_up (va_up (va_up (va_up (fun _ => none) 0 (some ge5)) 1 (some ge5)) 2 (some ge5)) 3 (some ge5))))))), (h2, .inl (k1, 5, .inl (upd (upd (upd (upd (upd (fun _ => 0) 0 l1) 1 l2) 2 l3) 3 l4) 4 3))), (q107, .inr (0, [.ref q108, .int 0, .int 0, .int 0])), (q108, .inl (cq109, 3, .inl f110))]) [0, 1, 2, 7, 8] (by decide) rfl
    have hK := hK.sub (tys' := [(k0, .object "java/lang/String"), (k1, .int), (cq109, .byte)]) [0, 1, 4] rfl
    have hl := lv_sub hl [4, 5, 6, 2, 1, 7, 8, 0] (show lv_pick [(12, .int 5), (9, .ref q107), (8, .int 0), (13, .int 3), (0, .ref h0), (1, .int rp), (7, .ref h2), (10, .ref h2), (11, .int 5)] [4, 5, 6, 2, 1, 7, 8, 0] = [(0, .ref h0), (1, .int rp), (7, .ref h2), (8, .int 0), (9, .ref q107), (10, .ref h2), (11, .int 5), (12, .int 5)] from rfl)
    exact kx_X5_type_h530 f110_t hR hx hb hr hml hown hts hlocks hA hG hS hK hP hD hl
  · have l5_l : (4 : Int) ≤ l5.toInt := by omega
    have l5_u : l5.toInt ≤ (2147483647 : Int) := by omega
    have hR : kz_ty rp 2 1 [] = (R, v) := (kz_ty_b (by omega)).symm.trans hR
    refine lv_iload hx hb dX5_type_47 (lv_at hl 7 rfl) ?_
    refine lv_iload hx hb dX5_type_49 (lv_at hl 6 rfl) ?_
    refine lv_icmp_ge (tgt := 124) hx hb dX5_type_51 (by decide) (fun c9 => absurd c9 (by decide)) (fun _ => ?_)
    refine lv_aload hx hb dX5_type_54 (lv_at hl 5 rfl) ?_
    refine lv_iload hx hb dX5_type_56 (lv_at hl 7 rfl) ?_
    refine va_iald (D := (dC, dI)) hx hb hK hP 2 1 rfl rfl (by unfold vp_in; decide) dX5_type_58 ?_
    refine W.eq (g2 := F0 m 59 ls [.int l5]) rfl ?_
    refine lv_istore (lv' := [(13, .int l5), (0, .ref h0), (1, .int rp), (7, .ref h2), (8, .int 0), (9, .ref h3), (10, .ref h2), (11, .int 5), (12, .int 4)]) hx hb dX5_type_59 hl (by decide) rfl (fun ls hl => ?_)
    refine lv_iload hx hb dX5_type_61 (lv_at hl 4 rfl) ?_
    refine lv_iload hx hb dX5_type_63 (lv_at hl 0 rfl) ?_
    refine lv_iconst (v := (-1)) hx hb dX5_type_65 (by decide) ?_
    refine lv_iconst (v := 3) hx hb dX5_type_66 (by decide) ?_
    have hPc := hP.sub (ws' := []) [] rfl
    have hDc := hD.sub (ws' := []) [] (by decide) rfl
    have hKc := hK.sub (tys' := []) [] rfl
    have hFc := va_free (wc := []) hD hS hA [] rfl
    refine va_calli (va_runS (As := [.int l5, .int (-1), .int 3]) (rest := [.int 0]) ⟨hx, hb, hml, hown, hts⟩ (kx_X5_isIn_15 l dC dI H.size l5 l5_l l5_u) (cwS 3 hts gX5_type_X5_isIn rfl rfl rfl (by decide +kernel) ⟨Nat.le_of_ble_eq_true rfl, Nat.le_of_ble_eq_true rfl⟩) ⟨fun a U g mk q => by obtain ⟨q0, q1, qP, qK, qD⟩ := q; exact ⟨q0, q1, qP, va_K.moved (u := U) (U := U.calling g mk a) (Vm.Alike.refl U.vm) qK, qD⟩, fun U hU hW => ⟨rfl, by rw [hU], by rw [hU]; exact hPc, va_K.moved hW.alike hKc, hDc.weaken (fun _ _ _ _ => trivial)⟩⟩ rfl rfl hl.1 rfl (lv_room (Nat.le_of_ble_eq_true rfl)) dX5_type_67 ⟨Nat.le_of_ble_eq_true rfl, Nat.le_of_ble_eq_true rfl⟩) hS (fun q _ h => hFc q h) hFc (fun r9 u t H1 locs ht hvm hw hB hz1 hk1 hS => ?_)
    obtain rfl := hw
    obtain ⟨hP1, hK1, hD1⟩ := hB
    rw [ht] at hP1
    have hK1 := va_K.moved hvm.symm hK1
    obtain ⟨hP, hD⟩ := va_join (wr := [(h0, .inr (9, [.int 0, .ref h1, .ref z0, .ref z1, .int 0, .int 0, .int 0])), (h1, .inl (k0, 4, .inr (.inr (.inr (.inr (va_up (va_up (va_up (va_up (fun _ => none) 0 (some ge5)) 1 (some ge5)) 2 (some ge5)) 3 (some ge5))))))), (h2, .inl (k1, 5, .inl (upd (upd (upd (upd (upd (fun _ => 0) 0 l1) 1 l2) 2 l3) 3 l4) 4 l5))), (h3, .inr (0, [.ref h4, .int 0, .int 0, .int 0])), (h4, .inl (k2, 2, .inl f0))]) (w1 := []) hP hD [] [0, 1, 2, 3, 4] rfl rfl (by decide) (by decide) hk1 hFc hP1 hD1
    generalize H1 = H at hP hS ⊢
    have hP : va_P (dC, dI) vwCl [(h0, .inr (9, [.int 0, .ref h1, .ref z0, .ref z1, .int 0, .int 0, .int 0])), (h1, .inl (k0, 4, .inr (.inr (.inr (.inr (va_up (va_up (va_up (va_up (fun _ => none) 0 (some ge5)) 1 (some ge5)) 2 (some ge5)) 3 (some ge5))))))), (h2, .inl (k1, 5, .inl (upd (upd (upd (upd (upd (fun _ => 0) 0 l1) 1 l2) 2 l3) 3 l4) 4 l5))), (h3, .inr (0, [.ref h4, .int 0, .int 0, .int 0])), (h4, .inl (k2, 2, .inl f0))] H := hP
    have hD : va_D A [(h0, .inr (9, [.int 0, .ref h1, .ref z0, .ref z1, .int 0, .int 0, .int 0])), (h1, .inl (k0, 4, .inr (.inr (.inr (.inr (va_up (va_up (va_up (va_up (fun _ => none) 0 (some ge5)) 1 (some ge5)) 2 (some ge5)) 3 (some ge5))))))), (h2, .inl (k1, 5, .inl (upd (upd (upd (upd (upd (fun _ => 0) 0 l1) 1 l2) 2 l3) 3 l4) 4 l5))), (h3, .inr (0, [.ref h4, .int 0, .int 0, .int 0])), (h4, .inl (k2, 2, .inl f0))] := hD
    refine lv_if_ne (tgt := 77) hx hb dX5_type_70 (by decide) (fun c9 => absurd (by decide) c9) (fun _ => ?_)
    refine lv_iconst (v := 1) hx hb dX5_type_73 (by decide) ?_
    refine lv_goto (tgt := 78) hx hb dX5_type_74 (by decide) ?_
    refine lv_ior hx hb dX5_type_78 ?_
    refine lv_topi (fun y101 ey101 => ?_)
    obtain rfl : y101 = 1 := ey101.trans (by decide)
    refine lv_istore (lv' := [(8, .int 1), (13, .int l5), (0, .ref h0), (1, .int rp), (7, .ref h2), (9, .ref h3), (10, .ref h2), (11, .int 5), (12, .int 4)]) hx hb dX5_type_79 hl (by decide) rfl (fun ls hl => ?_)
    refine lv_iload hx hb dX5_type_81 (lv_at hl 1 rfl) ?_
    refine lv_iconst (v := 0) hx hb dX5_type_83 (by decide) ?_
    refine lv_iconst (v := 3) hx hb dX5_type_84 (by decide) ?_
    have hPc := hP.sub (ws' := []) [] rfl
    have hDc := hD.sub (ws' := []) [] (by decide) rfl
    have hKc := hK.sub (tys' := []) [] rfl
    have hFc := va_free (wc := []) hD hS hA [] rfl
    refine va_calli (va_runS (As := [.int l5, .int 0, .int 3]) (rest := []) ⟨hx, hb, hml, hown, hts⟩ (kx_X5_isIn_2 l dC dI H.size l5 l5_l l5_u) (cwS 3 hts gX5_type_X5_isIn rfl rfl rfl (by decide +kernel) ⟨Nat.le_of_ble_eq_true rfl, Nat.le_of_ble_eq_true rfl⟩) ⟨fun a U g mk q => by obtain ⟨q0, q1, qP, qK, qD⟩ := q; exact ⟨q0, q1, qP, va_K.moved (u := U) (U := U.calling g mk a) (Vm.Alike.refl U.vm) qK, qD⟩, fun U hU hW => ⟨rfl, by rw [hU], by rw [hU]; exact hPc, va_K.moved hW.alike hKc, hDc.weaken (fun _ _ _ _ => trivial)⟩⟩ rfl rfl hl.1 rfl (lv_room (Nat.le_of_ble_eq_true rfl)) dX5_type_85 ⟨Nat.le_of_ble_eq_true rfl, Nat.le_of_ble_eq_true rfl⟩) hS (fun q _ h => hFc q h) hFc (fun r9 u t H1 locs ht hvm hw hB hz1 hk1 hS => ?_)
    obtain rfl := hw
    obtain ⟨hP1, hK1, hD1⟩ := hB
    rw [ht] at hP1
    have hK1 := va_K.moved hvm.symm hK1
    obtain ⟨hP, hD⟩ := va_join (wr := [(h0, .inr (9, [.int 0, .ref h1, .ref z0, .ref z1, .int 0, .int 0, .int 0])), (h1, .inl (k0, 4, .inr (.inr (.inr (.inr (va_up (va_up (va_up (va_up (fun _ => none) 0 (some ge5)) 1 (some ge5)) 2 (some ge5)) 3 (some ge5))))))), (h2, .inl (k1, 5, .inl (upd (upd (upd (upd (upd (fun _ => 0) 0 l1) 1 l2) 2 l3) 3 l4) 4 l5))), (h3, .inr (0, [.ref h4, .int 0, .int 0, .int 0])), (h4, .inl (k2, 2, .inl f0))]) (w1 := []) hP hD [] [0, 1, 2, 3, 4] rfl rfl (by decide) (by decide) hk1 hFc hP1 hD1
    generalize H1 = H at hP hS ⊢
    have hP : va_P (dC, dI) vwCl [(h0, .inr (9, [.int 0, .ref h1, .ref z0, .ref z1, .int 0, .int 0, .int 0])), (h1, .inl (k0, 4, .inr (.inr (.inr (.inr (va_up (va_up (va_up (va_up (fun _ => none) 0 (some ge5)) 1 (some ge5)) 2 (some ge5)) 3 (some ge5))))))), (h2, .inl (k1, 5, .inl (upd (upd (upd (upd (upd (fun _ => 0) 0 l1) 1 l2) 2 l3) 3 l4) 4 l5))), (h3, .inr (0, [.ref h4, .int 0, .int 0, .int 0])), (h4, .inl (k2, 2, .inl f0))] H := hP
    have hD : va_D A [(h0, .inr (9, [.int 0, .ref h1, .ref z0, .ref z1, .int 0, .int 0, .int 0])), (h1, .inl (k0, 4, .inr (.inr (.inr (.inr (va_up (va_up (va_up (va_up (fun _ => none) 0 (some ge5)) 1 (some ge5)) 2 (some ge5)) 3 (some ge5))))))), (h2, .inl (k1, 5, .inl (upd (upd (upd (upd (upd (fun _ => 0) 0 l1) 1 l2) 2 l3) 3 l4) 4 l5))), (h3, .inr (0, [.ref h4, .int 0, .int 0, .int 0])), (h4, .inl (k2, 2, .inl f0))] := hD
    refine lv_if_eq (tgt := 118) hx hb dX5_type_88 (by decide) (fun _ => ?_) (fun c9 => absurd (by decide) c9)
    refine lv_iinc (v := 5) (lv' := [(12, .int 5), (8, .int 1), (13, .int l5), (0, .ref h0), (1, .int rp), (7, .ref h2), (9, .ref h3), (10, .ref h2), (11, .int 5)]) hx hb dX5_type_118 hl (k := 8) rfl (by decide) (by decide) rfl (fun ls hl => ?_)
    refine lv_goto (tgt := 47) hx hb dX5_type_121 (by decide) ?_
    have hP := hP.sub (ws' := [(h0, .inr (9, [.int 0, .ref h1, .ref z0, .ref z1, .int 0, .int 0, .int 0])), (h1, .inl (k0, 4, .inr (.inr (.inr (.inr (va_up (va_up (va_up (va_up (fun _ => none) 0 (some ge5)) 1 (some ge5)) 2 (some ge5)) 3 (some ge5))))))), (h2, .inl (k1, 5, .inl (upd (upd (upd (upd (upd (fun _ => 0) 0 l1) 1 l2) 2 l3) 3 l4) 4 l5))), (h3, .inr (0, [.ref h4, .int 0, .int 0, .int 0])), (h4, .inl (k2, 2, .inl f0))]) [0, 1, 2, 3, 4] rfl
    have hD := hD.sub (ws' := [(h0, .inr (9, [.int 0, .ref h1, .ref z0, .ref z1, .int 0, .int 0, .int 0])), (h1, .inl (k0, 4, .inr (.inr (.inr (.inr (va_up (va_up (va_up (va_up (fun _ => none) 0 (some ge5)) 1 (some ge5)) 2 (some ge5)) 3 (some ge5))))))), (h2, .inl (k1, 5, .inl (upd (upd (upd (upd (upd (fun _ => 0) 0 l1) 1 l2) 2 l3) 3 l4) 4 l5))), (h3, .inr (0, [.ref h4, .int 0, .int 0, .int 0])), (h4, .inl (k2, 2, .inl f0))]) [0, 1, 2, 3, 4] (by decide) rfl
    have hK := hK.sub (tys' := [(k0, .object "java/lang/String"), (k1, .int), (k2, .byte)]) [0, 1, 2] rfl
    have hl := lv_sub hl [3, 4, 5, 1, 6, 7, 8, 0] (show lv_pick [(12, .int 5), (8, .int 1), (13, .int l5), (0, .ref h0), (1, .int rp), (7, .ref h2), (9, .ref h3), (10, .ref h2), (11, .int 5)] [3, 4, 5, 1, 6, 7, 8, 0] = [(0, .ref h0), (1, .int rp), (7, .ref h2), (8, .int 1), (9, .ref h3), (10, .ref h2), (11, .int 5), (12, .int 5)] from rfl)
    exact kx_X5_type_h521 f0_t hR hx hb hr hml hown hts hlocks hA hG hS hK hP hD hl
set_option maxHeartbeats 4000000 in
set_option maxRecDepth 100000 in
theorem kx_J5_ensureCapacityInternal_d00df_8 (l : Launch) (dC : Nat → ClassId) (dI : Nat → Nat → Nat) (h0 : Nat) (h1 : Nat) (k0 : ClassId) (sz : Nat) (f0 : Nat → Int32) (f0_t : sb_Fit f0) : Met l yJ5_ensureCapacityInternal_d00df wsJ5_ensureCapacityInternal_d00df ({ frames := 0, cells := 0, slots := 0, locals := 0 }) (va_Pc [.ref h0, .int 4] (fun U => U.heap.size = sz ∧ va_P (dC, dI) vwCl [(h0, .inr (1, [.ref h1, .int 0, .int 0, .int 3])), (h1, .inl (k0, 16, .inl f0))] U.heap ∧ va_K (dC, dI) vwCl [(k0, .byte)] U ∧ va_D (fun _ => True) [(h0, .inr (1, [.ref h1, .int 0, .int 0, .int 3])), (h1, .inl (k0, 16, .inl f0))])) (va_Qv (fun _ : Unit => True) (fun (_ : Unit) (t : State) => va_P (dC, dI) vwCl [(h0, .inr (1, [.ref h1, .int 0, .int 0, .int 3])), (h1, .inl (k0, 16, .inl f0))] t.heap ∧ va_K (dC, dI) vwCl [(k0, .byte)] t ∧ va_D (va_A [(h0, .inr (1, [.ref h1, .int 0, .int 0, .int 3])), (h1, .inl (k0, 16, .inl f0))] sz) [(h0, .inr (1, [.ref h1, .int 0, .int 0, .int 3])), (h1, .inl (k0, 16, .inl f0))]) (va_A [(h0, .inr (1, [.ref h1, .int 0, .int 0, .int 3])), (h1, .inl (k0, 16, .inl f0))] sz)) 0 0 (va_A [(h0, .inr (1, [.ref h1, .int 0, .int 0, .int 3])), (h1, .inl (k0, 16, .inl f0))] sz) := by
  refine Met.ofW (cc := cJ5_ensureCapacityInternal_d00df) (maxL := 3) (ret := none) (by decide) rfl ?_
  intro p e s m args below meth c s₁ B hml hv
  obtain ⟨rfl, hsz, hP, hK, hD0⟩ := hv
  have hx := B.exec
  have hb := B.bytes
  have hr := B.returns
  have hts := atoms_spec (ws := wsJ5_ensureCapacityInternal_d00df) B.pre
  have hown : s.vm.findClass RJ5 = some m.cls := findClass_of_methodNamed B.named
  have hlocks := B.notSynchronized
  subst hsz
  have hD := hD0.self (sz := s.heap.size)
  generalize hAe : va_A [(h0, .inr (1, [.ref h1, .int 0, .int 0, .int 3])), (h1, .inl (k0, 16, .inl f0))] s.heap.size = A at hD ⊢
  have hA : ∀ q : Nat, s.heap.size ≤ q → A q := fun q h => by rw [← hAe]; exact Or.inr h
  have hS : va_S A s.heap s.heap [] := va_S.rf
  have hP : va_P (dC, dI) vwCl [(h0, .inr (1, [.ref h1, .int 0, .int 0, .int 3])), (h1, .inl (k0, 16, .inl f0))] s.heap := hP
  have hl := lv_entry ([.ref h0, .int 4]) (n := 3) (Nat.le_of_ble_eq_true rfl)
  rw [lg_entry_eq]
  generalize (lg_sl ([.ref h0, .int 4]) ++ List.replicate (3 - (lg_sl ([.ref h0, .int 4])).length) Slot.unset).toArray = ls at hl ⊢
  have hl : lv_has ls 3 [(0, .ref h0), (1, .int 4)] := hl
  refine lv_aload_n hx hb dJ5_ensureCapacityInternal_d00df_0 rfl (lv_at hl 0 rfl) ?_
  refine va_get (D := (dC, dI)) (ci := 1) (v := .ref h1) (C := RJ4) (T := TJ4) (N := 4) hx hb hts (by decide +kernel) hown hK hP 0 rfl rfl 0 (by decide) (hts (.fieldLink RJ5 15 "java/lang/AbstractStringBuilder" "value" "[B") (by decide +kernel)) (fun _ h9 => h9) rfl dJ5_ensureCapacityInternal_d00df_1 ?_
  refine va_alen (D := (dC, dI)) (v := 16) hx hb hK hP 1 0 rfl rfl (show Int32.ofNat 16 = 16 from by decide) dJ5_ensureCapacityInternal_d00df_4 ?_
  refine lv_aload_n hx hb dJ5_ensureCapacityInternal_d00df_5 rfl (lv_at hl 0 rfl) ?_
  refine va_get (D := (dC, dI)) (ci := 1) (v := .int 0) (C := RJ4) (T := TJ4) (N := 4) hx hb hts (by decide +kernel) hown hK hP 0 rfl rfl 1 (by decide) (hts (.fieldLink RJ5 22 "java/lang/AbstractStringBuilder" "coder" "B") (by decide +kernel)) (fun _ h9 => h9) rfl dJ5_ensureCapacityInternal_d00df_6 ?_
  refine lv_ishr hx hb dJ5_ensureCapacityInternal_d00df_9 ?_
  refine lv_topi (fun y1 ey1 => ?_)
  obtain rfl : y1 = 16 := ey1.trans (by decide)
  refine lv_istore_n (lv' := [(2, .int 16), (0, .ref h0), (1, .int 4)]) hx hb dJ5_ensureCapacityInternal_d00df_10 rfl hl (by decide) rfl (fun ls hl => ?_)
  refine lv_iload_n hx hb dJ5_ensureCapacityInternal_d00df_11 rfl (lv_at hl 2 rfl) ?_
  refine lv_iload_n hx hb dJ5_ensureCapacityInternal_d00df_12 rfl (lv_at hl 0 rfl) ?_
  refine lv_isub hx hb dJ5_ensureCapacityInternal_d00df_13 ?_
  refine lv_topi (fun y2 ey2 => ?_)
  obtain rfl : y2 = (-12) := ey2.trans (by decide)
  refine lv_if_le (tgt := 38) hx hb dJ5_ensureCapacityInternal_d00df_14 (by decide) (fun _ => ?_) (fun c9 => absurd (by decide) c9)
  exact W.vret hx hb hr (fun t ht hW => ⟨⟨(), rfl, trivial, by rw [ht]; exact hP, va_K.moved hW.alike hK, hD⟩, hS.F ht⟩) hS.2.2 dJ5_ensureCapacityInternal_d00df_38
set_option maxHeartbeats 4000000 in
set_option maxRecDepth 100000 in
theorem kx_J5_append_3fe6f_12 (l : Launch) (dC : Nat → ClassId) (dI : Nat → Nat → Nat) (ge5 gea gv5 gva gde gic gi0 : Nat) (h0 : Nat) (h1 : Nat) (k0 : ClassId) (sz : Nat) (f0 : Nat → Int32) (f0_t : sb_Fit f0) : Met l yJ5_append_3fe6f wsJ5_append_3fe6f ({ frames := 1, cells := 0, slots := 0, locals := 22 }) (va_Pc [.ref h0, .int 97] (fun U => U.heap.size = sz ∧ va_P (dC, dI) vwCl [(h0, .inr (1, [.ref h1, .int 0, .int 0, .int 3])), (h1, .inl (k0, 16, .inl f0))] U.heap ∧ va_K (dC, dI) vwCl [(k0, .byte)] U ∧ va_D (fun _ => True) [(h0, .inr (1, [.ref h1, .int 0, .int 0, .int 3])), (h1, .inl (k0, 16, .inl f0))] ∧ gv ge5 gea gv5 gva gde gic gi0 (va_A [(h0, .inr (1, [.ref h1, .int 0, .int 0, .int 3])), (h1, .inl (k0, 16, .inl f0))] sz) U U.heap)) (va_Qr (fun _ : Unit => True) (fun (_ : Unit) (ra : Nat) (t : State) => ∃ f3 : Nat → Int32, sb_Fit f3 ∧ ra = h0 ∧ va_P (dC, dI) vwCl [(h0, .inr (1, [.ref h1, .int 0, .int 0, .int 4])), (h1, .inl (k0, 16, .inl f3))] t.heap ∧ va_K (dC, dI) vwCl [(k0, .byte)] t ∧ va_D (va_A [(h0, .inr (1, [.ref h1, .int 0, .int 0, .int 3])), (h1, .inl (k0, 16, .inl f0))] sz) [(h0, .inr (1, [.ref h1, .int 0, .int 0, .int 4])), (h1, .inl (k0, 16, .inl f3))]) (va_A [(h0, .inr (1, [.ref h1, .int 0, .int 0, .int 3])), (h1, .inl (k0, 16, .inl f0))] sz)) 0 0 (va_A [(h0, .inr (1, [.ref h1, .int 0, .int 0, .int 3])), (h1, .inl (k0, 16, .inl f0))] sz) := by
  refine Met.ofW (cc := cJ5_append_3fe6f) (maxL := 2) (ret := (some (.object "java/lang/AbstractStringBuilder"))) (by decide) rfl ?_
  intro p e s m args below meth c s₁ B hml hv
  obtain ⟨rfl, hsz, hP, hK, hD0, hG⟩ := hv
  have hx := B.exec
  have hb := B.bytes
  have hr := B.returns
  have hts := atoms_spec (ws := wsJ5_append_3fe6f) B.pre
  have hown : s.vm.findClass RJ5 = some m.cls := findClass_of_methodNamed B.named
  have hlocks := B.notSynchronized
  subst hsz
  have hD := hD0.self (sz := s.heap.size)
  generalize hAe : va_A [(h0, .inr (1, [.ref h1, .int 0, .int 0, .int 3])), (h1, .inl (k0, 16, .inl f0))] s.heap.size = A at hD hG ⊢
  obtain ⟨⟨g_AO_Text, g_AO_String, g_AO_Object, g_nm_RX1_20, g_nm_RX0_17, g_nm_RX3_31, g_nm_RX2_44, g_nm_RL_121, g_nf_RL_13, g_nf_RL_47, g_ca_IO, g_ca_IA, g_ca_IS, g_ca_IntObj, g_ca_StrObj, g_de_RT, g_de_EX, g_de_TH, g_nc_IA_IO, g_nc_IS_IO, g_nc_IS_IA⟩, ⟨g_s3, g_s5, g_sa, g_x278, g_x280, g_x282, g_x284, g_x286, g_x180, g_x238, g_x250⟩, ⟨g_o5, g_c5, g_v5, g_t5, g_oa, g_ca, g_va, g_ta, g_zc, g_zd, g_td, g_zf, g_zU, g_zN, g_zh, g_zk, g_tk, g_oi, g_vi⟩⟩ := id hG
  have hA : ∀ q : Nat, s.heap.size ≤ q → A q := fun q h => by rw [← hAe]; exact Or.inr h
  have hS : va_S A s.heap s.heap [] := va_S.rf
  have hP : va_P (dC, dI) vwCl [(h0, .inr (1, [.ref h1, .int 0, .int 0, .int 3])), (h1, .inl (k0, 16, .inl f0))] s.heap := hP
  have hl := lv_entry ([.ref h0, .int 97]) (n := 2) (Nat.le_of_ble_eq_true rfl)
  rw [lg_entry_eq]
  generalize (lg_sl ([.ref h0, .int 97]) ++ List.replicate (2 - (lg_sl ([.ref h0, .int 97])).length) Slot.unset).toArray = ls at hl ⊢
  have hl : lv_has ls 2 [(0, .ref h0), (1, .int 97)] := hl
  refine lv_aload_n hx hb dJ5_append_3fe6f_0 rfl (lv_at hl 0 rfl) ?_
  refine lv_aload_n hx hb dJ5_append_3fe6f_1 rfl (lv_at hl 0 rfl) ?_
  refine va_get (D := (dC, dI)) (ci := 1) (v := .int 3) (C := RJ4) (T := TJ4) (N := 4) hx hb hts (by decide +kernel) hown hK hP 0 rfl rfl 3 (by decide) (hts (.fieldLink RJ5 79 "java/lang/AbstractStringBuilder" "count" "I") (by decide +kernel)) (fun _ h9 => h9) rfl dJ5_append_3fe6f_2 ?_
  refine lv_iconst (v := 1) hx hb dJ5_append_3fe6f_5 (by decide) ?_
  refine lv_iadd hx hb dJ5_append_3fe6f_6 ?_
  refine lv_topi (fun y1 ey1 => ?_)
  obtain rfl : y1 = 4 := ey1.trans (by decide)
  have hPc := hP.sub (ws' := [(h0, .inr (1, [.ref h1, .int 0, .int 0, .int 3])), (h1, .inl (k0, 16, .inl f0))]) [0, 1] rfl
  have hDc := hD.sub (ws' := [(h0, .inr (1, [.ref h1, .int 0, .int 0, .int 3])), (h1, .inl (k0, 16, .inl f0))]) [0, 1] (by decide) rfl
  have hKc := hK.sub (tys' := [(k0, .byte)]) [0] rfl
  have hFc := va_free (wc := [(h0, .inr (1, [.ref h1, .int 0, .int 0, .int 3])), (h1, .inl (k0, 16, .inl f0))]) hD hS hA [0, 1] rfl
  refine va_callv (va_runU (As := [.int 4]) (rest := []) ⟨hx, hb, hml, hown, hts⟩ (kx_J5_ensureCapacityInternal_d00df_8 l dC dI h0 h1 k0 s.heap.size f0 f0_t) (va_cwU 1 hts gJ5_append_3fe6f_J5_ensureCapacityInternal_d00df_u100J4 rfl rfl rfl rfl (by decide +kernel) ⟨Nat.le_of_ble_eq_true rfl, Nat.le_of_ble_eq_true rfl⟩) ⟨fun a U g mk q => by obtain ⟨q0, q1, qP, qK, qD⟩ := q; exact ⟨q0, q1, qP, va_K.moved (u := U) (U := U.calling g mk a) (Vm.Alike.refl U.vm) qK, qD⟩, va_recv hKc hPc (ci := 1) (q0 := 0) rfl rfl, fun U hU hW => ⟨rfl, by rw [hU], by rw [hU]; exact hPc, va_K.moved hW.alike hKc, hDc.weaken (fun _ _ _ _ => trivial)⟩⟩ rfl rfl hl.1 rfl (lv_room (Nat.le_of_ble_eq_true rfl)) dJ5_append_3fe6f_7 ⟨Nat.le_of_ble_eq_true rfl, Nat.le_of_ble_eq_true rfl⟩) hS (fun q _ h => hFc q h) hFc (fun u t H1 locs ht hvm hw hB hz1 hk1 hS => ?_)
  obtain ⟨hP1, hK1, hD1⟩ := hB
  rw [ht] at hP1
  have hK1 := va_K.moved hvm.symm hK1
  obtain ⟨hP, hD⟩ := va_join (wr := []) (w1 := [(h0, .inr (1, [.ref h1, .int 0, .int 0, .int 3])), (h1, .inl (k0, 16, .inl f0))]) hP hD [0, 1] [] rfl rfl (by decide) (by decide) hk1 hFc hP1 hD1
  generalize H1 = H at hP hS ⊢
  have hP : va_P (dC, dI) vwCl [(h0, .inr (1, [.ref h1, .int 0, .int 0, .int 3])), (h1, .inl (k0, 16, .inl f0))] H := hP
  have hD : va_D A [(h0, .inr (1, [.ref h1, .int 0, .int 0, .int 3])), (h1, .inl (k0, 16, .inl f0))] := hD
  refine lv_aload_n hx hb dJ5_append_3fe6f_10 rfl (lv_at hl 0 rfl) ?_
  have hPc := hP.sub (ws' := [(h0, .inr (1, [.ref h1, .int 0, .int 0, .int 3]))]) [0] rfl
  have hDc := hD.sub (ws' := [(h0, .inr (1, [.ref h1, .int 0, .int 0, .int 3]))]) [0] (by decide) rfl
  have hKc := hK.sub (tys' := []) [] rfl
  have hFc := va_free (wc := [(h0, .inr (1, [.ref h1, .int 0, .int 0, .int 3]))]) hD hS hA [0] rfl
  refine va_calli (va_runU (As := []) (rest := []) ⟨hx, hb, hml, hown, hts⟩ (kx_J5_isLatin1_aae02_3 l dC dI ge5 gea gv5 gva gde gic gi0 h0 h1 H.size) (va_cwU 0 hts gJ5_append_3fe6f_J5_isLatin1_aae02_u83J4 rfl rfl rfl rfl (by decide +kernel) ⟨Nat.le_of_ble_eq_true rfl, Nat.le_of_ble_eq_true rfl⟩) ⟨fun a U g mk q => by obtain ⟨q0, q1, qP, qK, qD, qG⟩ := q; exact ⟨q0, q1, qP, va_K.moved (u := U) (U := U.calling g mk a) (Vm.Alike.refl U.vm) qK, qD, gv.fb qG⟩, va_recv hKc hPc (ci := 1) (q0 := 0) rfl rfl, fun U hU hW => ⟨rfl, by rw [hU], by rw [hU]; exact hPc, va_K.moved hW.alike hKc, hDc.weaken (fun _ _ _ _ => trivial), gv.pass hW hU hS hFc hG⟩⟩ rfl rfl hl.1 rfl (lv_room (Nat.le_of_ble_eq_true rfl)) dJ5_append_3fe6f_11 ⟨Nat.le_of_ble_eq_true rfl, Nat.le_of_ble_eq_true rfl⟩) hS (fun q _ h => hFc q h) hFc (fun r9 u t H1 locs ht hvm hw hB hz1 hk1 hS => ?_)
  obtain rfl := hw
  obtain ⟨hP1, hK1, hD1⟩ := hB
  rw [ht] at hP1
  have hK1 := va_K.moved hvm.symm hK1
  obtain ⟨hP, hD⟩ := va_join (wr := [(h1, .inl (k0, 16, .inl f0))]) (w1 := [(h0, .inr (1, [.ref h1, .int 0, .int 0, .int 3]))]) hP hD [0] [1] rfl rfl (by decide) (by decide) hk1 hFc hP1 hD1
  generalize H1 = H at hP hS ⊢
  have hP : va_P (dC, dI) vwCl [(h1, .inl (k0, 16, .inl f0)), (h0, .inr (1, [.ref h1, .int 0, .int 0, .int 3]))] H := hP
  have hD : va_D A [(h1, .inl (k0, 16, .inl f0)), (h0, .inr (1, [.ref h1, .int 0, .int 0, .int 3]))] := hD
  refine lv_if_eq (tgt := 45) hx hb dJ5_append_3fe6f_14 (by decide) (fun c9 => absurd c9 (by decide)) (fun _ => ?_)
  refine lv_iload_n hx hb dJ5_append_3fe6f_17 rfl (lv_at hl 1 rfl) ?_
  have hPc := hP.sub (ws' := []) [] rfl
  have hDc := hD.sub (ws' := []) [] (by decide) rfl
  have hKc := hK.sub (tys' := []) [] rfl
  have hFc := va_free (wc := []) hD hS hA [] rfl
  refine va_calli (va_runS (As := [.int 97]) (rest := []) ⟨hx, hb, hml, hown, hts⟩ (kx_J1_canEncode_fc78d_0 l dC dI H.size) (va_cwS 1 hts gJ5_append_3fe6f_J1_canEncode_fc78d rfl rfl rfl (by decide +kernel) ⟨Nat.le_of_ble_eq_true rfl, Nat.le_of_ble_eq_true rfl⟩) ⟨fun a U g mk q => by obtain ⟨q0, q1, qP, qK, qD⟩ := q; exact ⟨q0, q1, qP, va_K.moved (u := U) (U := U.calling g mk a) (Vm.Alike.refl U.vm) qK, qD⟩, fun U hU hW => ⟨rfl, by rw [hU], by rw [hU]; exact hPc, va_K.moved hW.alike hKc, hDc.weaken (fun _ _ _ _ => trivial)⟩⟩ rfl rfl hl.1 rfl (lv_room (Nat.le_of_ble_eq_true rfl)) dJ5_append_3fe6f_18 ⟨Nat.le_of_ble_eq_true rfl, Nat.le_of_ble_eq_true rfl⟩) hS (fun q _ h => hFc q h) hFc (fun r9 u t H1 locs ht hvm hw hB hz1 hk1 hS => ?_)
  obtain rfl := hw
  obtain ⟨hP1, hK1, hD1⟩ := hB
  rw [ht] at hP1
  have hK1 := va_K.moved hvm.symm hK1
  obtain ⟨hP, hD⟩ := va_join (wr := [(h1, .inl (k0, 16, .inl f0)), (h0, .inr (1, [.ref h1, .int 0, .int 0, .int 3]))]) (w1 := []) hP hD [] [0, 1] rfl rfl (by decide) (by decide) hk1 hFc hP1 hD1
  generalize H1 = H at hP hS ⊢
  have hP : va_P (dC, dI) vwCl [(h1, .inl (k0, 16, .inl f0)), (h0, .inr (1, [.ref h1, .int 0, .int 0, .int 3]))] H := hP
  have hD : va_D A [(h1, .inl (k0, 16, .inl f0)), (h0, .inr (1, [.ref h1, .int 0, .int 0, .int 3]))] := hD
  refine lv_if_eq (tgt := 45) hx hb dJ5_append_3fe6f_21 (by decide) (fun c9 => absurd c9 (by decide)) (fun _ => ?_)
  refine lv_aload_n hx hb dJ5_append_3fe6f_24 rfl (lv_at hl 0 rfl) ?_
  refine va_get (D := (dC, dI)) (ci := 1) (v := .ref h1) (C := RJ4) (T := TJ4) (N := 4) hx hb hts (by decide +kernel) hown hK hP 1 rfl rfl 0 (by decide) (hts (.fieldLink RJ5 15 "java/lang/AbstractStringBuilder" "value" "[B") (by decide +kernel)) (fun _ h9 => h9) rfl dJ5_append_3fe6f_25 ?_
  refine lv_aload_n hx hb dJ5_append_3fe6f_28 rfl (lv_at hl 0 rfl) ?_
  refine lv_dup hx hb dJ5_append_3fe6f_29 rfl ?_
  refine va_get (D := (dC, dI)) (ci := 1) (v := .int 3) (C := RJ4) (T := TJ4) (N := 4) hx hb hts (by decide +kernel) hown hK hP 1 rfl rfl 3 (by decide) (hts (.fieldLink RJ5 79 "java/lang/AbstractStringBuilder" "count" "I") (by decide +kernel)) (fun _ h9 => h9) rfl dJ5_append_3fe6f_30 ?_
  refine lv_dup_x1 hx hb dJ5_append_3fe6f_33 rfl rfl ?_
  refine lv_iconst (v := 1) hx hb dJ5_append_3fe6f_34 (by decide) ?_
  refine lv_iadd hx hb dJ5_append_3fe6f_35 ?_
  refine lv_topi (fun y2 ey2 => ?_)
  obtain rfl : y2 = 4 := ey2.trans (by decide)
  refine va_put (D := (dC, dI)) (ci := 1) (v := .int 4) (ty := .int) (C := RJ4) (T := TJ4) (N := 4) hx hb hts (by decide +kernel) tyJ4 tyJ4_ok nmJ4 hown hK hP hD hS 1 rfl rfl 3 (by decide) (hts (.fieldLink RJ5 79 "java/lang/AbstractStringBuilder" "count" "I") (by decide +kernel)) (fun _ h9 => h9) rfl (by decide +kernel) rfl rfl (Nat.le_of_ble_eq_true rfl) dJ5_append_3fe6f_36 (fun H locs hP hD hS => ?_)
  have hP : va_P (dC, dI) vwCl [(h1, .inl (k0, 16, .inl f0)), (h0, .inr (1, [.ref h1, .int 0, .int 0, .int 4]))] H := hP
  have hD : va_D A [(h1, .inl (k0, 16, .inl f0)), (h0, .inr (1, [.ref h1, .int 0, .int 0, .int 4]))] := hD
  refine lv_iload_n hx hb dJ5_append_3fe6f_39 rfl (lv_at hl 1 rfl) ?_
  refine lv_i2b (v := 97) hx hb dJ5_append_3fe6f_40 (by decide) ?_
  refine va_bast (D := (dC, dI)) hx hb hK hP hD hS 0 0 rfl rfl (by unfold vp_in; decide) dJ5_append_3fe6f_41 (fun H locs hP hD hS => ?_)
  have hP : va_P (dC, dI) vwCl [(h1, .inl (k0, 16, .inl (upd f0 3 97))), (h0, .inr (1, [.ref h1, .int 0, .int 0, .int 4]))] H := hP
  have hD : va_D A [(h1, .inl (k0, 16, .inl (upd f0 3 97))), (h0, .inr (1, [.ref h1, .int 0, .int 0, .int 4]))] := hD
  obtain ⟨f3, hf3⟩ : ∃ f : Nat → Int32, f = upd f0 3 97 := ⟨_, rfl⟩
  have f3_t : sb_Fit f3 := by rw [hf3]; exact sb_fitU f0_t (by decide)
  rw [← hf3] at hP hD
  refine lv_goto (tgt := 75) hx hb dJ5_append_3fe6f_42 (by decide) ?_
  refine lv_aload_n hx hb dJ5_append_3fe6f_75 rfl (lv_at hl 0 rfl) ?_
  have hP := hP.sub (ws' := [(h0, .inr (1, [.ref h1, .int 0, .int 0, .int 4])), (h1, .inl (k0, 16, .inl f3))]) [1, 0] rfl
  have hD := hD.sub (ws' := [(h0, .inr (1, [.ref h1, .int 0, .int 0, .int 4])), (h1, .inl (k0, 16, .inl f3))]) [1, 0] (by decide) rfl
  exact W.aret (v := .ref h0) hx hb hr (Or.inl ⟨_, rfl⟩) (Or.inr ⟨_, rfl⟩) (fun t ht hW => ⟨⟨(), h0, rfl, trivial, f3, f3_t, rfl, by rw [ht]; exact hP, va_K.moved hW.alike hK, hD⟩, hS.F ht⟩) hS.2.2 dJ5_append_3fe6f_76
set_option maxHeartbeats 4000000 in
set_option maxRecDepth 100000 in
theorem kx_J4_append_cf468_12 (l : Launch) (dC : Nat → ClassId) (dI : Nat → Nat → Nat) (ge5 gea gv5 gva gde gic gi0 : Nat) (h0 : Nat) (h1 : Nat) (k0 : ClassId) (sz : Nat) (f0 : Nat → Int32) (f0_t : sb_Fit f0) : Met l yJ4_append_cf468 wsJ4_append_cf468 ({ frames := 2, cells := 0, slots := 0, locals := 43 }) (va_Pc [.ref h0, .int 97] (fun U => U.heap.size = sz ∧ va_P (dC, dI) vwCl [(h0, .inr (1, [.ref h1, .int 0, .int 0, .int 3])), (h1, .inl (k0, 16, .inl f0))] U.heap ∧ va_K (dC, dI) vwCl [(k0, .byte)] U ∧ va_D (fun _ => True) [(h0, .inr (1, [.ref h1, .int 0, .int 0, .int 3])), (h1, .inl (k0, 16, .inl f0))] ∧ gv ge5 gea gv5 gva gde gic gi0 (va_A [(h0, .inr (1, [.ref h1, .int 0, .int 0, .int 3])), (h1, .inl (k0, 16, .inl f0))] sz) U U.heap)) (va_Qr (fun _ : Unit => True) (fun (_ : Unit) (ra : Nat) (t : State) => ∃ f1 : Nat → Int32, sb_Fit f1 ∧ ra = h0 ∧ va_P (dC, dI) vwCl [(h0, .inr (1, [.ref h1, .int 0, .int 0, .int 4])), (h1, .inl (k0, 16, .inl f1))] t.heap ∧ va_K (dC, dI) vwCl [(k0, .byte)] t ∧ va_D (va_A [(h0, .inr (1, [.ref h1, .int 0, .int 0, .int 3])), (h1, .inl (k0, 16, .inl f0))] sz) [(h0, .inr (1, [.ref h1, .int 0, .int 0, .int 4])), (h1, .inl (k0, 16, .inl f1))]) (va_A [(h0, .inr (1, [.ref h1, .int 0, .int 0, .int 3])), (h1, .inl (k0, 16, .inl f0))] sz)) 0 0 (va_A [(h0, .inr (1, [.ref h1, .int 0, .int 0, .int 3])), (h1, .inl (k0, 16, .inl f0))] sz) := by
  refine Met.ofW (cc := cJ4_append_cf468) (maxL := 2) (ret := (some (.object "java/lang/StringBuilder"))) (by decide) rfl ?_
  intro p e s m args below meth c s₁ B hml hv
  obtain ⟨rfl, hsz, hP, hK, hD0, hG⟩ := hv
  have hx := B.exec
  have hb := B.bytes
  have hr := B.returns
  have hts := atoms_spec (ws := wsJ4_append_cf468) B.pre
  have hown : s.vm.findClass RJ4 = some m.cls := findClass_of_methodNamed B.named
  have hlocks := B.notSynchronized
  subst hsz
  have hD := hD0.self (sz := s.heap.size)
  generalize hAe : va_A [(h0, .inr (1, [.ref h1, .int 0, .int 0, .int 3])), (h1, .inl (k0, 16, .inl f0))] s.heap.size = A at hD hG ⊢
  obtain ⟨⟨g_AO_Text, g_AO_String, g_AO_Object, g_nm_RX1_20, g_nm_RX0_17, g_nm_RX3_31, g_nm_RX2_44, g_nm_RL_121, g_nf_RL_13, g_nf_RL_47, g_ca_IO, g_ca_IA, g_ca_IS, g_ca_IntObj, g_ca_StrObj, g_de_RT, g_de_EX, g_de_TH, g_nc_IA_IO, g_nc_IS_IO, g_nc_IS_IA⟩, ⟨g_s3, g_s5, g_sa, g_x278, g_x280, g_x282, g_x284, g_x286, g_x180, g_x238, g_x250⟩, ⟨g_o5, g_c5, g_v5, g_t5, g_oa, g_ca, g_va, g_ta, g_zc, g_zd, g_td, g_zf, g_zU, g_zN, g_zh, g_zk, g_tk, g_oi, g_vi⟩⟩ := id hG
  have hA : ∀ q : Nat, s.heap.size ≤ q → A q := fun q h => by rw [← hAe]; exact Or.inr h
  have hS : va_S A s.heap s.heap [] := va_S.rf
  have hP : va_P (dC, dI) vwCl [(h0, .inr (1, [.ref h1, .int 0, .int 0, .int 3])), (h1, .inl (k0, 16, .inl f0))] s.heap := hP
  have hl := lv_entry ([.ref h0, .int 97]) (n := 2) (Nat.le_of_ble_eq_true rfl)
  rw [lg_entry_eq]
  generalize (lg_sl ([.ref h0, .int 97]) ++ List.replicate (2 - (lg_sl ([.ref h0, .int 97])).length) Slot.unset).toArray = ls at hl ⊢
  have hl : lv_has ls 2 [(0, .ref h0), (1, .int 97)] := hl
  refine lv_aload_n hx hb dJ4_append_cf468_0 rfl (lv_at hl 0 rfl) ?_
  refine lv_iload_n hx hb dJ4_append_cf468_1 rfl (lv_at hl 1 rfl) ?_
  have hPc := hP.sub (ws' := [(h0, .inr (1, [.ref h1, .int 0, .int 0, .int 3])), (h1, .inl (k0, 16, .inl f0))]) [0, 1] rfl
  have hDc := hD.sub (ws' := [(h0, .inr (1, [.ref h1, .int 0, .int 0, .int 3])), (h1, .inl (k0, 16, .inl f0))]) [0, 1] (by decide) rfl
  have hKc := hK.sub (tys' := [(k0, .byte)]) [0] rfl
  have hFc := va_free (wc := [(h0, .inr (1, [.ref h1, .int 0, .int 0, .int 3])), (h1, .inl (k0, 16, .inl f0))]) hD hS hA [0, 1] rfl
  refine va_callr (va_runSU (hK.1 1 _ rfl).2 (As := [.int 97]) (rest := []) ⟨hx, hb, hml, hown, hts⟩ (kx_J5_append_3fe6f_12 l dC dI ge5 gea gv5 gva gde gic gi0 h0 h1 k0 s.heap.size f0 f0_t) (va_cwSU 1 hts gJ4_append_cf468_J5_append_3fe6f_s50 rfl rfl rfl (by decide +kernel) ⟨Nat.le_of_ble_eq_true rfl, Nat.le_of_ble_eq_true rfl⟩) ⟨fun a U g mk q => by obtain ⟨q0, q1, qP, qK, qD, qG⟩ := q; exact ⟨q0, q1, qP, va_K.moved (u := U) (U := U.calling g mk a) (Vm.Alike.refl U.vm) qK, qD, gv.fb qG⟩, va_recv hKc hPc (ci := 1) (q0 := 0) rfl rfl, fun U hU hW => ⟨rfl, by rw [hU], by rw [hU]; exact hPc, va_K.moved hW.alike hKc, hDc.weaken (fun _ _ _ _ => trivial), gv.pass hW hU hS hFc hG⟩⟩ rfl rfl hl.1 rfl (lv_room (Nat.le_of_ble_eq_true rfl)) dJ4_append_cf468_2 ⟨Nat.le_of_ble_eq_true rfl, Nat.le_of_ble_eq_true rfl⟩) hS (fun q _ h => hFc q h) hFc (fun u ra t H1 locs ht hvm hw hB hz1 hk1 hS => ?_)
  obtain ⟨f1, f1_t, hra, hP1, hK1, hD1⟩ := hB
  rw [hra]
  rw [ht] at hP1
  have hK1 := va_K.moved hvm.symm hK1
  obtain ⟨hP, hD⟩ := va_join (wr := []) (w1 := [(h0, .inr (1, [.ref h1, .int 0, .int 0, .int 4])), (h1, .inl (k0, 16, .inl f1))]) hP hD [0, 1] [] rfl rfl (by decide) (by decide) hk1 hFc hP1 hD1
  generalize H1 = H at hP hS ⊢
  have hP : va_P (dC, dI) vwCl [(h0, .inr (1, [.ref h1, .int 0, .int 0, .int 4])), (h1, .inl (k0, 16, .inl f1))] H := hP
  have hD : va_D A [(h0, .inr (1, [.ref h1, .int 0, .int 0, .int 4])), (h1, .inl (k0, 16, .inl f1))] := hD
  refine lv_pop hx hb dJ4_append_cf468_5 rfl ?_
  refine lv_aload_n hx hb dJ4_append_cf468_6 rfl (lv_at hl 0 rfl) ?_
  exact W.aret (v := .ref h0) hx hb hr (Or.inl ⟨_, rfl⟩) (Or.inr ⟨_, rfl⟩) (fun t ht hW => ⟨⟨(), h0, rfl, trivial, f1, f1_t, rfl, by rw [ht]; exact hP, va_K.moved hW.alike hK, hD⟩, hS.F ht⟩) hS.2.2 dJ4_append_cf468_7
set_option maxHeartbeats 4000000 in
set_option maxRecDepth 100000 in
theorem kx_J5_append_3fe6f_13 (l : Launch) (dC : Nat → ClassId) (dI : Nat → Nat → Nat) (ge5 gea gv5 gva gde gic gi0 : Nat) (h0 : Nat) (h1 : Nat) (k0 : ClassId) (sz : Nat) (f0 : Nat → Int32) (f0_t : sb_Fit f0) : Met l yJ5_append_3fe6f wsJ5_append_3fe6f ({ frames := 1, cells := 0, slots := 0, locals := 22 }) (va_Pc [.ref h0, .int 98] (fun U => U.heap.size = sz ∧ va_P (dC, dI) vwCl [(h0, .inr (1, [.ref h1, .int 0, .int 0, .int 3])), (h1, .inl (k0, 16, .inl f0))] U.heap ∧ va_K (dC, dI) vwCl [(k0, .byte)] U ∧ va_D (fun _ => True) [(h0, .inr (1, [.ref h1, .int 0, .int 0, .int 3])), (h1, .inl (k0, 16, .inl f0))] ∧ gv ge5 gea gv5 gva gde gic gi0 (va_A [(h0, .inr (1, [.ref h1, .int 0, .int 0, .int 3])), (h1, .inl (k0, 16, .inl f0))] sz) U U.heap)) (va_Qr (fun _ : Unit => True) (fun (_ : Unit) (ra : Nat) (t : State) => ∃ f3 : Nat → Int32, sb_Fit f3 ∧ ra = h0 ∧ va_P (dC, dI) vwCl [(h0, .inr (1, [.ref h1, .int 0, .int 0, .int 4])), (h1, .inl (k0, 16, .inl f3))] t.heap ∧ va_K (dC, dI) vwCl [(k0, .byte)] t ∧ va_D (va_A [(h0, .inr (1, [.ref h1, .int 0, .int 0, .int 3])), (h1, .inl (k0, 16, .inl f0))] sz) [(h0, .inr (1, [.ref h1, .int 0, .int 0, .int 4])), (h1, .inl (k0, 16, .inl f3))]) (va_A [(h0, .inr (1, [.ref h1, .int 0, .int 0, .int 3])), (h1, .inl (k0, 16, .inl f0))] sz)) 0 0 (va_A [(h0, .inr (1, [.ref h1, .int 0, .int 0, .int 3])), (h1, .inl (k0, 16, .inl f0))] sz) := by
  refine Met.ofW (cc := cJ5_append_3fe6f) (maxL := 2) (ret := (some (.object "java/lang/AbstractStringBuilder"))) (by decide) rfl ?_
  intro p e s m args below meth c s₁ B hml hv
  obtain ⟨rfl, hsz, hP, hK, hD0, hG⟩ := hv
  have hx := B.exec
  have hb := B.bytes
  have hr := B.returns
  have hts := atoms_spec (ws := wsJ5_append_3fe6f) B.pre
  have hown : s.vm.findClass RJ5 = some m.cls := findClass_of_methodNamed B.named
  have hlocks := B.notSynchronized
  subst hsz
  have hD := hD0.self (sz := s.heap.size)
  generalize hAe : va_A [(h0, .inr (1, [.ref h1, .int 0, .int 0, .int 3])), (h1, .inl (k0, 16, .inl f0))] s.heap.size = A at hD hG ⊢
  obtain ⟨⟨g_AO_Text, g_AO_String, g_AO_Object, g_nm_RX1_20, g_nm_RX0_17, g_nm_RX3_31, g_nm_RX2_44, g_nm_RL_121, g_nf_RL_13, g_nf_RL_47, g_ca_IO, g_ca_IA, g_ca_IS, g_ca_IntObj, g_ca_StrObj, g_de_RT, g_de_EX, g_de_TH, g_nc_IA_IO, g_nc_IS_IO, g_nc_IS_IA⟩, ⟨g_s3, g_s5, g_sa, g_x278, g_x280, g_x282, g_x284, g_x286, g_x180, g_x238, g_x250⟩, ⟨g_o5, g_c5, g_v5, g_t5, g_oa, g_ca, g_va, g_ta, g_zc, g_zd, g_td, g_zf, g_zU, g_zN, g_zh, g_zk, g_tk, g_oi, g_vi⟩⟩ := id hG
  have hA : ∀ q : Nat, s.heap.size ≤ q → A q := fun q h => by rw [← hAe]; exact Or.inr h
  have hS : va_S A s.heap s.heap [] := va_S.rf
  have hP : va_P (dC, dI) vwCl [(h0, .inr (1, [.ref h1, .int 0, .int 0, .int 3])), (h1, .inl (k0, 16, .inl f0))] s.heap := hP
  have hl := lv_entry ([.ref h0, .int 98]) (n := 2) (Nat.le_of_ble_eq_true rfl)
  rw [lg_entry_eq]
  generalize (lg_sl ([.ref h0, .int 98]) ++ List.replicate (2 - (lg_sl ([.ref h0, .int 98])).length) Slot.unset).toArray = ls at hl ⊢
  have hl : lv_has ls 2 [(0, .ref h0), (1, .int 98)] := hl
  refine lv_aload_n hx hb dJ5_append_3fe6f_0 rfl (lv_at hl 0 rfl) ?_
  refine lv_aload_n hx hb dJ5_append_3fe6f_1 rfl (lv_at hl 0 rfl) ?_
  refine va_get (D := (dC, dI)) (ci := 1) (v := .int 3) (C := RJ4) (T := TJ4) (N := 4) hx hb hts (by decide +kernel) hown hK hP 0 rfl rfl 3 (by decide) (hts (.fieldLink RJ5 79 "java/lang/AbstractStringBuilder" "count" "I") (by decide +kernel)) (fun _ h9 => h9) rfl dJ5_append_3fe6f_2 ?_
  refine lv_iconst (v := 1) hx hb dJ5_append_3fe6f_5 (by decide) ?_
  refine lv_iadd hx hb dJ5_append_3fe6f_6 ?_
  refine lv_topi (fun y1 ey1 => ?_)
  obtain rfl : y1 = 4 := ey1.trans (by decide)
  have hPc := hP.sub (ws' := [(h0, .inr (1, [.ref h1, .int 0, .int 0, .int 3])), (h1, .inl (k0, 16, .inl f0))]) [0, 1] rfl
  have hDc := hD.sub (ws' := [(h0, .inr (1, [.ref h1, .int 0, .int 0, .int 3])), (h1, .inl (k0, 16, .inl f0))]) [0, 1] (by decide) rfl
  have hKc := hK.sub (tys' := [(k0, .byte)]) [0] rfl
  have hFc := va_free (wc := [(h0, .inr (1, [.ref h1, .int 0, .int 0, .int 3])), (h1, .inl (k0, 16, .inl f0))]) hD hS hA [0, 1] rfl
  refine va_callv (va_runU (As := [.int 4]) (rest := []) ⟨hx, hb, hml, hown, hts⟩ (kx_J5_ensureCapacityInternal_d00df_8 l dC dI h0 h1 k0 s.heap.size f0 f0_t) (va_cwU 1 hts gJ5_append_3fe6f_J5_ensureCapacityInternal_d00df_u100J4 rfl rfl rfl rfl (by decide +kernel) ⟨Nat.le_of_ble_eq_true rfl, Nat.le_of_ble_eq_true rfl⟩) ⟨fun a U g mk q => by obtain ⟨q0, q1, qP, qK, qD⟩ := q; exact ⟨q0, q1, qP, va_K.moved (u := U) (U := U.calling g mk a) (Vm.Alike.refl U.vm) qK, qD⟩, va_recv hKc hPc (ci := 1) (q0 := 0) rfl rfl, fun U hU hW => ⟨rfl, by rw [hU], by rw [hU]; exact hPc, va_K.moved hW.alike hKc, hDc.weaken (fun _ _ _ _ => trivial)⟩⟩ rfl rfl hl.1 rfl (lv_room (Nat.le_of_ble_eq_true rfl)) dJ5_append_3fe6f_7 ⟨Nat.le_of_ble_eq_true rfl, Nat.le_of_ble_eq_true rfl⟩) hS (fun q _ h => hFc q h) hFc (fun u t H1 locs ht hvm hw hB hz1 hk1 hS => ?_)
  obtain ⟨hP1, hK1, hD1⟩ := hB
  rw [ht] at hP1
  have hK1 := va_K.moved hvm.symm hK1
  obtain ⟨hP, hD⟩ := va_join (wr := []) (w1 := [(h0, .inr (1, [.ref h1, .int 0, .int 0, .int 3])), (h1, .inl (k0, 16, .inl f0))]) hP hD [0, 1] [] rfl rfl (by decide) (by decide) hk1 hFc hP1 hD1
  generalize H1 = H at hP hS ⊢
  have hP : va_P (dC, dI) vwCl [(h0, .inr (1, [.ref h1, .int 0, .int 0, .int 3])), (h1, .inl (k0, 16, .inl f0))] H := hP
  have hD : va_D A [(h0, .inr (1, [.ref h1, .int 0, .int 0, .int 3])), (h1, .inl (k0, 16, .inl f0))] := hD
  refine lv_aload_n hx hb dJ5_append_3fe6f_10 rfl (lv_at hl 0 rfl) ?_
  have hPc := hP.sub (ws' := [(h0, .inr (1, [.ref h1, .int 0, .int 0, .int 3]))]) [0] rfl
  have hDc := hD.sub (ws' := [(h0, .inr (1, [.ref h1, .int 0, .int 0, .int 3]))]) [0] (by decide) rfl
  have hKc := hK.sub (tys' := []) [] rfl
  have hFc := va_free (wc := [(h0, .inr (1, [.ref h1, .int 0, .int 0, .int 3]))]) hD hS hA [0] rfl
  refine va_calli (va_runU (As := []) (rest := []) ⟨hx, hb, hml, hown, hts⟩ (kx_J5_isLatin1_aae02_3 l dC dI ge5 gea gv5 gva gde gic gi0 h0 h1 H.size) (va_cwU 0 hts gJ5_append_3fe6f_J5_isLatin1_aae02_u83J4 rfl rfl rfl rfl (by decide +kernel) ⟨Nat.le_of_ble_eq_true rfl, Nat.le_of_ble_eq_true rfl⟩) ⟨fun a U g mk q => by obtain ⟨q0, q1, qP, qK, qD, qG⟩ := q; exact ⟨q0, q1, qP, va_K.moved (u := U) (U := U.calling g mk a) (Vm.Alike.refl U.vm) qK, qD, gv.fb qG⟩, va_recv hKc hPc (ci := 1) (q0 := 0) rfl rfl, fun U hU hW => ⟨rfl, by rw [hU], by rw [hU]; exact hPc, va_K.moved hW.alike hKc, hDc.weaken (fun _ _ _ _ => trivial), gv.pass hW hU hS hFc hG⟩⟩ rfl rfl hl.1 rfl (lv_room (Nat.le_of_ble_eq_true rfl)) dJ5_append_3fe6f_11 ⟨Nat.le_of_ble_eq_true rfl, Nat.le_of_ble_eq_true rfl⟩) hS (fun q _ h => hFc q h) hFc (fun r9 u t H1 locs ht hvm hw hB hz1 hk1 hS => ?_)
  obtain rfl := hw
  obtain ⟨hP1, hK1, hD1⟩ := hB
  rw [ht] at hP1
  have hK1 := va_K.moved hvm.symm hK1
  obtain ⟨hP, hD⟩ := va_join (wr := [(h1, .inl (k0, 16, .inl f0))]) (w1 := [(h0, .inr (1, [.ref h1, .int 0, .int 0, .int 3]))]) hP hD [0] [1] rfl rfl (by decide) (by decide) hk1 hFc hP1 hD1
  generalize H1 = H at hP hS ⊢
  have hP : va_P (dC, dI) vwCl [(h1, .inl (k0, 16, .inl f0)), (h0, .inr (1, [.ref h1, .int 0, .int 0, .int 3]))] H := hP
  have hD : va_D A [(h1, .inl (k0, 16, .inl f0)), (h0, .inr (1, [.ref h1, .int 0, .int 0, .int 3]))] := hD
  refine lv_if_eq (tgt := 45) hx hb dJ5_append_3fe6f_14 (by decide) (fun c9 => absurd c9 (by decide)) (fun _ => ?_)
  refine lv_iload_n hx hb dJ5_append_3fe6f_17 rfl (lv_at hl 1 rfl) ?_
  have hPc := hP.sub (ws' := []) [] rfl
  have hDc := hD.sub (ws' := []) [] (by decide) rfl
  have hKc := hK.sub (tys' := []) [] rfl
  have hFc := va_free (wc := []) hD hS hA [] rfl
  refine va_calli (va_runS (As := [.int 98]) (rest := []) ⟨hx, hb, hml, hown, hts⟩ (kx_J1_canEncode_fc78d_1 l dC dI H.size) (va_cwS 1 hts gJ5_append_3fe6f_J1_canEncode_fc78d rfl rfl rfl (by decide +kernel) ⟨Nat.le_of_ble_eq_true rfl, Nat.le_of_ble_eq_true rfl⟩) ⟨fun a U g mk q => by obtain ⟨q0, q1, qP, qK, qD⟩ := q; exact ⟨q0, q1, qP, va_K.moved (u := U) (U := U.calling g mk a) (Vm.Alike.refl U.vm) qK, qD⟩, fun U hU hW => ⟨rfl, by rw [hU], by rw [hU]; exact hPc, va_K.moved hW.alike hKc, hDc.weaken (fun _ _ _ _ => trivial)⟩⟩ rfl rfl hl.1 rfl (lv_room (Nat.le_of_ble_eq_true rfl)) dJ5_append_3fe6f_18 ⟨Nat.le_of_ble_eq_true rfl, Nat.le_of_ble_eq_true rfl⟩) hS (fun q _ h => hFc q h) hFc (fun r9 u t H1 locs ht hvm hw hB hz1 hk1 hS => ?_)
  obtain rfl := hw
  obtain ⟨hP1, hK1, hD1⟩ := hB
  rw [ht] at hP1
  have hK1 := va_K.moved hvm.symm hK1
  obtain ⟨hP, hD⟩ := va_join (wr := [(h1, .inl (k0, 16, .inl f0)), (h0, .inr (1, [.ref h1, .int 0, .int 0, .int 3]))]) (w1 := []) hP hD [] [0, 1] rfl rfl (by decide) (by decide) hk1 hFc hP1 hD1
  generalize H1 = H at hP hS ⊢
  have hP : va_P (dC, dI) vwCl [(h1, .inl (k0, 16, .inl f0)), (h0, .inr (1, [.ref h1, .int 0, .int 0, .int 3]))] H := hP
  have hD : va_D A [(h1, .inl (k0, 16, .inl f0)), (h0, .inr (1, [.ref h1, .int 0, .int 0, .int 3]))] := hD
  refine lv_if_eq (tgt := 45) hx hb dJ5_append_3fe6f_21 (by decide) (fun c9 => absurd c9 (by decide)) (fun _ => ?_)
  refine lv_aload_n hx hb dJ5_append_3fe6f_24 rfl (lv_at hl 0 rfl) ?_
  refine va_get (D := (dC, dI)) (ci := 1) (v := .ref h1) (C := RJ4) (T := TJ4) (N := 4) hx hb hts (by decide +kernel) hown hK hP 1 rfl rfl 0 (by decide) (hts (.fieldLink RJ5 15 "java/lang/AbstractStringBuilder" "value" "[B") (by decide +kernel)) (fun _ h9 => h9) rfl dJ5_append_3fe6f_25 ?_
  refine lv_aload_n hx hb dJ5_append_3fe6f_28 rfl (lv_at hl 0 rfl) ?_
  refine lv_dup hx hb dJ5_append_3fe6f_29 rfl ?_
  refine va_get (D := (dC, dI)) (ci := 1) (v := .int 3) (C := RJ4) (T := TJ4) (N := 4) hx hb hts (by decide +kernel) hown hK hP 1 rfl rfl 3 (by decide) (hts (.fieldLink RJ5 79 "java/lang/AbstractStringBuilder" "count" "I") (by decide +kernel)) (fun _ h9 => h9) rfl dJ5_append_3fe6f_30 ?_
  refine lv_dup_x1 hx hb dJ5_append_3fe6f_33 rfl rfl ?_
  refine lv_iconst (v := 1) hx hb dJ5_append_3fe6f_34 (by decide) ?_
  refine lv_iadd hx hb dJ5_append_3fe6f_35 ?_
  refine lv_topi (fun y2 ey2 => ?_)
  obtain rfl : y2 = 4 := ey2.trans (by decide)
  refine va_put (D := (dC, dI)) (ci := 1) (v := .int 4) (ty := .int) (C := RJ4) (T := TJ4) (N := 4) hx hb hts (by decide +kernel) tyJ4 tyJ4_ok nmJ4 hown hK hP hD hS 1 rfl rfl 3 (by decide) (hts (.fieldLink RJ5 79 "java/lang/AbstractStringBuilder" "count" "I") (by decide +kernel)) (fun _ h9 => h9) rfl (by decide +kernel) rfl rfl (Nat.le_of_ble_eq_true rfl) dJ5_append_3fe6f_36 (fun H locs hP hD hS => ?_)
  have hP : va_P (dC, dI) vwCl [(h1, .inl (k0, 16, .inl f0)), (h0, .inr (1, [.ref h1, .int 0, .int 0, .int 4]))] H := hP
  have hD : va_D A [(h1, .inl (k0, 16, .inl f0)), (h0, .inr (1, [.ref h1, .int 0, .int 0, .int 4]))] := hD
  refine lv_iload_n hx hb dJ5_append_3fe6f_39 rfl (lv_at hl 1 rfl) ?_
  refine lv_i2b (v := 98) hx hb dJ5_append_3fe6f_40 (by decide) ?_
  refine va_bast (D := (dC, dI)) hx hb hK hP hD hS 0 0 rfl rfl (by unfold vp_in; decide) dJ5_append_3fe6f_41 (fun H locs hP hD hS => ?_)
  have hP : va_P (dC, dI) vwCl [(h1, .inl (k0, 16, .inl (upd f0 3 98))), (h0, .inr (1, [.ref h1, .int 0, .int 0, .int 4]))] H := hP
  have hD : va_D A [(h1, .inl (k0, 16, .inl (upd f0 3 98))), (h0, .inr (1, [.ref h1, .int 0, .int 0, .int 4]))] := hD
  obtain ⟨f3, hf3⟩ : ∃ f : Nat → Int32, f = upd f0 3 98 := ⟨_, rfl⟩
  have f3_t : sb_Fit f3 := by rw [hf3]; exact sb_fitU f0_t (by decide)
  rw [← hf3] at hP hD
  refine lv_goto (tgt := 75) hx hb dJ5_append_3fe6f_42 (by decide) ?_
  refine lv_aload_n hx hb dJ5_append_3fe6f_75 rfl (lv_at hl 0 rfl) ?_
  have hP := hP.sub (ws' := [(h0, .inr (1, [.ref h1, .int 0, .int 0, .int 4])), (h1, .inl (k0, 16, .inl f3))]) [1, 0] rfl
  have hD := hD.sub (ws' := [(h0, .inr (1, [.ref h1, .int 0, .int 0, .int 4])), (h1, .inl (k0, 16, .inl f3))]) [1, 0] (by decide) rfl
  exact W.aret (v := .ref h0) hx hb hr (Or.inl ⟨_, rfl⟩) (Or.inr ⟨_, rfl⟩) (fun t ht hW => ⟨⟨(), h0, rfl, trivial, f3, f3_t, rfl, by rw [ht]; exact hP, va_K.moved hW.alike hK, hD⟩, hS.F ht⟩) hS.2.2 dJ5_append_3fe6f_76
set_option maxHeartbeats 4000000 in
set_option maxRecDepth 100000 in
theorem kx_J4_append_cf468_13 (l : Launch) (dC : Nat → ClassId) (dI : Nat → Nat → Nat) (ge5 gea gv5 gva gde gic gi0 : Nat) (h0 : Nat) (h1 : Nat) (k0 : ClassId) (sz : Nat) (f0 : Nat → Int32) (f0_t : sb_Fit f0) : Met l yJ4_append_cf468 wsJ4_append_cf468 ({ frames := 2, cells := 0, slots := 0, locals := 43 }) (va_Pc [.ref h0, .int 98] (fun U => U.heap.size = sz ∧ va_P (dC, dI) vwCl [(h0, .inr (1, [.ref h1, .int 0, .int 0, .int 3])), (h1, .inl (k0, 16, .inl f0))] U.heap ∧ va_K (dC, dI) vwCl [(k0, .byte)] U ∧ va_D (fun _ => True) [(h0, .inr (1, [.ref h1, .int 0, .int 0, .int 3])), (h1, .inl (k0, 16, .inl f0))] ∧ gv ge5 gea gv5 gva gde gic gi0 (va_A [(h0, .inr (1, [.ref h1, .int 0, .int 0, .int 3])), (h1, .inl (k0, 16, .inl f0))] sz) U U.heap)) (va_Qr (fun _ : Unit => True) (fun (_ : Unit) (ra : Nat) (t : State) => ∃ f1 : Nat → Int32, sb_Fit f1 ∧ ra = h0 ∧ va_P (dC, dI) vwCl [(h0, .inr (1, [.ref h1, .int 0, .int 0, .int 4])), (h1, .inl (k0, 16, .inl f1))] t.heap ∧ va_K (dC, dI) vwCl [(k0, .byte)] t ∧ va_D (va_A [(h0, .inr (1, [.ref h1, .int 0, .int 0, .int 3])), (h1, .inl (k0, 16, .inl f0))] sz) [(h0, .inr (1, [.ref h1, .int 0, .int 0, .int 4])), (h1, .inl (k0, 16, .inl f1))]) (va_A [(h0, .inr (1, [.ref h1, .int 0, .int 0, .int 3])), (h1, .inl (k0, 16, .inl f0))] sz)) 0 0 (va_A [(h0, .inr (1, [.ref h1, .int 0, .int 0, .int 3])), (h1, .inl (k0, 16, .inl f0))] sz) := by
  refine Met.ofW (cc := cJ4_append_cf468) (maxL := 2) (ret := (some (.object "java/lang/StringBuilder"))) (by decide) rfl ?_
  intro p e s m args below meth c s₁ B hml hv
  obtain ⟨rfl, hsz, hP, hK, hD0, hG⟩ := hv
  have hx := B.exec
  have hb := B.bytes
  have hr := B.returns
  have hts := atoms_spec (ws := wsJ4_append_cf468) B.pre
  have hown : s.vm.findClass RJ4 = some m.cls := findClass_of_methodNamed B.named
  have hlocks := B.notSynchronized
  subst hsz
  have hD := hD0.self (sz := s.heap.size)
  generalize hAe : va_A [(h0, .inr (1, [.ref h1, .int 0, .int 0, .int 3])), (h1, .inl (k0, 16, .inl f0))] s.heap.size = A at hD hG ⊢
  obtain ⟨⟨g_AO_Text, g_AO_String, g_AO_Object, g_nm_RX1_20, g_nm_RX0_17, g_nm_RX3_31, g_nm_RX2_44, g_nm_RL_121, g_nf_RL_13, g_nf_RL_47, g_ca_IO, g_ca_IA, g_ca_IS, g_ca_IntObj, g_ca_StrObj, g_de_RT, g_de_EX, g_de_TH, g_nc_IA_IO, g_nc_IS_IO, g_nc_IS_IA⟩, ⟨g_s3, g_s5, g_sa, g_x278, g_x280, g_x282, g_x284, g_x286, g_x180, g_x238, g_x250⟩, ⟨g_o5, g_c5, g_v5, g_t5, g_oa, g_ca, g_va, g_ta, g_zc, g_zd, g_td, g_zf, g_zU, g_zN, g_zh, g_zk, g_tk, g_oi, g_vi⟩⟩ := id hG
  have hA : ∀ q : Nat, s.heap.size ≤ q → A q := fun q h => by rw [← hAe]; exact Or.inr h
  have hS : va_S A s.heap s.heap [] := va_S.rf
  have hP : va_P (dC, dI) vwCl [(h0, .inr (1, [.ref h1, .int 0, .int 0, .int 3])), (h1, .inl (k0, 16, .inl f0))] s.heap := hP
  have hl := lv_entry ([.ref h0, .int 98]) (n := 2) (Nat.le_of_ble_eq_true rfl)
  rw [lg_entry_eq]
  generalize (lg_sl ([.ref h0, .int 98]) ++ List.replicate (2 - (lg_sl ([.ref h0, .int 98])).length) Slot.unset).toArray = ls at hl ⊢
  have hl : lv_has ls 2 [(0, .ref h0), (1, .int 98)] := hl
  refine lv_aload_n hx hb dJ4_append_cf468_0 rfl (lv_at hl 0 rfl) ?_
  refine lv_iload_n hx hb dJ4_append_cf468_1 rfl (lv_at hl 1 rfl) ?_
  have hPc := hP.sub (ws' := [(h0, .inr (1, [.ref h1, .int 0, .int 0, .int 3])), (h1, .inl (k0, 16, .inl f0))]) [0, 1] rfl
  have hDc := hD.sub (ws' := [(h0, .inr (1, [.ref h1, .int 0, .int 0, .int 3])), (h1, .inl (k0, 16, .inl f0))]) [0, 1] (by decide) rfl
  have hKc := hK.sub (tys' := [(k0, .byte)]) [0] rfl
  have hFc := va_free (wc := [(h0, .inr (1, [.ref h1, .int 0, .int 0, .int 3])), (h1, .inl (k0, 16, .inl f0))]) hD hS hA [0, 1] rfl
  refine va_callr (va_runSU (hK.1 1 _ rfl).2 (As := [.int 98]) (rest := []) ⟨hx, hb, hml, hown, hts⟩ (kx_J5_append_3fe6f_13 l dC dI ge5 gea gv5 gva gde gic gi0 h0 h1 k0 s.heap.size f0 f0_t) (va_cwSU 1 hts gJ4_append_cf468_J5_append_3fe6f_s50 rfl rfl rfl (by decide +kernel) ⟨Nat.le_of_ble_eq_true rfl, Nat.le_of_ble_eq_true rfl⟩) ⟨fun a U g mk q => by obtain ⟨q0, q1, qP, qK, qD, qG⟩ := q; exact ⟨q0, q1, qP, va_K.moved (u := U) (U := U.calling g mk a) (Vm.Alike.refl U.vm) qK, qD, gv.fb qG⟩, va_recv hKc hPc (ci := 1) (q0 := 0) rfl rfl, fun U hU hW => ⟨rfl, by rw [hU], by rw [hU]; exact hPc, va_K.moved hW.alike hKc, hDc.weaken (fun _ _ _ _ => trivial), gv.pass hW hU hS hFc hG⟩⟩ rfl rfl hl.1 rfl (lv_room (Nat.le_of_ble_eq_true rfl)) dJ4_append_cf468_2 ⟨Nat.le_of_ble_eq_true rfl, Nat.le_of_ble_eq_true rfl⟩) hS (fun q _ h => hFc q h) hFc (fun u ra t H1 locs ht hvm hw hB hz1 hk1 hS => ?_)
  obtain ⟨f1, f1_t, hra, hP1, hK1, hD1⟩ := hB
  rw [hra]
  rw [ht] at hP1
  have hK1 := va_K.moved hvm.symm hK1
  obtain ⟨hP, hD⟩ := va_join (wr := []) (w1 := [(h0, .inr (1, [.ref h1, .int 0, .int 0, .int 4])), (h1, .inl (k0, 16, .inl f1))]) hP hD [0, 1] [] rfl rfl (by decide) (by decide) hk1 hFc hP1 hD1
  generalize H1 = H at hP hS ⊢
  have hP : va_P (dC, dI) vwCl [(h0, .inr (1, [.ref h1, .int 0, .int 0, .int 4])), (h1, .inl (k0, 16, .inl f1))] H := hP
  have hD : va_D A [(h0, .inr (1, [.ref h1, .int 0, .int 0, .int 4])), (h1, .inl (k0, 16, .inl f1))] := hD
  refine lv_pop hx hb dJ4_append_cf468_5 rfl ?_
  refine lv_aload_n hx hb dJ4_append_cf468_6 rfl (lv_at hl 0 rfl) ?_
  exact W.aret (v := .ref h0) hx hb hr (Or.inl ⟨_, rfl⟩) (Or.inr ⟨_, rfl⟩) (fun t ht hW => ⟨⟨(), h0, rfl, trivial, f1, f1_t, rfl, by rw [ht]; exact hP, va_K.moved hW.alike hK, hD⟩, hS.F ht⟩) hS.2.2 dJ4_append_cf468_7
set_option maxHeartbeats 4000000 in
set_option maxRecDepth 100000 in
theorem kx_J5_append_3fe6f_14 (l : Launch) (dC : Nat → ClassId) (dI : Nat → Nat → Nat) (ge5 gea gv5 gva gde gic gi0 : Nat) (h0 : Nat) (h1 : Nat) (k0 : ClassId) (sz : Nat) (f0 : Nat → Int32) (f0_t : sb_Fit f0) : Met l yJ5_append_3fe6f wsJ5_append_3fe6f ({ frames := 1, cells := 0, slots := 0, locals := 22 }) (va_Pc [.ref h0, .int 99] (fun U => U.heap.size = sz ∧ va_P (dC, dI) vwCl [(h0, .inr (1, [.ref h1, .int 0, .int 0, .int 3])), (h1, .inl (k0, 16, .inl f0))] U.heap ∧ va_K (dC, dI) vwCl [(k0, .byte)] U ∧ va_D (fun _ => True) [(h0, .inr (1, [.ref h1, .int 0, .int 0, .int 3])), (h1, .inl (k0, 16, .inl f0))] ∧ gv ge5 gea gv5 gva gde gic gi0 (va_A [(h0, .inr (1, [.ref h1, .int 0, .int 0, .int 3])), (h1, .inl (k0, 16, .inl f0))] sz) U U.heap)) (va_Qr (fun _ : Unit => True) (fun (_ : Unit) (ra : Nat) (t : State) => ∃ f3 : Nat → Int32, sb_Fit f3 ∧ ra = h0 ∧ va_P (dC, dI) vwCl [(h0, .inr (1, [.ref h1, .int 0, .int 0, .int 4])), (h1, .inl (k0, 16, .inl f3))] t.heap ∧ va_K (dC, dI) vwCl [(k0, .byte)] t ∧ va_D (va_A [(h0, .inr (1, [.ref h1, .int 0, .int 0, .int 3])), (h1, .inl (k0, 16, .inl f0))] sz) [(h0, .inr (1, [.ref h1, .int 0, .int 0, .int 4])), (h1, .inl (k0, 16, .inl f3))]) (va_A [(h0, .inr (1, [.ref h1, .int 0, .int 0, .int 3])), (h1, .inl (k0, 16, .inl f0))] sz)) 0 0 (va_A [(h0, .inr (1, [.ref h1, .int 0, .int 0, .int 3])), (h1, .inl (k0, 16, .inl f0))] sz) := by
  refine Met.ofW (cc := cJ5_append_3fe6f) (maxL := 2) (ret := (some (.object "java/lang/AbstractStringBuilder"))) (by decide) rfl ?_
  intro p e s m args below meth c s₁ B hml hv
  obtain ⟨rfl, hsz, hP, hK, hD0, hG⟩ := hv
  have hx := B.exec
  have hb := B.bytes
  have hr := B.returns
  have hts := atoms_spec (ws := wsJ5_append_3fe6f) B.pre
  have hown : s.vm.findClass RJ5 = some m.cls := findClass_of_methodNamed B.named
  have hlocks := B.notSynchronized
  subst hsz
  have hD := hD0.self (sz := s.heap.size)
  generalize hAe : va_A [(h0, .inr (1, [.ref h1, .int 0, .int 0, .int 3])), (h1, .inl (k0, 16, .inl f0))] s.heap.size = A at hD hG ⊢
  obtain ⟨⟨g_AO_Text, g_AO_String, g_AO_Object, g_nm_RX1_20, g_nm_RX0_17, g_nm_RX3_31, g_nm_RX2_44, g_nm_RL_121, g_nf_RL_13, g_nf_RL_47, g_ca_IO, g_ca_IA, g_ca_IS, g_ca_IntObj, g_ca_StrObj, g_de_RT, g_de_EX, g_de_TH, g_nc_IA_IO, g_nc_IS_IO, g_nc_IS_IA⟩, ⟨g_s3, g_s5, g_sa, g_x278, g_x280, g_x282, g_x284, g_x286, g_x180, g_x238, g_x250⟩, ⟨g_o5, g_c5, g_v5, g_t5, g_oa, g_ca, g_va, g_ta, g_zc, g_zd, g_td, g_zf, g_zU, g_zN, g_zh, g_zk, g_tk, g_oi, g_vi⟩⟩ := id hG
  have hA : ∀ q : Nat, s.heap.size ≤ q → A q := fun q h => by rw [← hAe]; exact Or.inr h
  have hS : va_S A s.heap s.heap [] := va_S.rf
  have hP : va_P (dC, dI) vwCl [(h0, .inr (1, [.ref h1, .int 0, .int 0, .int 3])), (h1, .inl (k0, 16, .inl f0))] s.heap := hP
  have hl := lv_entry ([.ref h0, .int 99]) (n := 2) (Nat.le_of_ble_eq_true rfl)
  rw [lg_entry_eq]
  generalize (lg_sl ([.ref h0, .int 99]) ++ List.replicate (2 - (lg_sl ([.ref h0, .int 99])).length) Slot.unset).toArray = ls at hl ⊢
  have hl : lv_has ls 2 [(0, .ref h0), (1, .int 99)] := hl
  refine lv_aload_n hx hb dJ5_append_3fe6f_0 rfl (lv_at hl 0 rfl) ?_
  refine lv_aload_n hx hb dJ5_append_3fe6f_1 rfl (lv_at hl 0 rfl) ?_
  refine va_get (D := (dC, dI)) (ci := 1) (v := .int 3) (C := RJ4) (T := TJ4) (N := 4) hx hb hts (by decide +kernel) hown hK hP 0 rfl rfl 3 (by decide) (hts (.fieldLink RJ5 79 "java/lang/AbstractStringBuilder" "count" "I") (by decide +kernel)) (fun _ h9 => h9) rfl dJ5_append_3fe6f_2 ?_
  refine lv_iconst (v := 1) hx hb dJ5_append_3fe6f_5 (by decide) ?_
  refine lv_iadd hx hb dJ5_append_3fe6f_6 ?_
  refine lv_topi (fun y1 ey1 => ?_)
  obtain rfl : y1 = 4 := ey1.trans (by decide)
  have hPc := hP.sub (ws' := [(h0, .inr (1, [.ref h1, .int 0, .int 0, .int 3])), (h1, .inl (k0, 16, .inl f0))]) [0, 1] rfl
  have hDc := hD.sub (ws' := [(h0, .inr (1, [.ref h1, .int 0, .int 0, .int 3])), (h1, .inl (k0, 16, .inl f0))]) [0, 1] (by decide) rfl
  have hKc := hK.sub (tys' := [(k0, .byte)]) [0] rfl
  have hFc := va_free (wc := [(h0, .inr (1, [.ref h1, .int 0, .int 0, .int 3])), (h1, .inl (k0, 16, .inl f0))]) hD hS hA [0, 1] rfl
  refine va_callv (va_runU (As := [.int 4]) (rest := []) ⟨hx, hb, hml, hown, hts⟩ (kx_J5_ensureCapacityInternal_d00df_8 l dC dI h0 h1 k0 s.heap.size f0 f0_t) (va_cwU 1 hts gJ5_append_3fe6f_J5_ensureCapacityInternal_d00df_u100J4 rfl rfl rfl rfl (by decide +kernel) ⟨Nat.le_of_ble_eq_true rfl, Nat.le_of_ble_eq_true rfl⟩) ⟨fun a U g mk q => by obtain ⟨q0, q1, qP, qK, qD⟩ := q; exact ⟨q0, q1, qP, va_K.moved (u := U) (U := U.calling g mk a) (Vm.Alike.refl U.vm) qK, qD⟩, va_recv hKc hPc (ci := 1) (q0 := 0) rfl rfl, fun U hU hW => ⟨rfl, by rw [hU], by rw [hU]; exact hPc, va_K.moved hW.alike hKc, hDc.weaken (fun _ _ _ _ => trivial)⟩⟩ rfl rfl hl.1 rfl (lv_room (Nat.le_of_ble_eq_true rfl)) dJ5_append_3fe6f_7 ⟨Nat.le_of_ble_eq_true rfl, Nat.le_of_ble_eq_true rfl⟩) hS (fun q _ h => hFc q h) hFc (fun u t H1 locs ht hvm hw hB hz1 hk1 hS => ?_)
  obtain ⟨hP1, hK1, hD1⟩ := hB
  rw [ht] at hP1
  have hK1 := va_K.moved hvm.symm hK1
  obtain ⟨hP, hD⟩ := va_join (wr := []) (w1 := [(h0, .inr (1, [.ref h1, .int 0, .int 0, .int 3])), (h1, .inl (k0, 16, .inl f0))]) hP hD [0, 1] [] rfl rfl (by decide) (by decide) hk1 hFc hP1 hD1
  generalize H1 = H at hP hS ⊢
  have hP : va_P (dC, dI) vwCl [(h0, .inr (1, [.ref h1, .int 0, .int 0, .int 3])), (h1, .inl (k0, 16, .inl f0))] H := hP
  have hD : va_D A [(h0, .inr (1, [.ref h1, .int 0, .int 0, .int 3])), (h1, .inl (k0, 16, .inl f0))] := hD
  refine lv_aload_n hx hb dJ5_append_3fe6f_10 rfl (lv_at hl 0 rfl) ?_
  have hPc := hP.sub (ws' := [(h0, .inr (1, [.ref h1, .int 0, .int 0, .int 3]))]) [0] rfl
  have hDc := hD.sub (ws' := [(h0, .inr (1, [.ref h1, .int 0, .int 0, .int 3]))]) [0] (by decide) rfl
  have hKc := hK.sub (tys' := []) [] rfl
  have hFc := va_free (wc := [(h0, .inr (1, [.ref h1, .int 0, .int 0, .int 3]))]) hD hS hA [0] rfl
  refine va_calli (va_runU (As := []) (rest := []) ⟨hx, hb, hml, hown, hts⟩ (kx_J5_isLatin1_aae02_3 l dC dI ge5 gea gv5 gva gde gic gi0 h0 h1 H.size) (va_cwU 0 hts gJ5_append_3fe6f_J5_isLatin1_aae02_u83J4 rfl rfl rfl rfl (by decide +kernel) ⟨Nat.le_of_ble_eq_true rfl, Nat.le_of_ble_eq_true rfl⟩) ⟨fun a U g mk q => by obtain ⟨q0, q1, qP, qK, qD, qG⟩ := q; exact ⟨q0, q1, qP, va_K.moved (u := U) (U := U.calling g mk a) (Vm.Alike.refl U.vm) qK, qD, gv.fb qG⟩, va_recv hKc hPc (ci := 1) (q0 := 0) rfl rfl, fun U hU hW => ⟨rfl, by rw [hU], by rw [hU]; exact hPc, va_K.moved hW.alike hKc, hDc.weaken (fun _ _ _ _ => trivial), gv.pass hW hU hS hFc hG⟩⟩ rfl rfl hl.1 rfl (lv_room (Nat.le_of_ble_eq_true rfl)) dJ5_append_3fe6f_11 ⟨Nat.le_of_ble_eq_true rfl, Nat.le_of_ble_eq_true rfl⟩) hS (fun q _ h => hFc q h) hFc (fun r9 u t H1 locs ht hvm hw hB hz1 hk1 hS => ?_)
  obtain rfl := hw
  obtain ⟨hP1, hK1, hD1⟩ := hB
  rw [ht] at hP1
  have hK1 := va_K.moved hvm.symm hK1
  obtain ⟨hP, hD⟩ := va_join (wr := [(h1, .inl (k0, 16, .inl f0))]) (w1 := [(h0, .inr (1, [.ref h1, .int 0, .int 0, .int 3]))]) hP hD [0] [1] rfl rfl (by decide) (by decide) hk1 hFc hP1 hD1
  generalize H1 = H at hP hS ⊢
  have hP : va_P (dC, dI) vwCl [(h1, .inl (k0, 16, .inl f0)), (h0, .inr (1, [.ref h1, .int 0, .int 0, .int 3]))] H := hP
  have hD : va_D A [(h1, .inl (k0, 16, .inl f0)), (h0, .inr (1, [.ref h1, .int 0, .int 0, .int 3]))] := hD
  refine lv_if_eq (tgt := 45) hx hb dJ5_append_3fe6f_14 (by decide) (fun c9 => absurd c9 (by decide)) (fun _ => ?_)
  refine lv_iload_n hx hb dJ5_append_3fe6f_17 rfl (lv_at hl 1 rfl) ?_
  have hPc := hP.sub (ws' := []) [] rfl
  have hDc := hD.sub (ws' := []) [] (by decide) rfl
  have hKc := hK.sub (tys' := []) [] rfl
  have hFc := va_free (wc := []) hD hS hA [] rfl
  refine va_calli (va_runS (As := [.int 99]) (rest := []) ⟨hx, hb, hml, hown, hts⟩ (kx_J1_canEncode_fc78d_2 l dC dI H.size) (va_cwS 1 hts gJ5_append_3fe6f_J1_canEncode_fc78d rfl rfl rfl (by decide +kernel) ⟨Nat.le_of_ble_eq_true rfl, Nat.le_of_ble_eq_true rfl⟩) ⟨fun a U g mk q => by obtain ⟨q0, q1, qP, qK, qD⟩ := q; exact ⟨q0, q1, qP, va_K.moved (u := U) (U := U.calling g mk a) (Vm.Alike.refl U.vm) qK, qD⟩, fun U hU hW => ⟨rfl, by rw [hU], by rw [hU]; exact hPc, va_K.moved hW.alike hKc, hDc.weaken (fun _ _ _ _ => trivial)⟩⟩ rfl rfl hl.1 rfl (lv_room (Nat.le_of_ble_eq_true rfl)) dJ5_append_3fe6f_18 ⟨Nat.le_of_ble_eq_true rfl, Nat.le_of_ble_eq_true rfl⟩) hS (fun q _ h => hFc q h) hFc (fun r9 u t H1 locs ht hvm hw hB hz1 hk1 hS => ?_)
  obtain rfl := hw
  obtain ⟨hP1, hK1, hD1⟩ := hB
  rw [ht] at hP1
  have hK1 := va_K.moved hvm.symm hK1
  obtain ⟨hP, hD⟩ := va_join (wr := [(h1, .inl (k0, 16, .inl f0)), (h0, .inr (1, [.ref h1, .int 0, .int 0, .int 3]))]) (w1 := []) hP hD [] [0, 1] rfl rfl (by decide) (by decide) hk1 hFc hP1 hD1
  generalize H1 = H at hP hS ⊢
  have hP : va_P (dC, dI) vwCl [(h1, .inl (k0, 16, .inl f0)), (h0, .inr (1, [.ref h1, .int 0, .int 0, .int 3]))] H := hP
  have hD : va_D A [(h1, .inl (k0, 16, .inl f0)), (h0, .inr (1, [.ref h1, .int 0, .int 0, .int 3]))] := hD
  refine lv_if_eq (tgt := 45) hx hb dJ5_append_3fe6f_21 (by decide) (fun c9 => absurd c9 (by decide)) (fun _ => ?_)
  refine lv_aload_n hx hb dJ5_append_3fe6f_24 rfl (lv_at hl 0 rfl) ?_
  refine va_get (D := (dC, dI)) (ci := 1) (v := .ref h1) (C := RJ4) (T := TJ4) (N := 4) hx hb hts (by decide +kernel) hown hK hP 1 rfl rfl 0 (by decide) (hts (.fieldLink RJ5 15 "java/lang/AbstractStringBuilder" "value" "[B") (by decide +kernel)) (fun _ h9 => h9) rfl dJ5_append_3fe6f_25 ?_
  refine lv_aload_n hx hb dJ5_append_3fe6f_28 rfl (lv_at hl 0 rfl) ?_
  refine lv_dup hx hb dJ5_append_3fe6f_29 rfl ?_
  refine va_get (D := (dC, dI)) (ci := 1) (v := .int 3) (C := RJ4) (T := TJ4) (N := 4) hx hb hts (by decide +kernel) hown hK hP 1 rfl rfl 3 (by decide) (hts (.fieldLink RJ5 79 "java/lang/AbstractStringBuilder" "count" "I") (by decide +kernel)) (fun _ h9 => h9) rfl dJ5_append_3fe6f_30 ?_
  refine lv_dup_x1 hx hb dJ5_append_3fe6f_33 rfl rfl ?_
  refine lv_iconst (v := 1) hx hb dJ5_append_3fe6f_34 (by decide) ?_
  refine lv_iadd hx hb dJ5_append_3fe6f_35 ?_
  refine lv_topi (fun y2 ey2 => ?_)
  obtain rfl : y2 = 4 := ey2.trans (by decide)
  refine va_put (D := (dC, dI)) (ci := 1) (v := .int 4) (ty := .int) (C := RJ4) (T := TJ4) (N := 4) hx hb hts (by decide +kernel) tyJ4 tyJ4_ok nmJ4 hown hK hP hD hS 1 rfl rfl 3 (by decide) (hts (.fieldLink RJ5 79 "java/lang/AbstractStringBuilder" "count" "I") (by decide +kernel)) (fun _ h9 => h9) rfl (by decide +kernel) rfl rfl (Nat.le_of_ble_eq_true rfl) dJ5_append_3fe6f_36 (fun H locs hP hD hS => ?_)
  have hP : va_P (dC, dI) vwCl [(h1, .inl (k0, 16, .inl f0)), (h0, .inr (1, [.ref h1, .int 0, .int 0, .int 4]))] H := hP
  have hD : va_D A [(h1, .inl (k0, 16, .inl f0)), (h0, .inr (1, [.ref h1, .int 0, .int 0, .int 4]))] := hD
  refine lv_iload_n hx hb dJ5_append_3fe6f_39 rfl (lv_at hl 1 rfl) ?_
  refine lv_i2b (v := 99) hx hb dJ5_append_3fe6f_40 (by decide) ?_
  refine va_bast (D := (dC, dI)) hx hb hK hP hD hS 0 0 rfl rfl (by unfold vp_in; decide) dJ5_append_3fe6f_41 (fun H locs hP hD hS => ?_)
  have hP : va_P (dC, dI) vwCl [(h1, .inl (k0, 16, .inl (upd f0 3 99))), (h0, .inr (1, [.ref h1, .int 0, .int 0, .int 4]))] H := hP
  have hD : va_D A [(h1, .inl (k0, 16, .inl (upd f0 3 99))), (h0, .inr (1, [.ref h1, .int 0, .int 0, .int 4]))] := hD
  obtain ⟨f3, hf3⟩ : ∃ f : Nat → Int32, f = upd f0 3 99 := ⟨_, rfl⟩
  have f3_t : sb_Fit f3 := by rw [hf3]; exact sb_fitU f0_t (by decide)
  rw [← hf3] at hP hD
  refine lv_goto (tgt := 75) hx hb dJ5_append_3fe6f_42 (by decide) ?_
  refine lv_aload_n hx hb dJ5_append_3fe6f_75 rfl (lv_at hl 0 rfl) ?_
  have hP := hP.sub (ws' := [(h0, .inr (1, [.ref h1, .int 0, .int 0, .int 4])), (h1, .inl (k0, 16, .inl f3))]) [1, 0] rfl
  have hD := hD.sub (ws' := [(h0, .inr (1, [.ref h1, .int 0, .int 0, .int 4])), (h1, .inl (k0, 16, .inl f3))]) [1, 0] (by decide) rfl
  exact W.aret (v := .ref h0) hx hb hr (Or.inl ⟨_, rfl⟩) (Or.inr ⟨_, rfl⟩) (fun t ht hW => ⟨⟨(), h0, rfl, trivial, f3, f3_t, rfl, by rw [ht]; exact hP, va_K.moved hW.alike hK, hD⟩, hS.F ht⟩) hS.2.2 dJ5_append_3fe6f_76
set_option maxHeartbeats 4000000 in
set_option maxRecDepth 100000 in
theorem kx_J4_append_cf468_14 (l : Launch) (dC : Nat → ClassId) (dI : Nat → Nat → Nat) (ge5 gea gv5 gva gde gic gi0 : Nat) (h0 : Nat) (h1 : Nat) (k0 : ClassId) (sz : Nat) (f0 : Nat → Int32) (f0_t : sb_Fit f0) : Met l yJ4_append_cf468 wsJ4_append_cf468 ({ frames := 2, cells := 0, slots := 0, locals := 43 }) (va_Pc [.ref h0, .int 99] (fun U => U.heap.size = sz ∧ va_P (dC, dI) vwCl [(h0, .inr (1, [.ref h1, .int 0, .int 0, .int 3])), (h1, .inl (k0, 16, .inl f0))] U.heap ∧ va_K (dC, dI) vwCl [(k0, .byte)] U ∧ va_D (fun _ => True) [(h0, .inr (1, [.ref h1, .int 0, .int 0, .int 3])), (h1, .inl (k0, 16, .inl f0))] ∧ gv ge5 gea gv5 gva gde gic gi0 (va_A [(h0, .inr (1, [.ref h1, .int 0, .int 0, .int 3])), (h1, .inl (k0, 16, .inl f0))] sz) U U.heap)) (va_Qr (fun _ : Unit => True) (fun (_ : Unit) (ra : Nat) (t : State) => ∃ f1 : Nat → Int32, sb_Fit f1 ∧ ra = h0 ∧ va_P (dC, dI) vwCl [(h0, .inr (1, [.ref h1, .int 0, .int 0, .int 4])), (h1, .inl (k0, 16, .inl f1))] t.heap ∧ va_K (dC, dI) vwCl [(k0, .byte)] t ∧ va_D (va_A [(h0, .inr (1, [.ref h1, .int 0, .int 0, .int 3])), (h1, .inl (k0, 16, .inl f0))] sz) [(h0, .inr (1, [.ref h1, .int 0, .int 0, .int 4])), (h1, .inl (k0, 16, .inl f1))]) (va_A [(h0, .inr (1, [.ref h1, .int 0, .int 0, .int 3])), (h1, .inl (k0, 16, .inl f0))] sz)) 0 0 (va_A [(h0, .inr (1, [.ref h1, .int 0, .int 0, .int 3])), (h1, .inl (k0, 16, .inl f0))] sz) := by
  refine Met.ofW (cc := cJ4_append_cf468) (maxL := 2) (ret := (some (.object "java/lang/StringBuilder"))) (by decide) rfl ?_
  intro p e s m args below meth c s₁ B hml hv
  obtain ⟨rfl, hsz, hP, hK, hD0, hG⟩ := hv
  have hx := B.exec
  have hb := B.bytes
  have hr := B.returns
  have hts := atoms_spec (ws := wsJ4_append_cf468) B.pre
  have hown : s.vm.findClass RJ4 = some m.cls := findClass_of_methodNamed B.named
  have hlocks := B.notSynchronized
  subst hsz
  have hD := hD0.self (sz := s.heap.size)
  generalize hAe : va_A [(h0, .inr (1, [.ref h1, .int 0, .int 0, .int 3])), (h1, .inl (k0, 16, .inl f0))] s.heap.size = A at hD hG ⊢
  obtain ⟨⟨g_AO_Text, g_AO_String, g_AO_Object, g_nm_RX1_20, g_nm_RX0_17, g_nm_RX3_31, g_nm_RX2_44, g_nm_RL_121, g_nf_RL_13, g_nf_RL_47, g_ca_IO, g_ca_IA, g_ca_IS, g_ca_IntObj, g_ca_StrObj, g_de_RT, g_de_EX, g_de_TH, g_nc_IA_IO, g_nc_IS_IO, g_nc_IS_IA⟩, ⟨g_s3, g_s5, g_sa, g_x278, g_x280, g_x282, g_x284, g_x286, g_x180, g_x238, g_x250⟩, ⟨g_o5, g_c5, g_v5, g_t5, g_oa, g_ca, g_va, g_ta, g_zc, g_zd, g_td, g_zf, g_zU, g_zN, g_zh, g_zk, g_tk, g_oi, g_vi⟩⟩ := id hG
  have hA : ∀ q : Nat, s.heap.size ≤ q → A q := fun q h => by rw [← hAe]; exact Or.inr h
  have hS : va_S A s.heap s.heap [] := va_S.rf
  have hP : va_P (dC, dI) vwCl [(h0, .inr (1, [.ref h1, .int 0, .int 0, .int 3])), (h1, .inl (k0, 16, .inl f0))] s.heap := hP
  have hl := lv_entry ([.ref h0, .int 99]) (n := 2) (Nat.le_of_ble_eq_true rfl)
  rw [lg_entry_eq]
  generalize (lg_sl ([.ref h0, .int 99]) ++ List.replicate (2 - (lg_sl ([.ref h0, .int 99])).length) Slot.unset).toArray = ls at hl ⊢
  have hl : lv_has ls 2 [(0, .ref h0), (1, .int 99)] := hl
  refine lv_aload_n hx hb dJ4_append_cf468_0 rfl (lv_at hl 0 rfl) ?_
  refine lv_iload_n hx hb dJ4_append_cf468_1 rfl (lv_at hl 1 rfl) ?_
  have hPc := hP.sub (ws' := [(h0, .inr (1, [.ref h1, .int 0, .int 0, .int 3])), (h1, .inl (k0, 16, .inl f0))]) [0, 1] rfl
  have hDc := hD.sub (ws' := [(h0, .inr (1, [.ref h1, .int 0, .int 0, .int 3])), (h1, .inl (k0, 16, .inl f0))]) [0, 1] (by decide) rfl
  have hKc := hK.sub (tys' := [(k0, .byte)]) [0] rfl
  have hFc := va_free (wc := [(h0, .inr (1, [.ref h1, .int 0, .int 0, .int 3])), (h1, .inl (k0, 16, .inl f0))]) hD hS hA [0, 1] rfl
  refine va_callr (va_runSU (hK.1 1 _ rfl).2 (As := [.int 99]) (rest := []) ⟨hx, hb, hml, hown, hts⟩ (kx_J5_append_3fe6f_14 l dC dI ge5 gea gv5 gva gde gic gi0 h0 h1 k0 s.heap.size f0 f0_t) (va_cwSU 1 hts gJ4_append_cf468_J5_append_3fe6f_s50 rfl rfl rfl (by decide +kernel) ⟨Nat.le_of_ble_eq_true rfl, Nat.le_of_ble_eq_true rfl⟩) ⟨fun a U g mk q => by obtain ⟨q0, q1, qP, qK, qD, qG⟩ := q; exact ⟨q0, q1, qP, va_K.moved (u := U) (U := U.calling g mk a) (Vm.Alike.refl U.vm) qK, qD, gv.fb qG⟩, va_recv hKc hPc (ci := 1) (q0 := 0) rfl rfl, fun U hU hW => ⟨rfl, by rw [hU], by rw [hU]; exact hPc, va_K.moved hW.alike hKc, hDc.weaken (fun _ _ _ _ => trivial), gv.pass hW hU hS hFc hG⟩⟩ rfl rfl hl.1 rfl (lv_room (Nat.le_of_ble_eq_true rfl)) dJ4_append_cf468_2 ⟨Nat.le_of_ble_eq_true rfl, Nat.le_of_ble_eq_true rfl⟩) hS (fun q _ h => hFc q h) hFc (fun u ra t H1 locs ht hvm hw hB hz1 hk1 hS => ?_)
  obtain ⟨f1, f1_t, hra, hP1, hK1, hD1⟩ := hB
  rw [hra]
  rw [ht] at hP1
  have hK1 := va_K.moved hvm.symm hK1
  obtain ⟨hP, hD⟩ := va_join (wr := []) (w1 := [(h0, .inr (1, [.ref h1, .int 0, .int 0, .int 4])), (h1, .inl (k0, 16, .inl f1))]) hP hD [0, 1] [] rfl rfl (by decide) (by decide) hk1 hFc hP1 hD1
  generalize H1 = H at hP hS ⊢
  have hP : va_P (dC, dI) vwCl [(h0, .inr (1, [.ref h1, .int 0, .int 0, .int 4])), (h1, .inl (k0, 16, .inl f1))] H := hP
  have hD : va_D A [(h0, .inr (1, [.ref h1, .int 0, .int 0, .int 4])), (h1, .inl (k0, 16, .inl f1))] := hD
  refine lv_pop hx hb dJ4_append_cf468_5 rfl ?_
  refine lv_aload_n hx hb dJ4_append_cf468_6 rfl (lv_at hl 0 rfl) ?_
  exact W.aret (v := .ref h0) hx hb hr (Or.inl ⟨_, rfl⟩) (Or.inr ⟨_, rfl⟩) (fun t ht hW => ⟨⟨(), h0, rfl, trivial, f1, f1_t, rfl, by rw [ht]; exact hP, va_K.moved hW.alike hK, hD⟩, hS.F ht⟩) hS.2.2 dJ4_append_cf468_7
set_option maxHeartbeats 4000000 in
set_option maxRecDepth 100000 in
theorem kx_J5_append_3fe6f_15 (l : Launch) (dC : Nat → ClassId) (dI : Nat → Nat → Nat) (ge5 gea gv5 gva gde gic gi0 : Nat) (h0 : Nat) (h1 : Nat) (k0 : ClassId) (sz : Nat) (f0 : Nat → Int32) (f0_t : sb_Fit f0) : Met l yJ5_append_3fe6f wsJ5_append_3fe6f ({ frames := 1, cells := 0, slots := 0, locals := 22 }) (va_Pc [.ref h0, .int 100] (fun U => U.heap.size = sz ∧ va_P (dC, dI) vwCl [(h0, .inr (1, [.ref h1, .int 0, .int 0, .int 3])), (h1, .inl (k0, 16, .inl f0))] U.heap ∧ va_K (dC, dI) vwCl [(k0, .byte)] U ∧ va_D (fun _ => True) [(h0, .inr (1, [.ref h1, .int 0, .int 0, .int 3])), (h1, .inl (k0, 16, .inl f0))] ∧ gv ge5 gea gv5 gva gde gic gi0 (va_A [(h0, .inr (1, [.ref h1, .int 0, .int 0, .int 3])), (h1, .inl (k0, 16, .inl f0))] sz) U U.heap)) (va_Qr (fun _ : Unit => True) (fun (_ : Unit) (ra : Nat) (t : State) => ∃ f3 : Nat → Int32, sb_Fit f3 ∧ ra = h0 ∧ va_P (dC, dI) vwCl [(h0, .inr (1, [.ref h1, .int 0, .int 0, .int 4])), (h1, .inl (k0, 16, .inl f3))] t.heap ∧ va_K (dC, dI) vwCl [(k0, .byte)] t ∧ va_D (va_A [(h0, .inr (1, [.ref h1, .int 0, .int 0, .int 3])), (h1, .inl (k0, 16, .inl f0))] sz) [(h0, .inr (1, [.ref h1, .int 0, .int 0, .int 4])), (h1, .inl (k0, 16, .inl f3))]) (va_A [(h0, .inr (1, [.ref h1, .int 0, .int 0, .int 3])), (h1, .inl (k0, 16, .inl f0))] sz)) 0 0 (va_A [(h0, .inr (1, [.ref h1, .int 0, .int 0, .int 3])), (h1, .inl (k0, 16, .inl f0))] sz) := by
  refine Met.ofW (cc := cJ5_append_3fe6f) (maxL := 2) (ret := (some (.object "java/lang/AbstractStringBuilder"))) (by decide) rfl ?_
  intro p e s m args below meth c s₁ B hml hv
  obtain ⟨rfl, hsz, hP, hK, hD0, hG⟩ := hv
  have hx := B.exec
  have hb := B.bytes
  have hr := B.returns
  have hts := atoms_spec (ws := wsJ5_append_3fe6f) B.pre
  have hown : s.vm.findClass RJ5 = some m.cls := findClass_of_methodNamed B.named
  have hlocks := B.notSynchronized
  subst hsz
  have hD := hD0.self (sz := s.heap.size)
  generalize hAe : va_A [(h0, .inr (1, [.ref h1, .int 0, .int 0, .int 3])), (h1, .inl (k0, 16, .inl f0))] s.heap.size = A at hD hG ⊢
  obtain ⟨⟨g_AO_Text, g_AO_String, g_AO_Object, g_nm_RX1_20, g_nm_RX0_17, g_nm_RX3_31, g_nm_RX2_44, g_nm_RL_121, g_nf_RL_13, g_nf_RL_47, g_ca_IO, g_ca_IA, g_ca_IS, g_ca_IntObj, g_ca_StrObj, g_de_RT, g_de_EX, g_de_TH, g_nc_IA_IO, g_nc_IS_IO, g_nc_IS_IA⟩, ⟨g_s3, g_s5, g_sa, g_x278, g_x280, g_x282, g_x284, g_x286, g_x180, g_x238, g_x250⟩, ⟨g_o5, g_c5, g_v5, g_t5, g_oa, g_ca, g_va, g_ta, g_zc, g_zd, g_td, g_zf, g_zU, g_zN, g_zh, g_zk, g_tk, g_oi, g_vi⟩⟩ := id hG
  have hA : ∀ q : Nat, s.heap.size ≤ q → A q := fun q h => by rw [← hAe]; exact Or.inr h
  have hS : va_S A s.heap s.heap [] := va_S.rf
  have hP : va_P (dC, dI) vwCl [(h0, .inr (1, [.ref h1, .int 0, .int 0, .int 3])), (h1, .inl (k0, 16, .inl f0))] s.heap := hP
  have hl := lv_entry ([.ref h0, .int 100]) (n := 2) (Nat.le_of_ble_eq_true rfl)
  rw [lg_entry_eq]
  generalize (lg_sl ([.ref h0, .int 100]) ++ List.replicate (2 - (lg_sl ([.ref h0, .int 100])).length) Slot.unset).toArray = ls at hl ⊢
  have hl : lv_has ls 2 [(0, .ref h0), (1, .int 100)] := hl
  refine lv_aload_n hx hb dJ5_append_3fe6f_0 rfl (lv_at hl 0 rfl) ?_
  refine lv_aload_n hx hb dJ5_append_3fe6f_1 rfl (lv_at hl 0 rfl) ?_
  refine va_get (D := (dC, dI)) (ci := 1) (v := .int 3) (C := RJ4) (T := TJ4) (N := 4) hx hb hts (by decide +kernel) hown hK hP 0 rfl rfl 3 (by decide) (hts (.fieldLink RJ5 79 "java/lang/AbstractStringBuilder" "count" "I") (by decide +kernel)) (fun _ h9 => h9) rfl dJ5_append_3fe6f_2 ?_
  refine lv_iconst (v := 1) hx hb dJ5_append_3fe6f_5 (by decide) ?_
  refine lv_iadd hx hb dJ5_append_3fe6f_6 ?_
  refine lv_topi (fun y1 ey1 => ?_)
  obtain rfl : y1 = 4 := ey1.trans (by decide)
  have hPc := hP.sub (ws' := [(h0, .inr (1, [.ref h1, .int 0, .int 0, .int 3])), (h1, .inl (k0, 16, .inl f0))]) [0, 1] rfl
  have hDc := hD.sub (ws' := [(h0, .inr (1, [.ref h1, .int 0, .int 0, .int 3])), (h1, .inl (k0, 16, .inl f0))]) [0, 1] (by decide) rfl
  have hKc := hK.sub (tys' := [(k0, .byte)]) [0] rfl
  have hFc := va_free (wc := [(h0, .inr (1, [.ref h1, .int 0, .int 0, .int 3])), (h1, .inl (k0, 16, .inl f0))]) hD hS hA [0, 1] rfl
  refine va_callv (va_runU (As := [.int 4]) (rest := []) ⟨hx, hb, hml, hown, hts⟩ (kx_J5_ensureCapacityInternal_d00df_8 l dC dI h0 h1 k0 s.heap.size f0 f0_t) (va_cwU 1 hts gJ5_append_3fe6f_J5_ensureCapacityInternal_d00df_u100J4 rfl rfl rfl rfl (by decide +kernel) ⟨Nat.le_of_ble_eq_true rfl, Nat.le_of_ble_eq_true rfl⟩) ⟨fun a U g mk q => by obtain ⟨q0, q1, qP, qK, qD⟩ := q; exact ⟨q0, q1, qP, va_K.moved (u := U) (U := U.calling g mk a) (Vm.Alike.refl U.vm) qK, qD⟩, va_recv hKc hPc (ci := 1) (q0 := 0) rfl rfl, fun U hU hW => ⟨rfl, by rw [hU], by rw [hU]; exact hPc, va_K.moved hW.alike hKc, hDc.weaken (fun _ _ _ _ => trivial)⟩⟩ rfl rfl hl.1 rfl (lv_room (Nat.le_of_ble_eq_true rfl)) dJ5_append_3fe6f_7 ⟨Nat.le_of_ble_eq_true rfl, Nat.le_of_ble_eq_true rfl⟩) hS (fun q _ h => hFc q h) hFc (fun u t H1 locs ht hvm hw hB hz1 hk1 hS => ?_)
  obtain ⟨hP1, hK1, hD1⟩ := hB
  rw [ht] at hP1
  have hK1 := va_K.moved hvm.symm hK1
  obtain ⟨hP, hD⟩ := va_join (wr := []) (w1 := [(h0, .inr (1, [.ref h1, .int 0, .int 0, .int 3])), (h1, .inl (k0, 16, .inl f0))]) hP hD [0, 1] [] rfl rfl (by decide) (by decide) hk1 hFc hP1 hD1
  generalize H1 = H at hP hS ⊢
  have hP : va_P (dC, dI) vwCl [(h0, .inr (1, [.ref h1, .int 0, .int 0, .int 3])), (h1, .inl (k0, 16, .inl f0))] H := hP
  have hD : va_D A [(h0, .inr (1, [.ref h1, .int 0, .int 0, .int 3])), (h1, .inl (k0, 16, .inl f0))] := hD
  refine lv_aload_n hx hb dJ5_append_3fe6f_10 rfl (lv_at hl 0 rfl) ?_
  have hPc := hP.sub (ws' := [(h0, .inr (1, [.ref h1, .int 0, .int 0, .int 3]))]) [0] rfl
  have hDc := hD.sub (ws' := [(h0, .inr (1, [.ref h1, .int 0, .int 0, .int 3]))]) [0] (by decide) rfl
  have hKc := hK.sub (tys' := []) [] rfl
  have hFc := va_free (wc := [(h0, .inr (1, [.ref h1, .int 0, .int 0, .int 3]))]) hD hS hA [0] rfl
  refine va_calli (va_runU (As := []) (rest := []) ⟨hx, hb, hml, hown, hts⟩ (kx_J5_isLatin1_aae02_3 l dC dI ge5 gea gv5 gva gde gic gi0 h0 h1 H.size) (va_cwU 0 hts gJ5_append_3fe6f_J5_isLatin1_aae02_u83J4 rfl rfl rfl rfl (by decide +kernel) ⟨Nat.le_of_ble_eq_true rfl, Nat.le_of_ble_eq_true rfl⟩) ⟨fun a U g mk q => by obtain ⟨q0, q1, qP, qK, qD, qG⟩ := q; exact ⟨q0, q1, qP, va_K.moved (u := U) (U := U.calling g mk a) (Vm.Alike.refl U.vm) qK, qD, gv.fb qG⟩, va_recv hKc hPc (ci := 1) (q0 := 0) rfl rfl, fun U hU hW => ⟨rfl, by rw [hU], by rw [hU]; exact hPc, va_K.moved hW.alike hKc, hDc.weaken (fun _ _ _ _ => trivial), gv.pass hW hU hS hFc hG⟩⟩ rfl rfl hl.1 rfl (lv_room (Nat.le_of_ble_eq_true rfl)) dJ5_append_3fe6f_11 ⟨Nat.le_of_ble_eq_true rfl, Nat.le_of_ble_eq_true rfl⟩) hS (fun q _ h => hFc q h) hFc (fun r9 u t H1 locs ht hvm hw hB hz1 hk1 hS => ?_)
  obtain rfl := hw
  obtain ⟨hP1, hK1, hD1⟩ := hB
  rw [ht] at hP1
  have hK1 := va_K.moved hvm.symm hK1
  obtain ⟨hP, hD⟩ := va_join (wr := [(h1, .inl (k0, 16, .inl f0))]) (w1 := [(h0, .inr (1, [.ref h1, .int 0, .int 0, .int 3]))]) hP hD [0] [1] rfl rfl (by decide) (by decide) hk1 hFc hP1 hD1
  generalize H1 = H at hP hS ⊢
  have hP : va_P (dC, dI) vwCl [(h1, .inl (k0, 16, .inl f0)), (h0, .inr (1, [.ref h1, .int 0, .int 0, .int 3]))] H := hP
  have hD : va_D A [(h1, .inl (k0, 16, .inl f0)), (h0, .inr (1, [.ref h1, .int 0, .int 0, .int 3]))] := hD
  refine lv_if_eq (tgt := 45) hx hb dJ5_append_3fe6f_14 (by decide) (fun c9 => absurd c9 (by decide)) (fun _ => ?_)
  refine lv_iload_n hx hb dJ5_append_3fe6f_17 rfl (lv_at hl 1 rfl) ?_
  have hPc := hP.sub (ws' := []) [] rfl
  have hDc := hD.sub (ws' := []) [] (by decide) rfl
  have hKc := hK.sub (tys' := []) [] rfl
  have hFc := va_free (wc := []) hD hS hA [] rfl
  refine va_calli (va_runS (As := [.int 100]) (rest := []) ⟨hx, hb, hml, hown, hts⟩ (kx_J1_canEncode_fc78d_3 l dC dI H.size) (va_cwS 1 hts gJ5_append_3fe6f_J1_canEncode_fc78d rfl rfl rfl (by decide +kernel) ⟨Nat.le_of_ble_eq_true rfl, Nat.le_of_ble_eq_true rfl⟩) ⟨fun a U g mk q => by obtain ⟨q0, q1, qP, qK, qD⟩ := q; exact ⟨q0, q1, qP, va_K.moved (u := U) (U := U.calling g mk a) (Vm.Alike.refl U.vm) qK, qD⟩, fun U hU hW => ⟨rfl, by rw [hU], by rw [hU]; exact hPc, va_K.moved hW.alike hKc, hDc.weaken (fun _ _ _ _ => trivial)⟩⟩ rfl rfl hl.1 rfl (lv_room (Nat.le_of_ble_eq_true rfl)) dJ5_append_3fe6f_18 ⟨Nat.le_of_ble_eq_true rfl, Nat.le_of_ble_eq_true rfl⟩) hS (fun q _ h => hFc q h) hFc (fun r9 u t H1 locs ht hvm hw hB hz1 hk1 hS => ?_)
  obtain rfl := hw
  obtain ⟨hP1, hK1, hD1⟩ := hB
  rw [ht] at hP1
  have hK1 := va_K.moved hvm.symm hK1
  obtain ⟨hP, hD⟩ := va_join (wr := [(h1, .inl (k0, 16, .inl f0)), (h0, .inr (1, [.ref h1, .int 0, .int 0, .int 3]))]) (w1 := []) hP hD [] [0, 1] rfl rfl (by decide) (by decide) hk1 hFc hP1 hD1
  generalize H1 = H at hP hS ⊢
  have hP : va_P (dC, dI) vwCl [(h1, .inl (k0, 16, .inl f0)), (h0, .inr (1, [.ref h1, .int 0, .int 0, .int 3]))] H := hP
  have hD : va_D A [(h1, .inl (k0, 16, .inl f0)), (h0, .inr (1, [.ref h1, .int 0, .int 0, .int 3]))] := hD
  refine lv_if_eq (tgt := 45) hx hb dJ5_append_3fe6f_21 (by decide) (fun c9 => absurd c9 (by decide)) (fun _ => ?_)
  refine lv_aload_n hx hb dJ5_append_3fe6f_24 rfl (lv_at hl 0 rfl) ?_
  refine va_get (D := (dC, dI)) (ci := 1) (v := .ref h1) (C := RJ4) (T := TJ4) (N := 4) hx hb hts (by decide +kernel) hown hK hP 1 rfl rfl 0 (by decide) (hts (.fieldLink RJ5 15 "java/lang/AbstractStringBuilder" "value" "[B") (by decide +kernel)) (fun _ h9 => h9) rfl dJ5_append_3fe6f_25 ?_
  refine lv_aload_n hx hb dJ5_append_3fe6f_28 rfl (lv_at hl 0 rfl) ?_
  refine lv_dup hx hb dJ5_append_3fe6f_29 rfl ?_
  refine va_get (D := (dC, dI)) (ci := 1) (v := .int 3) (C := RJ4) (T := TJ4) (N := 4) hx hb hts (by decide +kernel) hown hK hP 1 rfl rfl 3 (by decide) (hts (.fieldLink RJ5 79 "java/lang/AbstractStringBuilder" "count" "I") (by decide +kernel)) (fun _ h9 => h9) rfl dJ5_append_3fe6f_30 ?_
  refine lv_dup_x1 hx hb dJ5_append_3fe6f_33 rfl rfl ?_
  refine lv_iconst (v := 1) hx hb dJ5_append_3fe6f_34 (by decide) ?_
  refine lv_iadd hx hb dJ5_append_3fe6f_35 ?_
  refine lv_topi (fun y2 ey2 => ?_)
  obtain rfl : y2 = 4 := ey2.trans (by decide)
  refine va_put (D := (dC, dI)) (ci := 1) (v := .int 4) (ty := .int) (C := RJ4) (T := TJ4) (N := 4) hx hb hts (by decide +kernel) tyJ4 tyJ4_ok nmJ4 hown hK hP hD hS 1 rfl rfl 3 (by decide) (hts (.fieldLink RJ5 79 "java/lang/AbstractStringBuilder" "count" "I") (by decide +kernel)) (fun _ h9 => h9) rfl (by decide +kernel) rfl rfl (Nat.le_of_ble_eq_true rfl) dJ5_append_3fe6f_36 (fun H locs hP hD hS => ?_)
  have hP : va_P (dC, dI) vwCl [(h1, .inl (k0, 16, .inl f0)), (h0, .inr (1, [.ref h1, .int 0, .int 0, .int 4]))] H := hP
  have hD : va_D A [(h1, .inl (k0, 16, .inl f0)), (h0, .inr (1, [.ref h1, .int 0, .int 0, .int 4]))] := hD
  refine lv_iload_n hx hb dJ5_append_3fe6f_39 rfl (lv_at hl 1 rfl) ?_
  refine lv_i2b (v := 100) hx hb dJ5_append_3fe6f_40 (by decide) ?_
  refine va_bast (D := (dC, dI)) hx hb hK hP hD hS 0 0 rfl rfl (by unfold vp_in; decide) dJ5_append_3fe6f_41 (fun H locs hP hD hS => ?_)
  have hP : va_P (dC, dI) vwCl [(h1, .inl (k0, 16, .inl (upd f0 3 100))), (h0, .inr (1, [.ref h1, .int 0, .int 0, .int 4]))] H := hP
  have hD : va_D A [(h1, .inl (k0, 16, .inl (upd f0 3 100))), (h0, .inr (1, [.ref h1, .int 0, .int 0, .int 4]))] := hD
  obtain ⟨f3, hf3⟩ : ∃ f : Nat → Int32, f = upd f0 3 100 := ⟨_, rfl⟩
  have f3_t : sb_Fit f3 := by rw [hf3]; exact sb_fitU f0_t (by decide)
  rw [← hf3] at hP hD
  refine lv_goto (tgt := 75) hx hb dJ5_append_3fe6f_42 (by decide) ?_
  refine lv_aload_n hx hb dJ5_append_3fe6f_75 rfl (lv_at hl 0 rfl) ?_
  have hP := hP.sub (ws' := [(h0, .inr (1, [.ref h1, .int 0, .int 0, .int 4])), (h1, .inl (k0, 16, .inl f3))]) [1, 0] rfl
  have hD := hD.sub (ws' := [(h0, .inr (1, [.ref h1, .int 0, .int 0, .int 4])), (h1, .inl (k0, 16, .inl f3))]) [1, 0] (by decide) rfl
  exact W.aret (v := .ref h0) hx hb hr (Or.inl ⟨_, rfl⟩) (Or.inr ⟨_, rfl⟩) (fun t ht hW => ⟨⟨(), h0, rfl, trivial, f3, f3_t, rfl, by rw [ht]; exact hP, va_K.moved hW.alike hK, hD⟩, hS.F ht⟩) hS.2.2 dJ5_append_3fe6f_76
set_option maxHeartbeats 4000000 in
set_option maxRecDepth 100000 in
theorem kx_J4_append_cf468_15 (l : Launch) (dC : Nat → ClassId) (dI : Nat → Nat → Nat) (ge5 gea gv5 gva gde gic gi0 : Nat) (h0 : Nat) (h1 : Nat) (k0 : ClassId) (sz : Nat) (f0 : Nat → Int32) (f0_t : sb_Fit f0) : Met l yJ4_append_cf468 wsJ4_append_cf468 ({ frames := 2, cells := 0, slots := 0, locals := 43 }) (va_Pc [.ref h0, .int 100] (fun U => U.heap.size = sz ∧ va_P (dC, dI) vwCl [(h0, .inr (1, [.ref h1, .int 0, .int 0, .int 3])), (h1, .inl (k0, 16, .inl f0))] U.heap ∧ va_K (dC, dI) vwCl [(k0, .byte)] U ∧ va_D (fun _ => True) [(h0, .inr (1, [.ref h1, .int 0, .int 0, .int 3])), (h1, .inl (k0, 16, .inl f0))] ∧ gv ge5 gea gv5 gva gde gic gi0 (va_A [(h0, .inr (1, [.ref h1, .int 0, .int 0, .int 3])), (h1, .inl (k0, 16, .inl f0))] sz) U U.heap)) (va_Qr (fun _ : Unit => True) (fun (_ : Unit) (ra : Nat) (t : State) => ∃ f1 : Nat → Int32, sb_Fit f1 ∧ ra = h0 ∧ va_P (dC, dI) vwCl [(h0, .inr (1, [.ref h1, .int 0, .int 0, .int 4])), (h1, .inl (k0, 16, .inl f1))] t.heap ∧ va_K (dC, dI) vwCl [(k0, .byte)] t ∧ va_D (va_A [(h0, .inr (1, [.ref h1, .int 0, .int 0, .int 3])), (h1, .inl (k0, 16, .inl f0))] sz) [(h0, .inr (1, [.ref h1, .int 0, .int 0, .int 4])), (h1, .inl (k0, 16, .inl f1))]) (va_A [(h0, .inr (1, [.ref h1, .int 0, .int 0, .int 3])), (h1, .inl (k0, 16, .inl f0))] sz)) 0 0 (va_A [(h0, .inr (1, [.ref h1, .int 0, .int 0, .int 3])), (h1, .inl (k0, 16, .inl f0))] sz) := by
  refine Met.ofW (cc := cJ4_append_cf468) (maxL := 2) (ret := (some (.object "java/lang/StringBuilder"))) (by decide) rfl ?_
  intro p e s m args below meth c s₁ B hml hv
  obtain ⟨rfl, hsz, hP, hK, hD0, hG⟩ := hv
  have hx := B.exec
  have hb := B.bytes
  have hr := B.returns
  have hts := atoms_spec (ws := wsJ4_append_cf468) B.pre
  have hown : s.vm.findClass RJ4 = some m.cls := findClass_of_methodNamed B.named
  have hlocks := B.notSynchronized
  subst hsz
  have hD := hD0.self (sz := s.heap.size)
  generalize hAe : va_A [(h0, .inr (1, [.ref h1, .int 0, .int 0, .int 3])), (h1, .inl (k0, 16, .inl f0))] s.heap.size = A at hD hG ⊢
  obtain ⟨⟨g_AO_Text, g_AO_String, g_AO_Object, g_nm_RX1_20, g_nm_RX0_17, g_nm_RX3_31, g_nm_RX2_44, g_nm_RL_121, g_nf_RL_13, g_nf_RL_47, g_ca_IO, g_ca_IA, g_ca_IS, g_ca_IntObj, g_ca_StrObj, g_de_RT, g_de_EX, g_de_TH, g_nc_IA_IO, g_nc_IS_IO, g_nc_IS_IA⟩, ⟨g_s3, g_s5, g_sa, g_x278, g_x280, g_x282, g_x284, g_x286, g_x180, g_x238, g_x250⟩, ⟨g_o5, g_c5, g_v5, g_t5, g_oa, g_ca, g_va, g_ta, g_zc, g_zd, g_td, g_zf, g_zU, g_zN, g_zh, g_zk, g_tk, g_oi, g_vi⟩⟩ := id hG
  have hA : ∀ q : Nat, s.heap.size ≤ q → A q := fun q h => by rw [← hAe]; exact Or.inr h
  have hS : va_S A s.heap s.heap [] := va_S.rf
  have hP : va_P (dC, dI) vwCl [(h0, .inr (1, [.ref h1, .int 0, .int 0, .int 3])), (h1, .inl (k0, 16, .inl f0))] s.heap := hP
  have hl := lv_entry ([.ref h0, .int 100]) (n := 2) (Nat.le_of_ble_eq_true rfl)
  rw [lg_entry_eq]
  generalize (lg_sl ([.ref h0, .int 100]) ++ List.replicate (2 - (lg_sl ([.ref h0, .int 100])).length) Slot.unset).toArray = ls at hl ⊢
  have hl : lv_has ls 2 [(0, .ref h0), (1, .int 100)] := hl
  refine lv_aload_n hx hb dJ4_append_cf468_0 rfl (lv_at hl 0 rfl) ?_
  refine lv_iload_n hx hb dJ4_append_cf468_1 rfl (lv_at hl 1 rfl) ?_
  have hPc := hP.sub (ws' := [(h0, .inr (1, [.ref h1, .int 0, .int 0, .int 3])), (h1, .inl (k0, 16, .inl f0))]) [0, 1] rfl
  have hDc := hD.sub (ws' := [(h0, .inr (1, [.ref h1, .int 0, .int 0, .int 3])), (h1, .inl (k0, 16, .inl f0))]) [0, 1] (by decide) rfl
  have hKc := hK.sub (tys' := [(k0, .byte)]) [0] rfl
  have hFc := va_free (wc := [(h0, .inr (1, [.ref h1, .int 0, .int 0, .int 3])), (h1, .inl (k0, 16, .inl f0))]) hD hS hA [0, 1] rfl
  refine va_callr (va_runSU (hK.1 1 _ rfl).2 (As := [.int 100]) (rest := []) ⟨hx, hb, hml, hown, hts⟩ (kx_J5_append_3fe6f_15 l dC dI ge5 gea gv5 gva gde gic gi0 h0 h1 k0 s.heap.size f0 f0_t) (va_cwSU 1 hts gJ4_append_cf468_J5_append_3fe6f_s50 rfl rfl rfl (by decide +kernel) ⟨Nat.le_of_ble_eq_true rfl, Nat.le_of_ble_eq_true rfl⟩) ⟨fun a U g mk q => by obtain ⟨q0, q1, qP, qK, qD, qG⟩ := q; exact ⟨q0, q1, qP, va_K.moved (u := U) (U := U.calling g mk a) (Vm.Alike.refl U.vm) qK, qD, gv.fb qG⟩, va_recv hKc hPc (ci := 1) (q0 := 0) rfl rfl, fun U hU hW => ⟨rfl, by rw [hU], by rw [hU]; exact hPc, va_K.moved hW.alike hKc, hDc.weaken (fun _ _ _ _ => trivial), gv.pass hW hU hS hFc hG⟩⟩ rfl rfl hl.1 rfl (lv_room (Nat.le_of_ble_eq_true rfl)) dJ4_append_cf468_2 ⟨Nat.le_of_ble_eq_true rfl, Nat.le_of_ble_eq_true rfl⟩) hS (fun q _ h => hFc q h) hFc (fun u ra t H1 locs ht hvm hw hB hz1 hk1 hS => ?_)
  obtain ⟨f1, f1_t, hra, hP1, hK1, hD1⟩ := hB
  rw [hra]
  rw [ht] at hP1
  have hK1 := va_K.moved hvm.symm hK1
  obtain ⟨hP, hD⟩ := va_join (wr := []) (w1 := [(h0, .inr (1, [.ref h1, .int 0, .int 0, .int 4])), (h1, .inl (k0, 16, .inl f1))]) hP hD [0, 1] [] rfl rfl (by decide) (by decide) hk1 hFc hP1 hD1
  generalize H1 = H at hP hS ⊢
  have hP : va_P (dC, dI) vwCl [(h0, .inr (1, [.ref h1, .int 0, .int 0, .int 4])), (h1, .inl (k0, 16, .inl f1))] H := hP
  have hD : va_D A [(h0, .inr (1, [.ref h1, .int 0, .int 0, .int 4])), (h1, .inl (k0, 16, .inl f1))] := hD
  refine lv_pop hx hb dJ4_append_cf468_5 rfl ?_
  refine lv_aload_n hx hb dJ4_append_cf468_6 rfl (lv_at hl 0 rfl) ?_
  exact W.aret (v := .ref h0) hx hb hr (Or.inl ⟨_, rfl⟩) (Or.inr ⟨_, rfl⟩) (fun t ht hW => ⟨⟨(), h0, rfl, trivial, f1, f1_t, rfl, by rw [ht]; exact hP, va_K.moved hW.alike hK, hD⟩, hS.F ht⟩) hS.2.2 dJ4_append_cf468_7
