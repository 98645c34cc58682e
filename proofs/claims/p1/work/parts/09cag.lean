set_option maxHeartbeats 4000000 in
set_option maxRecDepth 100000 in
theorem lc_copy_4 {p : Program} {e : Env} {s : State} {m : MethodId} {below : List Frame} {meth : Method} {c : Code} {l : Launch} (hst : l.stackTraces = false) {b : Nat} {xs : Nat → Int32} (C9 : lx_At p s m meth c b xs) {dC : Nat → ClassId} {dI : Nat → Nat → Nat} {ge5 gea gv5 gva gde gic gi0 : Nat} {x0 m0 x1 x2 x45 x53 x55 x57 m1 m2 m3 o0 : Nat} (hG : gv ge5 gea gv5 gva gde gic gi0 (fun q => s.heap.size ≤ q) s s.heap) {v1 : Int32} (v1_l : (4 : Int) ≤ v1.toInt) (v1_u : v1.toInt ≤ (2147483647 : Int)) {v2 : Int32} (v2_l : ((-2147483648) : Int) ≤ v2.toInt) (v2_u : v2.toInt ≤ (2147483647 : Int)) (hx1 : xs 1 = v1) (hx2 : xs 2 = v2) {H : Heap} {locs : List Loc} (hK : va_K (dC, dI) vwCl [] s) (hP : va_P (dC, dI) vwCl [(x0, .inr (7, [.ref x1, .ref x2, .ref x45, .ref x53, .ref x55, .ref x57, .int 0, .int 0, .int 0])), (m0, .inr (9, [.int 0, .ref m1, .ref m2, .ref m3, .int 0, .int 0, .int 0]))] H) (hD : va_D (fun q => s.heap.size ≤ q) [(x0, .inr (7, [.ref x1, .ref x2, .ref x45, .ref x53, .ref x55, .ref x57, .int 0, .int 0, .int 0])), (m0, .inr (9, [.int 0, .ref m1, .ref m2, .ref m3, .int 0, .int 0, .int 0]))]) (hS : va_S (fun q => s.heap.size ≤ q) s.heap H locs) {ls : Array Slot} (hl : lv_has ls 7 [(4, .int 0), (3, .ref o0), (2, .ref m0), (1, .ref x0), (0, .ref b)]) : W p l e room_1 s m #[Value.ref b] below meth c H locs 72 2748 (lw_Z below #[Value.ref b] s) (F0 m 392 ls []) := by
  obtain ⟨hx, hb, hr, hml, hown, hts, hX, hbl, hlocks⟩ := id C9
  have hA : ∀ q : Nat, s.heap.size ≤ q → (fun q : Nat => s.heap.size ≤ q) q := fun _ h => h
  have hbA : ¬ (fun q : Nat => s.heap.size ≤ q) b := Nat.not_le.mpr hbl
  obtain ⟨A, hAe⟩ : ∃ A : Nat → Prop, A = (fun q : Nat => s.heap.size ≤ q) := ⟨_, rfl⟩
  rw [← hAe] at hG hD hS hA hbA
  obtain ⟨⟨g_AO_Text, g_AO_String, g_AO_Object, g_nm_RX1_20, g_nm_RX0_17, g_nm_RX3_31, g_nm_RX2_44, g_nm_RL_121, g_nf_RL_13, g_nf_RL_47, g_ca_IO, g_ca_IA, g_ca_IS, g_ca_IntObj, g_ca_StrObj, g_de_RT, g_de_EX, g_de_TH, g_nc_IA_IO, g_nc_IS_IO, g_nc_IS_IA⟩, ⟨g_s3, g_s5, g_sa, g_x278, g_x280, g_x282, g_x284, g_x286, g_x180, g_x238, g_x250⟩, ⟨g_o5, g_c5, g_v5, g_t5, g_oa, g_ca, g_va, g_ta, g_zc, g_zd, g_td, g_zf, g_zU, g_zN, g_zh, g_zk, g_tk, g_oi, g_vi⟩⟩ := id hG
  refine lv_aload_n hx hb dL_law_392 rfl (lv_at hl 3 rfl) ?_
  refine lv_aload_n hx hb dL_law_393 rfl (lv_at hl 4 rfl) ?_
  refine lv_iload hx hb dL_law_394 (lv_at hl 0 rfl) ?_
  refine lv_iconst (v := 1) hx hb dL_law_396 (by decide) ?_
  refine lv_iadd hx hb dL_law_397 ?_
  refine lv_topi (fun y1 ey1 => ?_)
  obtain rfl : y1 = 1 := ey1.trans (by decide)
  refine va_sld hx hb hX hbl hbA hS (by unfold vp_in; decide) dL_law_398 ?_
  rw [show xs (Int32.toNatClampNeg 1) = v1 from hx1]
  refine lv_aload_n hx hb dL_law_399 rfl (lv_at hl 4 rfl) ?_
  refine lv_iload hx hb dL_law_400 (lv_at hl 0 rfl) ?_
  refine lv_iconst (v := 2) hx hb dL_law_402 (by decide) ?_
  refine lv_iadd hx hb dL_law_403 ?_
  refine lv_topi (fun y2 ey2 => ?_)
  obtain rfl : y2 = 2 := ey2.trans (by decide)
  refine va_sld hx hb hX hbl hbA hS (by unfold vp_in; decide) dL_law_404 ?_
  rw [show xs (Int32.toNatClampNeg 2) = v2 from hx2]
  refine lv_aload_n hx hb dL_law_405 rfl (lv_at hl 1 rfl) ?_
  have hPc := hP.sub (ws' := [(x0, .inr (7, [.ref x1, .ref x2, .ref x45, .ref x53, .ref x55, .ref x57, .int 0, .int 0, .int 0]))]) [0] rfl
  have hDc := hD.sub (ws' := [(x0, .inr (7, [.ref x1, .ref x2, .ref x45, .ref x53, .ref x55, .ref x57, .int 0, .int 0, .int 0]))]) [0] (by decide) rfl
  have hKc := hK.sub (tys' := []) [] rfl
  have hFc := va_free (wc := [(x0, .inr (7, [.ref x1, .ref x2, .ref x45, .ref x53, .ref x55, .ref x57, .int 0, .int 0, .int 0]))]) hD hS hA [0] rfl
  refine va_calli (vx_runSW (As := [.ref x0, .int v1, .int v2, .ref o0]) (rest := []) ⟨hx, hb, hml, hown, hts⟩ (kx_L_copy_4 l hst dC dI ge5 gea gv5 gva gde gic gi0 x0 o0 x1 x2 x45 x53 x55 x57 H.size v1 v1_l v1_u v2 v2_l v2_u) (vx_cwSW 4 hts gL_law_L_copy rfl rfl rfl (by decide +kernel) ⟨Nat.le_of_ble_eq_true rfl, Nat.le_of_ble_eq_true rfl⟩) ⟨fun a U g mk q => by obtain ⟨q0, q1, qP, qK, qD, qG⟩ := q; exact ⟨q0, q1, qP, va_K.moved (u := U) (U := U.calling g mk a) (Vm.Alike.refl U.vm) qK, qD, gv.fb qG⟩, fun U hU hW => ⟨rfl, by rw [hU], by rw [hU]; exact hPc, va_K.moved hW.alike hKc, hDc.weaken (fun _ _ _ _ => trivial), gv.pass hW hU hS hFc hG⟩⟩ rfl rfl hl.1 rfl (lv_room (Nat.le_of_ble_eq_true rfl)) dL_law_406 ⟨Nat.le_of_ble_eq_true rfl, Nat.le_of_ble_eq_true rfl⟩) hS (fun q _ h => hFc q h) hFc (fun r9 u t H1 locs ht hvm hw hB hz1 hk1 hS => ?_)
  obtain rfl := hw
  obtain ⟨hP1, hK1, hD1⟩ := hB
  rw [ht] at hP1
  have hK1 := va_K.moved hvm.symm hK1
  obtain ⟨hP, hD⟩ := va_join (wr := [(m0, .inr (9, [.int 0, .ref m1, .ref m2, .ref m3, .int 0, .int 0, .int 0]))]) (w1 := [(x0, .inr (7, [.ref x1, .ref x2, .ref x45, .ref x53, .ref x55, .ref x57, .int 0, .int 0, .int 0]))]) hP hD [0] [1] rfl rfl (by decide) (by decide) hk1 hFc hP1 hD1
  generalize H1 = H at hP hS ⊢
  have hP : va_P (dC, dI) vwCl [(m0, .inr (9, [.int 0, .ref m1, .ref m2, .ref m3, .int 0, .int 0, .int 0])), (x0, .inr (7, [.ref x1, .ref x2, .ref x45, .ref x53, .ref x55, .ref x57, .int 0, .int 0, .int 0]))] H := hP
  have hD : va_D A [(m0, .inr (9, [.int 0, .ref m1, .ref m2, .ref m3, .int 0, .int 0, .int 0])), (x0, .inr (7, [.ref x1, .ref x2, .ref x45, .ref x53, .ref x55, .ref x57, .int 0, .int 0, .int 0]))] := hD
  refine W.widen (k := 73) (n := 2754) (by omega) (by omega) ?_
  refine lv_istore (lv' := [(5, .int 1), (4, .int 0), (3, .ref o0), (2, .ref m0), (1, .ref x0), (0, .ref b)]) hx hb dL_law_409 hl (by decide) rfl (fun ls hl => ?_)
  refine lv_aload_n hx hb dL_law_411 rfl (lv_at hl 3 rfl) ?_
  refine lv_aload_n hx hb dL_law_412 rfl (lv_at hl 5 rfl) ?_
  refine lv_iload hx hb dL_law_413 (lv_at hl 1 rfl) ?_
  refine lv_iconst (v := 1) hx hb dL_law_415 (by decide) ?_
  refine lv_iadd hx hb dL_law_416 ?_
  refine lv_topi (fun y3 ey3 => ?_)
  obtain rfl : y3 = 1 := ey3.trans (by decide)
  refine va_sld hx hb hX hbl hbA hS (by unfold vp_in; decide) dL_law_417 ?_
  rw [show xs (Int32.toNatClampNeg 1) = v1 from hx1]
  refine lv_aload_n hx hb dL_law_418 rfl (lv_at hl 5 rfl) ?_
  refine lv_iload hx hb dL_law_419 (lv_at hl 1 rfl) ?_
  refine lv_iconst (v := 2) hx hb dL_law_421 (by decide) ?_
  refine lv_iadd hx hb dL_law_422 ?_
  refine lv_topi (fun y4 ey4 => ?_)
  obtain rfl : y4 = 2 := ey4.trans (by decide)
  refine va_sld hx hb hX hbl hbA hS (by unfold vp_in; decide) dL_law_423 ?_
  rw [show xs (Int32.toNatClampNeg 2) = v2 from hx2]
  have hPc := hP.sub (ws' := [(m0, .inr (9, [.int 0, .ref m1, .ref m2, .ref m3, .int 0, .int 0, .int 0]))]) [0] rfl
  have hDc := hD.sub (ws' := [(m0, .inr (9, [.int 0, .ref m1, .ref m2, .ref m3, .int 0, .int 0, .int 0]))]) [0] (by decide) rfl
  have hKc := hK.sub (tys' := []) [] rfl
  have hFc := va_free (wc := [(m0, .inr (9, [.int 0, .ref m1, .ref m2, .ref m3, .int 0, .int 0, .int 0]))]) hD hS hA [0] rfl
  refine va_calli (va_runV (As := [.int v1, .int v2]) (rest := []) ⟨hx, hb, hml, hown, hts⟩ (kx_X5_copy_4 l dC dI m0 m1 m2 m3 H.size v1 v1_l v1_u v2 v2_l v2_u) (cwV 2 hts gL_law_X5_copy rfl rfl rfl (by decide +kernel) ⟨Nat.le_of_ble_eq_true rfl, Nat.le_of_ble_eq_true rfl⟩) ⟨fun a U g mk q => by obtain ⟨q0, q1, qP, qK, qD⟩ := q; exact ⟨q0, q1, qP, va_K.moved (u := U) (U := U.calling g mk a) (Vm.Alike.refl U.vm) qK, qD⟩, va_recv hKc hPc (ci := 9) (q0 := 0) rfl rfl, fun U hU hW => ⟨rfl, by rw [hU], by rw [hU]; exact hPc, va_K.moved hW.alike hKc, hDc.weaken (fun _ _ _ _ => trivial)⟩⟩ rfl rfl hl.1 rfl (lv_room (Nat.le_of_ble_eq_true rfl)) dL_law_424 ⟨Nat.le_of_ble_eq_true rfl, Nat.le_of_ble_eq_true rfl⟩) hS (fun q _ h => hFc q h) hFc (fun r9 u t H1 locs ht hvm hw hB hz1 hk1 hS => ?_)
  obtain rfl := hw
  obtain ⟨hP1, hK1, hD1⟩ := hB
  rw [ht] at hP1
  have hK1 := va_K.moved hvm.symm hK1
  obtain ⟨hP, hD⟩ := va_join (wr := [(x0, .inr (7, [.ref x1, .ref x2, .ref x45, .ref x53, .ref x55, .ref x57, .int 0, .int 0, .int 0]))]) (w1 := [(m0, .inr (9, [.int 1, .ref m1, .ref m2, .ref m3, .int 0, .int 0, .int 0]))]) hP hD [0] [1] rfl rfl (by decide) (by decide) hk1 hFc hP1 hD1
  generalize H1 = H at hP hS ⊢
  have hP : va_P (dC, dI) vwCl [(x0, .inr (7, [.ref x1, .ref x2, .ref x45, .ref x53, .ref x55, .ref x57, .int 0, .int 0, .int 0])), (m0, .inr (9, [.int 1, .ref m1, .ref m2, .ref m3, .int 0, .int 0, .int 0]))] H := hP
  have hD : va_D A [(x0, .inr (7, [.ref x1, .ref x2, .ref x45, .ref x53, .ref x55, .ref x57, .int 0, .int 0, .int 0])), (m0, .inr (9, [.int 1, .ref m1, .ref m2, .ref m3, .int 0, .int 0, .int 0]))] := hD
  refine lv_istore (lv' := [(6, .int 0), (5, .int 1), (4, .int 0), (3, .ref o0), (2, .ref m0), (1, .ref x0), (0, .ref b)]) hx hb dL_law_427 hl (by decide) rfl (fun ls hl => ?_)
  refine lv_aload_n hx hb dL_law_429 rfl (lv_at hl 4 rfl) ?_
  have hPc := hP.sub (ws' := [(m0, .inr (9, [.int 1, .ref m1, .ref m2, .ref m3, .int 0, .int 0, .int 0]))]) [1] rfl
  have hDc := hD.sub (ws' := [(m0, .inr (9, [.int 1, .ref m1, .ref m2, .ref m3, .int 0, .int 0, .int 0]))]) [1] (by decide) rfl
  have hKc := hK.sub (tys' := []) [] rfl
  have hFc := va_free (wc := [(m0, .inr (9, [.int 1, .ref m1, .ref m2, .ref m3, .int 0, .int 0, .int 0]))]) hD hS hA [1] rfl
  refine va_calli (va_runV (As := []) (rest := []) ⟨hx, hb, hml, hown, hts⟩ (kx_X5_thrown_0 l dC dI m0 m1 m2 m3 H.size) (cwV 0 hts gL_law_X5_thrown rfl rfl rfl (by decide +kernel) ⟨Nat.le_of_ble_eq_true rfl, Nat.le_of_ble_eq_true rfl⟩) ⟨fun a U g mk q => by obtain ⟨q0, q1, qP, qK, qD⟩ := q; exact ⟨q0, q1, qP, va_K.moved (u := U) (U := U.calling g mk a) (Vm.Alike.refl U.vm) qK, qD⟩, va_recv hKc hPc (ci := 9) (q0 := 0) rfl rfl, fun U hU hW => ⟨rfl, by rw [hU], by rw [hU]; exact hPc, va_K.moved hW.alike hKc, hDc.weaken (fun _ _ _ _ => trivial)⟩⟩ rfl rfl hl.1 rfl (lv_room (Nat.le_of_ble_eq_true rfl)) dL_law_430 ⟨Nat.le_of_ble_eq_true rfl, Nat.le_of_ble_eq_true rfl⟩) hS (fun q _ h => hFc q h) hFc (fun r9 u t H1 locs ht hvm hw hB hz1 hk1 hS => ?_)
  obtain rfl := hw
  obtain ⟨hP1, hK1, hD1⟩ := hB
  rw [ht] at hP1
  have hK1 := va_K.moved hvm.symm hK1
  obtain ⟨hP, hD⟩ := va_join (wr := [(x0, .inr (7, [.ref x1, .ref x2, .ref x45, .ref x53, .ref x55, .ref x57, .int 0, .int 0, .int 0]))]) (w1 := [(m0, .inr (9, [.int 1, .ref m1, .ref m2, .ref m3, .int 0, .int 0, .int 0]))]) hP hD [1] [0] rfl rfl (by decide) (by decide) hk1 hFc hP1 hD1
  generalize H1 = H at hP hS ⊢
  have hP : va_P (dC, dI) vwCl [(x0, .inr (7, [.ref x1, .ref x2, .ref x45, .ref x53, .ref x55, .ref x57, .int 0, .int 0, .int 0])), (m0, .inr (9, [.int 1, .ref m1, .ref m2, .ref m3, .int 0, .int 0, .int 0]))] H := hP
  have hD : va_D A [(x0, .inr (7, [.ref x1, .ref x2, .ref x45, .ref x53, .ref x55, .ref x57, .int 0, .int 0, .int 0])), (m0, .inr (9, [.int 1, .ref m1, .ref m2, .ref m3, .int 0, .int 0, .int 0]))] := hD
  refine lv_iload hx hb dL_law_433 (lv_at hl 1 rfl) ?_
  refine lv_icmp_eq (tgt := 440) hx hb dL_law_435 (by decide) (fun _ => ?_) (fun c9 => absurd (by decide) c9)
  refine lv_iload hx hb dL_law_440 (lv_at hl 1 rfl) ?_
  refine lv_if_ne (tgt := 458) hx hb dL_law_442 (by decide) (fun _ => ?_) (fun c9 => absurd c9 (by decide))
  refine lv_goto (tgt := 2342) hx hb dL_law_458 (by decide) ?_
  refine lv_iinc (v := 7) (lv' := [(4, .int 7), (6, .int 0), (5, .int 1), (3, .ref o0), (2, .ref m0), (1, .ref x0), (0, .ref b)]) hx hb dL_law_2342 hl (k := 2) rfl (by decide) (by decide) rfl (fun ls hl => ?_)
  refine lv_goto (tgt := 27) hx hb dL_law_2345 (by decide) ?_
  refine lv_iload hx hb dL_law_27 (lv_at hl 0 rfl) ?_
  refine lv_aload_n hx hb dL_law_29 rfl (lv_at hl 6 rfl) ?_
  refine va_slen hx hb hX hbl hbA hS dL_law_30 ?_
  refine lv_topi (fun y5 ey5 => ?_)
  obtain rfl : y5 = 7 := ey5.trans (by decide)
  refine lv_bipush (v := 7) hx hb dL_law_31 (by decide) ?_
  refine lv_isub hx hb dL_law_33 ?_
  refine lv_topi (fun y6 ey6 => ?_)
  obtain rfl : y6 = 0 := ey6.trans (by decide)
  refine lv_icmp_gt (tgt := 2348) hx hb dL_law_34 (by decide) (fun _ => ?_) (fun c9 => absurd (by decide) c9)
  refine lv_iconst (v := 1) hx hb dL_law_2348 (by decide) ?_
  refine va_forget (fun q hq => (by have h := hS.2.2 q hq; rw [hAe] at h; exact h)) ?_
  refine W.widen (k := 600002) (n := 7302232) (Nat.le_of_ble_eq_true rfl) (Nat.le_of_ble_eq_true rfl) ?_
  exact lw_ret hx hb hr hlocks dL_law_2349
set_option maxHeartbeats 4000000 in
set_option maxRecDepth 100000 in
theorem lc_lay_0 {p : Program} {e : Env} {s : State} {m : MethodId} {below : List Frame} {meth : Method} {c : Code} {l : Launch} (hst : l.stackTraces = false) {b : Nat} {xs : Nat → Int32} (C9 : lx_At p s m meth c b xs) {dC : Nat → ClassId} {dI : Nat → Nat → Nat} {ge5 gea gv5 gva gde gic gi0 : Nat} {x0 m0 x1 x2 x45 x53 x55 x57 m1 m2 m3 o0 : Nat} (hG : gv ge5 gea gv5 gva gde gic gi0 (fun q => s.heap.size ≤ q) s s.heap) {v1 : Int32} (v1_l : ((-2147483648) : Int) ≤ v1.toInt) (v1_u : v1.toInt ≤ ((-1) : Int)) {v2 : Int32} (v2_l : ((-2147483648) : Int) ≤ v2.toInt) (v2_u : v2.toInt ≤ (2147483647 : Int)) {v3 : Int32} (v3_l : ((-2147483648) : Int) ≤ v3.toInt) (v3_u : v3.toInt ≤ (2147483647 : Int)) (hx1 : xs 1 = v1) (hx2 : xs 2 = v2) (hx3 : xs 3 = v3) {H : Heap} {locs : List Loc} (hK : va_K (dC, dI) vwCl [] s) (hP : va_P (dC, dI) vwCl [(x0, .inr (7, [.ref x1, .ref x2, .ref x45, .ref x53, .ref x55, .ref x57, .int 0, .int 0, .int 0])), (m0, .inr (9, [.int 0, .ref m1, .ref m2, .ref m3, .int 0, .int 0, .int 0]))] H) (hD : va_D (fun q => s.heap.size ≤ q) [(x0, .inr (7, [.ref x1, .ref x2, .ref x45, .ref x53, .ref x55, .ref x57, .int 0, .int 0, .int 0])), (m0, .inr (9, [.int 0, .ref m1, .ref m2, .ref m3, .int 0, .int 0, .int 0]))]) (hS : va_S (fun q => s.heap.size ≤ q) s.heap H locs) {ls : Array Slot} (hl : lv_has ls 7 [(4, .int 0), (3, .ref o0), (2, .ref m0), (1, .ref x0), (0, .ref b)]) : W p l e room_1 s m #[Value.ref b] below meth c H locs 72 2748 (lw_Z below #[Value.ref b] s) (F0 m 461 ls []) := by
  obtain ⟨hx, hb, hr, hml, hown, hts, hX, hbl, hlocks⟩ := id C9
  have hA : ∀ q : Nat, s.heap.size ≤ q → (fun q : Nat => s.heap.size ≤ q) q := fun _ h => h
  have hbA : ¬ (fun q : Nat => s.heap.size ≤ q) b := Nat.not_le.mpr hbl
  obtain ⟨A, hAe⟩ : ∃ A : Nat → Prop, A = (fun q : Nat => s.heap.size ≤ q) := ⟨_, rfl⟩
  rw [← hAe] at hG hD hS hA hbA
  obtain ⟨⟨g_AO_Text, g_AO_String, g_AO_Object, g_nm_RX1_20, g_nm_RX0_17, g_nm_RX3_31, g_nm_RX2_44, g_nm_RL_121, g_nf_RL_13, g_nf_RL_47, g_ca_IO, g_ca_IA, g_ca_IS, g_ca_IntObj, g_ca_StrObj, g_de_RT, g_de_EX, g_de_TH, g_nc_IA_IO, g_nc_IS_IO, g_nc_IS_IA⟩, ⟨g_s3, g_s5, g_sa, g_x278, g_x280, g_x282, g_x284, g_x286, g_x180, g_x238, g_x250⟩, ⟨g_o5, g_c5, g_v5, g_t5, g_oa, g_ca, g_va, g_ta, g_zc, g_zd, g_td, g_zf, g_zU, g_zN, g_zh, g_zk, g_tk, g_oi, g_vi⟩⟩ := id hG
  refine lv_aload_n hx hb dL_law_461 rfl (lv_at hl 3 rfl) ?_
  refine lv_aload_n hx hb dL_law_462 rfl (lv_at hl 4 rfl) ?_
  refine lv_iload hx hb dL_law_463 (lv_at hl 0 rfl) ?_
  refine lv_iconst (v := 1) hx hb dL_law_465 (by decide) ?_
  refine lv_iadd hx hb dL_law_466 ?_
  refine lv_topi (fun y1 ey1 => ?_)
  obtain rfl : y1 = 1 := ey1.trans (by decide)
  refine va_sld hx hb hX hbl hbA hS (by unfold vp_in; decide) dL_law_467 ?_
  rw [show xs (Int32.toNatClampNeg 1) = v1 from hx1]
  refine lv_aload_n hx hb dL_law_468 rfl (lv_at hl 4 rfl) ?_
  refine lv_iload hx hb dL_law_469 (lv_at hl 0 rfl) ?_
  refine lv_iconst (v := 2) hx hb dL_law_471 (by decide) ?_
  refine lv_iadd hx hb dL_law_472 ?_
  refine lv_topi (fun y2 ey2 => ?_)
  obtain rfl : y2 = 2 := ey2.trans (by decide)
  refine va_sld hx hb hX hbl hbA hS (by unfold vp_in; decide) dL_law_473 ?_
  rw [show xs (Int32.toNatClampNeg 2) = v2 from hx2]
  refine lv_aload_n hx hb dL_law_474 rfl (lv_at hl 4 rfl) ?_
  refine lv_iload hx hb dL_law_475 (lv_at hl 0 rfl) ?_
  refine lv_iconst (v := 3) hx hb dL_law_477 (by decide) ?_
  refine lv_iadd hx hb dL_law_478 ?_
  refine lv_topi (fun y3 ey3 => ?_)
  obtain rfl : y3 = 3 := ey3.trans (by decide)
  refine va_sld hx hb hX hbl hbA hS (by unfold vp_in; decide) dL_law_479 ?_
  rw [show xs (Int32.toNatClampNeg 3) = v3 from hx3]
  refine lv_aload_n hx hb dL_law_480 rfl (lv_at hl 1 rfl) ?_
  have hPc := hP.sub (ws' := [(x0, .inr (7, [.ref x1, .ref x2, .ref x45, .ref x53, .ref x55, .ref x57, .int 0, .int 0, .int 0]))]) [0] rfl
  have hDc := hD.sub (ws' := [(x0, .inr (7, [.ref x1, .ref x2, .ref x45, .ref x53, .ref x55, .ref x57, .int 0, .int 0, .int 0]))]) [0] (by decide) rfl
  have hKc := hK.sub (tys' := []) [] rfl
  have hFc := va_free (wc := [(x0, .inr (7, [.ref x1, .ref x2, .ref x45, .ref x53, .ref x55, .ref x57, .int 0, .int 0, .int 0]))]) hD hS hA [0] rfl
  refine va_calli (vx_runSW (As := [.ref x0, .int v1, .int v2, .int v3, .ref o0]) (rest := []) ⟨hx, hb, hml, hown, hts⟩ (kx_L_lay_0 l hst dC dI ge5 gea gv5 gva gde gic gi0 x0 o0 x1 x2 x45 x53 x55 x57 H.size v1 v1_l v1_u v2 v2_l v2_u v3 v3_l v3_u) (vx_cwSW 5 hts gL_law_L_lay rfl rfl rfl (by decide +kernel) ⟨Nat.le_of_ble_eq_true rfl, Nat.le_of_ble_eq_true rfl⟩) ⟨fun a U g mk q => by obtain ⟨q0, q1, qP, qK, qD, qG⟩ := q; exact ⟨q0, q1, qP, va_K.moved (u := U) (U := U.calling g mk a) (Vm.Alike.refl U.vm) qK, qD, gv.fb qG⟩, fun U hU hW => ⟨rfl, by rw [hU], by rw [hU]; exact hPc, va_K.moved hW.alike hKc, hDc.weaken (fun _ _ _ _ => trivial), gv.pass hW hU hS hFc hG⟩⟩ rfl rfl hl.1 rfl (lv_room (Nat.le_of_ble_eq_true rfl)) dL_law_481 ⟨Nat.le_of_ble_eq_true rfl, Nat.le_of_ble_eq_true rfl⟩) hS (fun q _ h => hFc q h) hFc (fun r9 u t H1 locs ht hvm hw hB hz1 hk1 hS => ?_)
  obtain rfl := hw
  obtain ⟨hP1, hK1, hD1⟩ := hB
  rw [ht] at hP1
  have hK1 := va_K.moved hvm.symm hK1
  obtain ⟨hP, hD⟩ := va_join (wr := [(m0, .inr (9, [.int 0, .ref m1, .ref m2, .ref m3, .int 0, .int 0, .int 0]))]) (w1 := [(x0, .inr (7, [.ref x1, .ref x2, .ref x45, .ref x53, .ref x55, .ref x57, .int 0, .int 0, .int 0]))]) hP hD [0] [1] rfl rfl (by decide) (by decide) hk1 hFc hP1 hD1
  generalize H1 = H at hP hS ⊢
  have hP : va_P (dC, dI) vwCl [(m0, .inr (9, [.int 0, .ref m1, .ref m2, .ref m3, .int 0, .int 0, .int 0])), (x0, .inr (7, [.ref x1, .ref x2, .ref x45, .ref x53, .ref x55, .ref x57, .int 0, .int 0, .int 0]))] H := hP
  have hD : va_D A [(m0, .inr (9, [.int 0, .ref m1, .ref m2, .ref m3, .int 0, .int 0, .int 0])), (x0, .inr (7, [.ref x1, .ref x2, .ref x45, .ref x53, .ref x55, .ref x57, .int 0, .int 0, .int 0]))] := hD
  refine W.widen (k := 73) (n := 2754) (by omega) (by omega) ?_
  refine lv_istore (lv' := [(5, .int 1), (4, .int 0), (3, .ref o0), (2, .ref m0), (1, .ref x0), (0, .ref b)]) hx hb dL_law_484 hl (by decide) rfl (fun ls hl => ?_)
  refine lv_aload_n hx hb dL_law_486 rfl (lv_at hl 3 rfl) ?_
  refine lv_aload_n hx hb dL_law_487 rfl (lv_at hl 5 rfl) ?_
  refine lv_iload hx hb dL_law_488 (lv_at hl 1 rfl) ?_
  refine lv_iconst (v := 1) hx hb dL_law_490 (by decide) ?_
  refine lv_iadd hx hb dL_law_491 ?_
  refine lv_topi (fun y4 ey4 => ?_)
  obtain rfl : y4 = 1 := ey4.trans (by decide)
  refine va_sld hx hb hX hbl hbA hS (by unfold vp_in; decide) dL_law_492 ?_
  rw [show xs (Int32.toNatClampNeg 1) = v1 from hx1]
  refine lv_aload_n hx hb dL_law_493 rfl (lv_at hl 5 rfl) ?_
  refine lv_iload hx hb dL_law_494 (lv_at hl 1 rfl) ?_
  refine lv_iconst (v := 2) hx hb dL_law_496 (by decide) ?_
  refine lv_iadd hx hb dL_law_497 ?_
  refine lv_topi (fun y5 ey5 => ?_)
  obtain rfl : y5 = 2 := ey5.trans (by decide)
  refine va_sld hx hb hX hbl hbA hS (by unfold vp_in; decide) dL_law_498 ?_
  rw [show xs (Int32.toNatClampNeg 2) = v2 from hx2]
  refine lv_aload_n hx hb dL_law_499 rfl (lv_at hl 5 rfl) ?_
  refine lv_iload hx hb dL_law_500 (lv_at hl 1 rfl) ?_
  refine lv_iconst (v := 3) hx hb dL_law_502 (by decide) ?_
  refine lv_iadd hx hb dL_law_503 ?_
  refine lv_topi (fun y6 ey6 => ?_)
  obtain rfl : y6 = 3 := ey6.trans (by decide)
  refine va_sld hx hb hX hbl hbA hS (by unfold vp_in; decide) dL_law_504 ?_
  rw [show xs (Int32.toNatClampNeg 3) = v3 from hx3]
  have hPc := hP.sub (ws' := [(m0, .inr (9, [.int 0, .ref m1, .ref m2, .ref m3, .int 0, .int 0, .int 0]))]) [0] rfl
  have hDc := hD.sub (ws' := [(m0, .inr (9, [.int 0, .ref m1, .ref m2, .ref m3, .int 0, .int 0, .int 0]))]) [0] (by decide) rfl
  have hKc := hK.sub (tys' := []) [] rfl
  have hFc := va_free (wc := [(m0, .inr (9, [.int 0, .ref m1, .ref m2, .ref m3, .int 0, .int 0, .int 0]))]) hD hS hA [0] rfl
  refine va_calli (va_runV (As := [.int v1, .int v2, .int v3]) (rest := []) ⟨hx, hb, hml, hown, hts⟩ (kx_X5_lay_0 l dC dI m0 m1 m2 m3 H.size v1 v1_l v1_u v2 v2_l v2_u v3 v3_l v3_u) (cwV 3 hts gL_law_X5_lay rfl rfl rfl (by decide +kernel) ⟨Nat.le_of_ble_eq_true rfl, Nat.le_of_ble_eq_true rfl⟩) ⟨fun a U g mk q => by obtain ⟨q0, q1, qP, qK, qD⟩ := q; exact ⟨q0, q1, qP, va_K.moved (u := U) (U := U.calling g mk a) (Vm.Alike.refl U.vm) qK, qD⟩, va_recv hKc hPc (ci := 9) (q0 := 0) rfl rfl, fun U hU hW => ⟨rfl, by rw [hU], by rw [hU]; exact hPc, va_K.moved hW.alike hKc, hDc.weaken (fun _ _ _ _ => trivial)⟩⟩ rfl rfl hl.1 rfl (lv_room (Nat.le_of_ble_eq_true rfl)) dL_law_505 ⟨Nat.le_of_ble_eq_true rfl, Nat.le_of_ble_eq_true rfl⟩) hS (fun q _ h => hFc q h) hFc (fun r9 u t H1 locs ht hvm hw hB hz1 hk1 hS => ?_)
  obtain rfl := hw
  obtain ⟨hP1, hK1, hD1⟩ := hB
  rw [ht] at hP1
  have hK1 := va_K.moved hvm.symm hK1
  obtain ⟨hP, hD⟩ := va_join (wr := [(x0, .inr (7, [.ref x1, .ref x2, .ref x45, .ref x53, .ref x55, .ref x57, .int 0, .int 0, .int 0]))]) (w1 := [(m0, .inr (9, [.int 1, .ref m1, .ref m2, .ref m3, .int 0, .int 0, .int 0]))]) hP hD [0] [1] rfl rfl (by decide) (by decide) hk1 hFc hP1 hD1
  generalize H1 = H at hP hS ⊢
  have hP : va_P (dC, dI) vwCl [(x0, .inr (7, [.ref x1, .ref x2, .ref x45, .ref x53, .ref x55, .ref x57, .int 0, .int 0, .int 0])), (m0, .inr (9, [.int 1, .ref m1, .ref m2, .ref m3, .int 0, .int 0, .int 0]))] H := hP
  have hD : va_D A [(x0, .inr (7, [.ref x1, .ref x2, .ref x45, .ref x53, .ref x55, .ref x57, .int 0, .int 0, .int 0])), (m0, .inr (9, [.int 1, .ref m1, .ref m2, .ref m3, .int 0, .int 0, .int 0]))] := hD
  refine lv_istore (lv' := [(6, .int 0), (5, .int 1), (4, .int 0), (3, .ref o0), (2, .ref m0), (1, .ref x0), (0, .ref b)]) hx hb dL_law_508 hl (by decide) rfl (fun ls hl => ?_)
  refine lv_aload_n hx hb dL_law_510 rfl (lv_at hl 4 rfl) ?_
  have hPc := hP.sub (ws' := [(m0, .inr (9, [.int 1, .ref m1, .ref m2, .ref m3, .int 0, .int 0, .int 0]))]) [1] rfl
  have hDc := hD.sub (ws' := [(m0, .inr (9, [.int 1, .ref m1, .ref m2, .ref m3, .int 0, .int 0, .int 0]))]) [1] (by decide) rfl
  have hKc := hK.sub (tys' := []) [] rfl
  have hFc := va_free (wc := [(m0, .inr (9, [.int 1, .ref m1, .ref m2, .ref m3, .int 0, .int 0, .int 0]))]) hD hS hA [1] rfl
  refine va_calli (va_runV (As := []) (rest := []) ⟨hx, hb, hml, hown, hts⟩ (kx_X5_thrown_0 l dC dI m0 m1 m2 m3 H.size) (cwV 0 hts gL_law_X5_thrown rfl rfl rfl (by decide +kernel) ⟨Nat.le_of_ble_eq_true rfl, Nat.le_of_ble_eq_true rfl⟩) ⟨fun a U g mk q => by obtain ⟨q0, q1, qP, qK, qD⟩ := q; exact ⟨q0, q1, qP, va_K.moved (u := U) (U := U.calling g mk a) (Vm.Alike.refl U.vm) qK, qD⟩, va_recv hKc hPc (ci := 9) (q0 := 0) rfl rfl, fun U hU hW => ⟨rfl, by rw [hU], by rw [hU]; exact hPc, va_K.moved hW.alike hKc, hDc.weaken (fun _ _ _ _ => trivial)⟩⟩ rfl rfl hl.1 rfl (lv_room (Nat.le_of_ble_eq_true rfl)) dL_law_511 ⟨Nat.le_of_ble_eq_true rfl, Nat.le_of_ble_eq_true rfl⟩) hS (fun q _ h => hFc q h) hFc (fun r9 u t H1 locs ht hvm hw hB hz1 hk1 hS => ?_)
  obtain rfl := hw
  obtain ⟨hP1, hK1, hD1⟩ := hB
  rw [ht] at hP1
  have hK1 := va_K.moved hvm.symm hK1
  obtain ⟨hP, hD⟩ := va_join (wr := [(x0, .inr (7, [.ref x1, .ref x2, .ref x45, .ref x53, .ref x55, .ref x57, .int 0, .int 0, .int 0]))]) (w1 := [(m0, .inr (9, [.int 1, .ref m1, .ref m2, .ref m3, .int 0, .int 0, .int 0]))]) hP hD [1] [0] rfl rfl (by decide) (by decide) hk1 hFc hP1 hD1
  generalize H1 = H at hP hS ⊢
  have hP : va_P (dC, dI) vwCl [(x0, .inr (7, [.ref x1, .ref x2, .ref x45, .ref x53, .ref x55, .ref x57, .int 0, .int 0, .int 0])), (m0, .inr (9, [.int 1, .ref m1, .ref m2, .ref m3, .int 0, .int 0, .int 0]))] H := hP
  have hD : va_D A [(x0, .inr (7, [.ref x1, .ref x2, .ref x45, .ref x53, .ref x55, .ref x57, .int 0, .int 0, .int 0])), (m0, .inr (9, [.int 1, .ref m1, .ref m2, .ref m3, .int 0, .int 0, .int 0]))] := hD
  refine lv_iload hx hb dL_law_514 (lv_at hl 1 rfl) ?_
  refine lv_icmp_eq (tgt := 521) hx hb dL_law_516 (by decide) (fun _ => ?_) (fun c9 => absurd (by decide) c9)
  refine lv_iload hx hb dL_law_521 (lv_at hl 1 rfl) ?_
  refine lv_if_ne (tgt := 539) hx hb dL_law_523 (by decide) (fun _ => ?_) (fun c9 => absurd c9 (by decide))
  refine lv_goto (tgt := 2342) hx hb dL_law_539 (by decide) ?_
  refine lv_iinc (v := 7) (lv' := [(4, .int 7), (6, .int 0), (5, .int 1), (3, .ref o0), (2, .ref m0), (1, .ref x0), (0, .ref b)]) hx hb dL_law_2342 hl (k := 2) rfl (by decide) (by decide) rfl (fun ls hl => ?_)
  refine lv_goto (tgt := 27) hx hb dL_law_2345 (by decide) ?_
  refine lv_iload hx hb dL_law_27 (lv_at hl 0 rfl) ?_
  refine lv_aload_n hx hb dL_law_29 rfl (lv_at hl 6 rfl) ?_
  refine va_slen hx hb hX hbl hbA hS dL_law_30 ?_
  refine lv_topi (fun y7 ey7 => ?_)
  obtain rfl : y7 = 7 := ey7.trans (by decide)
  refine lv_bipush (v := 7) hx hb dL_law_31 (by decide) ?_
  refine lv_isub hx hb dL_law_33 ?_
  refine lv_topi (fun y8 ey8 => ?_)
  obtain rfl : y8 = 0 := ey8.trans (by decide)
  refine lv_icmp_gt (tgt := 2348) hx hb dL_law_34 (by decide) (fun _ => ?_) (fun c9 => absurd (by decide) c9)
  refine lv_iconst (v := 1) hx hb dL_law_2348 (by decide) ?_
  refine va_forget (fun q hq => (by have h := hS.2.2 q hq; rw [hAe] at h; exact h)) ?_
  refine W.widen (k := 600002) (n := 7302232) (Nat.le_of_ble_eq_true rfl) (Nat.le_of_ble_eq_true rfl) ?_
  exact lw_ret hx hb hr hlocks dL_law_2349
set_option maxHeartbeats 4000000 in
set_option maxRecDepth 100000 in
theorem lc_lay_1 {p : Program} {e : Env} {s : State} {m : MethodId} {below : List Frame} {meth : Method} {c : Code} {l : Launch} (hst : l.stackTraces = false) {b : Nat} {xs : Nat → Int32} (C9 : lx_At p s m meth c b xs) {dC : Nat → ClassId} {dI : Nat → Nat → Nat} {ge5 gea gv5 gva gde gic gi0 : Nat} {x0 m0 x1 x2 x45 x53 x55 x57 m1 m2 m3 o0 : Nat} (hG : gv ge5 gea gv5 gva gde gic gi0 (fun q => s.heap.size ≤ q) s s.heap) {v1 : Int32} (v1_l : (4 : Int) ≤ v1.toInt) (v1_u : v1.toInt ≤ (2147483647 : Int)) {v2 : Int32} (v2_l : ((-2147483648) : Int) ≤ v2.toInt) (v2_u : v2.toInt ≤ (2147483647 : Int)) {v3 : Int32} (v3_l : ((-2147483648) : Int) ≤ v3.toInt) (v3_u : v3.toInt ≤ (2147483647 : Int)) (hx1 : xs 1 = v1) (hx2 : xs 2 = v2) (hx3 : xs 3 = v3) {H : Heap} {locs : List Loc} (hK : va_K (dC, dI) vwCl [] s) (hP : va_P (dC, dI) vwCl [(x0, .inr (7, [.ref x1, .ref x2, .ref x45, .ref x53, .ref x55, .ref x57, .int 0, .int 0, .int 0])), (m0, .inr (9, [.int 0, .ref m1, .ref m2, .ref m3, .int 0, .int 0, .int 0]))] H) (hD : va_D (fun q => s.heap.size ≤ q) [(x0, .inr (7, [.ref x1, .ref x2, .ref x45, .ref x53, .ref x55, .ref x57, .int 0, .int 0, .int 0])), (m0, .inr (9, [.int 0, .ref m1, .ref m2, .ref m3, .int 0, .int 0, .int 0]))]) (hS : va_S (fun q => s.heap.size ≤ q) s.heap H locs) {ls : Array Slot} (hl : lv_has ls 7 [(4, .int 0), (3, .ref o0), (2, .ref m0), (1, .ref x0), (0, .ref b)]) : W p l e room_1 s m #[Value.ref b] below meth c H locs 72 2748 (lw_Z below #[Value.ref b] s) (F0 m 461 ls []) := by
  obtain ⟨hx, hb, hr, hml, hown, hts, hX, hbl, hlocks⟩ := id C9
  have hA : ∀ q : Nat, s.heap.size ≤ q → (fun q : Nat => s.heap.size ≤ q) q := fun _ h => h
  have hbA : ¬ (fun q : Nat => s.heap.size ≤ q) b := Nat.not_le.mpr hbl
  obtain ⟨A, hAe⟩ : ∃ A : Nat → Prop, A = (fun q : Nat => s.heap.size ≤ q) := ⟨_, rfl⟩
  rw [← hAe] at hG hD hS hA hbA
  obtain ⟨⟨g_AO_Text, g_AO_String, g_AO_Object, g_nm_RX1_20, g_nm_RX0_17, g_nm_RX3_31, g_nm_RX2_44, g_nm_RL_121, g_nf_RL_13, g_nf_RL_47, g_ca_IO, g_ca_IA, g_ca_IS, g_ca_IntObj, g_ca_StrObj, g_de_RT, g_de_EX, g_de_TH, g_nc_IA_IO, g_nc_IS_IO, g_nc_IS_IA⟩, ⟨g_s3, g_s5, g_sa, g_x278, g_x280, g_x282, g_x284, g_x286, g_x180, g_x238, g_x250⟩, ⟨g_o5, g_c5, g_v5, g_t5, g_oa, g_ca, g_va, g_ta, g_zc, g_zd, g_td, g_zf, g_zU, g_zN, g_zh, g_zk, g_tk, g_oi, g_vi⟩⟩ := id hG
  refine lv_aload_n hx hb dL_law_461 rfl (lv_at hl 3 rfl) ?_
  refine lv_aload_n hx hb dL_law_462 rfl (lv_at hl 4 rfl) ?_
  refine lv_iload hx hb dL_law_463 (lv_at hl 0 rfl) ?_
  refine lv_iconst (v := 1) hx hb dL_law_465 (by decide) ?_
  refine lv_iadd hx hb dL_law_466 ?_
  refine lv_topi (fun y1 ey1 => ?_)
  obtain rfl : y1 = 1 := ey1.trans (by decide)
  refine va_sld hx hb hX hbl hbA hS (by unfold vp_in; decide) dL_law_467 ?_
  rw [show xs (Int32.toNatClampNeg 1) = v1 from hx1]
  refine lv_aload_n hx hb dL_law_468 rfl (lv_at hl 4 rfl) ?_
  refine lv_iload hx hb dL_law_469 (lv_at hl 0 rfl) ?_
  refine lv_iconst (v := 2) hx hb dL_law_471 (by decide) ?_
  refine lv_iadd hx hb dL_law_472 ?_
  refine lv_topi (fun y2 ey2 => ?_)
  obtain rfl : y2 = 2 := ey2.trans (by decide)
  refine va_sld hx hb hX hbl hbA hS (by unfold vp_in; decide) dL_law_473 ?_
  rw [show xs (Int32.toNatClampNeg 2) = v2 from hx2]
  refine lv_aload_n hx hb dL_law_474 rfl (lv_at hl 4 rfl) ?_
  refine lv_iload hx hb dL_law_475 (lv_at hl 0 rfl) ?_
  refine lv_iconst (v := 3) hx hb dL_law_477 (by decide) ?_
  refine lv_iadd hx hb dL_law_478 ?_
  refine lv_topi (fun y3 ey3 => ?_)
  obtain rfl : y3 = 3 := ey3.trans (by decide)
  refine va_sld hx hb hX hbl hbA hS (by unfold vp_in; decide) dL_law_479 ?_
  rw [show xs (Int32.toNatClampNeg 3) = v3 from hx3]
  refine lv_aload_n hx hb dL_law_480 rfl (lv_at hl 1 rfl) ?_
  have hPc := hP.sub (ws' := [(x0, .inr (7, [.ref x1, .ref x2, .ref x45, .ref x53, .ref x55, .ref x57, .int 0, .int 0, .int 0]))]) [0] rfl
  have hDc := hD.sub (ws' := [(x0, .inr (7, [.ref x1, .ref x2, .ref x45, .ref x53, .ref x55, .ref x57, .int 0, .int 0, .int 0]))]) [0] (by decide) rfl
  have hKc := hK.sub (tys' := []) [] rfl
  have hFc := va_free (wc := [(x0, .inr (7, [.ref x1, .ref x2, .ref x45, .ref x53, .ref x55, .ref x57, .int 0, .int 0, .int 0]))]) hD hS hA [0] rfl
  refine va_calli (vx_runSW (As := [.ref x0, .int v1, .int v2, .int v3, .ref o0]) (rest := []) ⟨hx, hb, hml, hown, hts⟩ (kx_L_lay_1 l hst dC dI ge5 gea gv5 gva gde gic gi0 x0 o0 x1 x2 x45 x53 x55 x57 H.size v1 v1_l v1_u v2 v2_l v2_u v3 v3_l v3_u) (vx_cwSW 5 hts gL_law_L_lay rfl rfl rfl (by decide +kernel) ⟨Nat.le_of_ble_eq_true rfl, Nat.le_of_ble_eq_true rfl⟩) ⟨fun a U g mk q => by obtain ⟨q0, q1, qP, qK, qD, qG⟩ := q; exact ⟨q0, q1, qP, va_K.moved (u := U) (U := U.calling g mk a) (Vm.Alike.refl U.vm) qK, qD, gv.fb qG⟩, fun U hU hW => ⟨rfl, by rw [hU], by rw [hU]; exact hPc, va_K.moved hW.alike hKc, hDc.weaken (fun _ _ _ _ => trivial), gv.pass hW hU hS hFc hG⟩⟩ rfl rfl hl.1 rfl (lv_room (Nat.le_of_ble_eq_true rfl)) dL_law_481 ⟨Nat.le_of_ble_eq_true rfl, Nat.le_of_ble_eq_true rfl⟩) hS (fun q _ h => hFc q h) hFc (fun r9 u t H1 locs ht hvm hw hB hz1 hk1 hS => ?_)
  obtain rfl := hw
  obtain ⟨hP1, hK1, hD1⟩ := hB
  rw [ht] at hP1
  have hK1 := va_K.moved hvm.symm hK1
  obtain ⟨hP, hD⟩ := va_join (wr := [(m0, .inr (9, [.int 0, .ref m1, .ref m2, .ref m3, .int 0, .int 0, .int 0]))]) (w1 := [(x0, .inr (7, [.ref x1, .ref x2, .ref x45, .ref x53, .ref x55, .ref x57, .int 0, .int 0, .int 0]))]) hP hD [0] [1] rfl rfl (by decide) (by decide) hk1 hFc hP1 hD1
  generalize H1 = H at hP hS ⊢
  have hP : va_P (dC, dI) vwCl [(m0, .inr (9, [.int 0, .ref m1, .ref m2, .ref m3, .int 0, .int 0, .int 0])), (x0, .inr (7, [.ref x1, .ref x2, .ref x45, .ref x53, .ref x55, .ref x57, .int 0, .int 0, .int 0]))] H := hP
  have hD : va_D A [(m0, .inr (9, [.int 0, .ref m1, .ref m2, .ref m3, .int 0, .int 0, .int 0])), (x0, .inr (7, [.ref x1, .ref x2, .ref x45, .ref x53, .ref x55, .ref x57, .int 0, .int 0, .int 0]))] := hD
  refine W.widen (k := 73) (n := 2754) (by omega) (by omega) ?_
  refine lv_istore (lv' := [(5, .int 1), (4, .int 0), (3, .ref o0), (2, .ref m0), (1, .ref x0), (0, .ref b)]) hx hb dL_law_484 hl (by decide) rfl (fun ls hl => ?_)
  refine lv_aload_n hx hb dL_law_486 rfl (lv_at hl 3 rfl) ?_
  refine lv_aload_n hx hb dL_law_487 rfl (lv_at hl 5 rfl) ?_
  refine lv_iload hx hb dL_law_488 (lv_at hl 1 rfl) ?_
  refine lv_iconst (v := 1) hx hb dL_law_490 (by decide) ?_
  refine lv_iadd hx hb dL_law_491 ?_
  refine lv_topi (fun y4 ey4 => ?_)
  obtain rfl : y4 = 1 := ey4.trans (by decide)
  refine va_sld hx hb hX hbl hbA hS (by unfold vp_in; decide) dL_law_492 ?_
  rw [show xs (Int32.toNatClampNeg 1) = v1 from hx1]
  refine lv_aload_n hx hb dL_law_493 rfl (lv_at hl 5 rfl) ?_
  refine lv_iload hx hb dL_law_494 (lv_at hl 1 rfl) ?_
  refine lv_iconst (v := 2) hx hb dL_law_496 (by decide) ?_
  refine lv_iadd hx hb dL_law_497 ?_
  refine lv_topi (fun y5 ey5 => ?_)
  obtain rfl : y5 = 2 := ey5.trans (by decide)
  refine va_sld hx hb hX hbl hbA hS (by unfold vp_in; decide) dL_law_498 ?_
  rw [show xs (Int32.toNatClampNeg 2) = v2 from hx2]
  refine lv_aload_n hx hb dL_law_499 rfl (lv_at hl 5 rfl) ?_
  refine lv_iload hx hb dL_law_500 (lv_at hl 1 rfl) ?_
  refine lv_iconst (v := 3) hx hb dL_law_502 (by decide) ?_
  refine lv_iadd hx hb dL_law_503 ?_
  refine lv_topi (fun y6 ey6 => ?_)
  obtain rfl : y6 = 3 := ey6.trans (by decide)
  refine va_sld hx hb hX hbl hbA hS (by unfold vp_in; decide) dL_law_504 ?_
  rw [show xs (Int32.toNatClampNeg 3) = v3 from hx3]
  have hPc := hP.sub (ws' := [(m0, .inr (9, [.int 0, .ref m1, .ref m2, .ref m3, .int 0, .int 0, .int 0]))]) [0] rfl
  have hDc := hD.sub (ws' := [(m0, .inr (9, [.int 0, .ref m1, .ref m2, .ref m3, .int 0, .int 0, .int 0]))]) [0] (by decide) rfl
  have hKc := hK.sub (tys' := []) [] rfl
  have hFc := va_free (wc := [(m0, .inr (9, [.int 0, .ref m1, .ref m2, .ref m3, .int 0, .int 0, .int 0]))]) hD hS hA [0] rfl
  refine va_calli (va_runV (As := [.int v1, .int v2, .int v3]) (rest := []) ⟨hx, hb, hml, hown, hts⟩ (kx_X5_lay_1 l dC dI m0 m1 m2 m3 H.size v1 v1_l v1_u v2 v2_l v2_u v3 v3_l v3_u) (cwV 3 hts gL_law_X5_lay rfl rfl rfl (by decide +kernel) ⟨Nat.le_of_ble_eq_true rfl, Nat.le_of_ble_eq_true rfl⟩) ⟨fun a U g mk q => by obtain ⟨q0, q1, qP, qK, qD⟩ := q; exact ⟨q0, q1, qP, va_K.moved (u := U) (U := U.calling g mk a) (Vm.Alike.refl U.vm) qK, qD⟩, va_recv hKc hPc (ci := 9) (q0 := 0) rfl rfl, fun U hU hW => ⟨rfl, by rw [hU], by rw [hU]; exact hPc, va_K.moved hW.alike hKc, hDc.weaken (fun _ _ _ _ => trivial)⟩⟩ rfl rfl hl.1 rfl (lv_room (Nat.le_of_ble_eq_true rfl)) dL_law_505 ⟨Nat.le_of_ble_eq_true rfl, Nat.le_of_ble_eq_true rfl⟩) hS (fun q _ h => hFc q h) hFc (fun r9 u t H1 locs ht hvm hw hB hz1 hk1 hS => ?_)
  obtain rfl := hw
  obtain ⟨hP1, hK1, hD1⟩ := hB
  rw [ht] at hP1
  have hK1 := va_K.moved hvm.symm hK1
  obtain ⟨hP, hD⟩ := va_join (wr := [(x0, .inr (7, [.ref x1, .ref x2, .ref x45, .ref x53, .ref x55, .ref x57, .int 0, .int 0, .int 0]))]) (w1 := [(m0, .inr (9, [.int 1, .ref m1, .ref m2, .ref m3, .int 0, .int 0, .int 0]))]) hP hD [0] [1] rfl rfl (by decide) (by decide) hk1 hFc hP1 hD1
  generalize H1 = H at hP hS ⊢
  have hP : va_P (dC, dI) vwCl [(x0, .inr (7, [.ref x1, .ref x2, .ref x45, .ref x53, .ref x55, .ref x57, .int 0, .int 0, .int 0])), (m0, .inr (9, [.int 1, .ref m1, .ref m2, .ref m3, .int 0, .int 0, .int 0]))] H := hP
  have hD : va_D A [(x0, .inr (7, [.ref x1, .ref x2, .ref x45, .ref x53, .ref x55, .ref x57, .int 0, .int 0, .int 0])), (m0, .inr (9, [.int 1, .ref m1, .ref m2, .ref m3, .int 0, .int 0, .int 0]))] := hD
  refine lv_istore (lv' := [(6, .int 0), (5, .int 1), (4, .int 0), (3, .ref o0), (2, .ref m0), (1, .ref x0), (0, .ref b)]) hx hb dL_law_508 hl (by decide) rfl (fun ls hl => ?_)
  refine lv_aload_n hx hb dL_law_510 rfl (lv_at hl 4 rfl) ?_
  have hPc := hP.sub (ws' := [(m0, .inr (9, [.int 1, .ref m1, .ref m2, .ref m3, .int 0, .int 0, .int 0]))]) [1] rfl
  have hDc := hD.sub (ws' := [(m0, .inr (9, [.int 1, .ref m1, .ref m2, .ref m3, .int 0, .int 0, .int 0]))]) [1] (by decide) rfl
  have hKc := hK.sub (tys' := []) [] rfl
  have hFc := va_free (wc := [(m0, .inr (9, [.int 1, .ref m1, .ref m2, .ref m3, .int 0, .int 0, .int 0]))]) hD hS hA [1] rfl
  refine va_calli (va_runV (As := []) (rest := []) ⟨hx, hb, hml, hown, hts⟩ (kx_X5_thrown_0 l dC dI m0 m1 m2 m3 H.size) (cwV 0 hts gL_law_X5_thrown rfl rfl rfl (by decide +kernel) ⟨Nat.le_of_ble_eq_true rfl, Nat.le_of_ble_eq_true rfl⟩) ⟨fun a U g mk q => by obtain ⟨q0, q1, qP, qK, qD⟩ := q; exact ⟨q0, q1, qP, va_K.moved (u := U) (U := U.calling g mk a) (Vm.Alike.refl U.vm) qK, qD⟩, va_recv hKc hPc (ci := 9) (q0 := 0) rfl rfl, fun U hU hW => ⟨rfl, by rw [hU], by rw [hU]; exact hPc, va_K.moved hW.alike hKc, hDc.weaken (fun _ _ _ _ => trivial)⟩⟩ rfl rfl hl.1 rfl (lv_room (Nat.le_of_ble_eq_true rfl)) dL_law_511 ⟨Nat.le_of_ble_eq_true rfl, Nat.le_of_ble_eq_true rfl⟩) hS (fun q _ h => hFc q h) hFc (fun r9 u t H1 locs ht hvm hw hB hz1 hk1 hS => ?_)
  obtain rfl := hw
  obtain ⟨hP1, hK1, hD1⟩ := hB
  rw [ht] at hP1
  have hK1 := va_K.moved hvm.symm hK1
  obtain ⟨hP, hD⟩ := va_join (wr := [(x0, .inr (7, [.ref x1, .ref x2, .ref x45, .ref x53, .ref x55, .ref x57, .int 0, .int 0, .int 0]))]) (w1 := [(m0, .inr (9, [.int 1, .ref m1, .ref m2, .ref m3, .int 0, .int 0, .int 0]))]) hP hD [1] [0] rfl rfl (by decide) (by decide) hk1 hFc hP1 hD1
  generalize H1 = H at hP hS ⊢
  have hP : va_P (dC, dI) vwCl [(x0, .inr (7, [.ref x1, .ref x2, .ref x45, .ref x53, .ref x55, .ref x57, .int 0, .int 0, .int 0])), (m0, .inr (9, [.int 1, .ref m1, .ref m2, .ref m3, .int 0, .int 0, .int 0]))] H := hP
  have hD : va_D A [(x0, .inr (7, [.ref x1, .ref x2, .ref x45, .ref x53, .ref x55, .ref x57, .int 0, .int 0, .int 0])), (m0, .inr (9, [.int 1, .ref m1, .ref m2, .ref m3, .int 0, .int 0, .int 0]))] := hD
  refine lv_iload hx hb dL_law_514 (lv_at hl 1 rfl) ?_
  refine lv_icmp_eq (tgt := 521) hx hb dL_law_516 (by decide) (fun _ => ?_) (fun c9 => absurd (by decide) c9)
  refine lv_iload hx hb dL_law_521 (lv_at hl 1 rfl) ?_
  refine lv_if_ne (tgt := 539) hx hb dL_law_523 (by decide) (fun _ => ?_) (fun c9 => absurd c9 (by decide))
  refine lv_goto (tgt := 2342) hx hb dL_law_539 (by decide) ?_
  refine lv_iinc (v := 7) (lv' := [(4, .int 7), (6, .int 0), (5, .int 1), (3, .ref o0), (2, .ref m0), (1, .ref x0), (0, .ref b)]) hx hb dL_law_2342 hl (k := 2) rfl (by decide) (by decide) rfl (fun ls hl => ?_)
  refine lv_goto (tgt := 27) hx hb dL_law_2345 (by decide) ?_
  refine lv_iload hx hb dL_law_27 (lv_at hl 0 rfl) ?_
  refine lv_aload_n hx hb dL_law_29 rfl (lv_at hl 6 rfl) ?_
  refine va_slen hx hb hX hbl hbA hS dL_law_30 ?_
  refine lv_topi (fun y7 ey7 => ?_)
  obtain rfl : y7 = 7 := ey7.trans (by decide)
  refine lv_bipush (v := 7) hx hb dL_law_31 (by decide) ?_
  refine lv_isub hx hb dL_law_33 ?_
  refine lv_topi (fun y8 ey8 => ?_)
  obtain rfl : y8 = 0 := ey8.trans (by decide)
  refine lv_icmp_gt (tgt := 2348) hx hb dL_law_34 (by decide) (fun _ => ?_) (fun c9 => absurd (by decide) c9)
  refine lv_iconst (v := 1) hx hb dL_law_2348 (by decide) ?_
  refine va_forget (fun q hq => (by have h := hS.2.2 q hq; rw [hAe] at h; exact h)) ?_
  refine W.widen (k := 600002) (n := 7302232) (Nat.le_of_ble_eq_true rfl) (Nat.le_of_ble_eq_true rfl) ?_
  exact lw_ret hx hb hr hlocks dL_law_2349
set_option maxHeartbeats 4000000 in
set_option maxRecDepth 100000 in
theorem lc_lay_2 {p : Program} {e : Env} {s : State} {m : MethodId} {below : List Frame} {meth : Method} {c : Code} {l : Launch} (hst : l.stackTraces = false) {b : Nat} {xs : Nat → Int32} (C9 : lx_At p s m meth c b xs) {dC : Nat → ClassId} {dI : Nat → Nat → Nat} {ge5 gea gv5 gva gde gic gi0 : Nat} {x0 m0 x1 x2 x45 x53 x55 x57 m1 m2 m3 o0 : Nat} (hG : gv ge5 gea gv5 gva gde gic gi0 (fun q => s.heap.size ≤ q) s s.heap) {v1 : Int32} (v1_l : (0 : Int) ≤ v1.toInt) (v1_u : v1.toInt ≤ (3 : Int)) {v2 : Int32} (v2_l : ((-2147483648) : Int) ≤ v2.toInt) (v2_u : v2.toInt ≤ (2147483647 : Int)) {v3 : Int32} (v3_l : ((-2147483648) : Int) ≤ v3.toInt) (v3_u : v3.toInt ≤ ((-1) : Int)) (hx1 : xs 1 = v1) (hx2 : xs 2 = v2) (hx3 : xs 3 = v3) {H : Heap} {locs : List Loc} (hK : va_K (dC, dI) vwCl [] s) (hP : va_P (dC, dI) vwCl [(x0, .inr (7, [.ref x1, .ref x2, .ref x45, .ref x53, .ref x55, .ref x57, .int 0, .int 0, .int 0])), (m0, .inr (9, [.int 0, .ref m1, .ref m2, .ref m3, .int 0, .int 0, .int 0]))] H) (hD : va_D (fun q => s.heap.size ≤ q) [(x0, .inr (7, [.ref x1, .ref x2, .ref x45, .ref x53, .ref x55, .ref x57, .int 0, .int 0, .int 0])), (m0, .inr (9, [.int 0, .ref m1, .ref m2, .ref m3, .int 0, .int 0, .int 0]))]) (hS : va_S (fun q => s.heap.size ≤ q) s.heap H locs) {ls : Array Slot} (hl : lv_has ls 7 [(4, .int 0), (3, .ref o0), (2, .ref m0), (1, .ref x0), (0, .ref b)]) : W p l e room_1 s m #[Value.ref b] below meth c H locs 72 2748 (lw_Z below #[Value.ref b] s) (F0 m 461 ls []) := by
  obtain ⟨hx, hb, hr, hml, hown, hts, hX, hbl, hlocks⟩ := id C9
  have hA : ∀ q : Nat, s.heap.size ≤ q → (fun q : Nat => s.heap.size ≤ q) q := fun _ h => h
  have hbA : ¬ (fun q : Nat => s.heap.size ≤ q) b := Nat.not_le.mpr hbl
  obtain ⟨A, hAe⟩ : ∃ A : Nat → Prop, A = (fun q : Nat => s.heap.size ≤ q) := ⟨_, rfl⟩
  rw [← hAe] at hG hD hS hA hbA
  obtain ⟨⟨g_AO_Text, g_AO_String, g_AO_Object, g_nm_RX1_20, g_nm_RX0_17, g_nm_RX3_31, g_nm_RX2_44, g_nm_RL_121, g_nf_RL_13, g_nf_RL_47, g_ca_IO, g_ca_IA, g_ca_IS, g_ca_IntObj, g_ca_StrObj, g_de_RT, g_de_EX, g_de_TH, g_nc_IA_IO, g_nc_IS_IO, g_nc_IS_IA⟩, ⟨g_s3, g_s5, g_sa, g_x278, g_x280, g_x282, g_x284, g_x286, g_x180, g_x238, g_x250⟩, ⟨g_o5, g_c5, g_v5, g_t5, g_oa, g_ca, g_va, g_ta, g_zc, g_zd, g_td, g_zf, g_zU, g_zN, g_zh, g_zk, g_tk, g_oi, g_vi⟩⟩ := id hG
  refine lv_aload_n hx hb dL_law_461 rfl (lv_at hl 3 rfl) ?_
  refine lv_aload_n hx hb dL_law_462 rfl (lv_at hl 4 rfl) ?_
  refine lv_iload hx hb dL_law_463 (lv_at hl 0 rfl) ?_
  refine lv_iconst (v := 1) hx hb dL_law_465 (by decide) ?_
  refine lv_iadd hx hb dL_law_466 ?_
  refine lv_topi (fun y1 ey1 => ?_)
  obtain rfl : y1 = 1 := ey1.trans (by decide)
  refine va_sld hx hb hX hbl hbA hS (by unfold vp_in; decide) dL_law_467 ?_
  rw [show xs (Int32.toNatClampNeg 1) = v1 from hx1]
  refine lv_aload_n hx hb dL_law_468 rfl (lv_at hl 4 rfl) ?_
  refine lv_iload hx hb dL_law_469 (lv_at hl 0 rfl) ?_
  refine lv_iconst (v := 2) hx hb dL_law_471 (by decide) ?_
  refine lv_iadd hx hb dL_law_472 ?_
  refine lv_topi (fun y2 ey2 => ?_)
  obtain rfl : y2 = 2 := ey2.trans (by decide)
  refine va_sld hx hb hX hbl hbA hS (by unfold vp_in; decide) dL_law_473 ?_
  rw [show xs (Int32.toNatClampNeg 2) = v2 from hx2]
  refine lv_aload_n hx hb dL_law_474 rfl (lv_at hl 4 rfl) ?_
  refine lv_iload hx hb dL_law_475 (lv_at hl 0 rfl) ?_
  refine lv_iconst (v := 3) hx hb dL_law_477 (by decide) ?_
  refine lv_iadd hx hb dL_law_478 ?_
  refine lv_topi (fun y3 ey3 => ?_)
  obtain rfl : y3 = 3 := ey3.trans (by decide)
  refine va_sld hx hb hX hbl hbA hS (by unfold vp_in; decide) dL_law_479 ?_
  rw [show xs (Int32.toNatClampNeg 3) = v3 from hx3]
  refine lv_aload_n hx hb dL_law_480 rfl (lv_at hl 1 rfl) ?_
  have hPc := hP.sub (ws' := [(x0, .inr (7, [.ref x1, .ref x2, .ref x45, .ref x53, .ref x55, .ref x57, .int 0, .int 0, .int 0]))]) [0] rfl
  have hDc := hD.sub (ws' := [(x0, .inr (7, [.ref x1, .ref x2, .ref x45, .ref x53, .ref x55, .ref x57, .int 0, .int 0, .int 0]))]) [0] (by decide) rfl
  have hKc := hK.sub (tys' := []) [] rfl
  have hFc := va_free (wc := [(x0, .inr (7, [.ref x1, .ref x2, .ref x45, .ref x53, .ref x55, .ref x57, .int 0, .int 0, .int 0]))]) hD hS hA [0] rfl
  refine va_calli (vx_runSW (As := [.ref x0, .int v1, .int v2, .int v3, .ref o0]) (rest := []) ⟨hx, hb, hml, hown, hts⟩ (kx_L_lay_2 l hst dC dI ge5 gea gv5 gva gde gic gi0 x0 o0 x1 x2 x45 x53 x55 x57 H.size v1 v1_l v1_u v2 v2_l v2_u v3 v3_l v3_u) (vx_cwSW 5 hts gL_law_L_lay rfl rfl rfl (by decide +kernel) ⟨Nat.le_of_ble_eq_true rfl, Nat.le_of_ble_eq_true rfl⟩) ⟨fun a U g mk q => by obtain ⟨q0, q1, qP, qK, qD, qG⟩ := q; exact ⟨q0, q1, qP, va_K.moved (u := U) (U := U.calling g mk a) (Vm.Alike.refl U.vm) qK, qD, gv.fb qG⟩, fun U hU hW => ⟨rfl, by rw [hU], by rw [hU]; exact hPc, va_K.moved hW.alike hKc, hDc.weaken (fun _ _ _ _ => trivial), gv.pass hW hU hS hFc hG⟩⟩ rfl rfl hl.1 rfl (lv_room (Nat.le_of_ble_eq_true rfl)) dL_law_481 ⟨Nat.le_of_ble_eq_true rfl, Nat.le_of_ble_eq_true rfl⟩) hS (fun q _ h => hFc q h) hFc (fun r9 u t H1 locs ht hvm hw hB hz1 hk1 hS => ?_)
  obtain rfl := hw
  obtain ⟨hP1, hK1, hD1⟩ := hB
  rw [ht] at hP1
  have hK1 := va_K.moved hvm.symm hK1
  obtain ⟨hP, hD⟩ := va_join (wr := [(m0, .inr (9, [.int 0, .ref m1, .ref m2, .ref m3, .int 0, .int 0, .int 0]))]) (w1 := [(x0, .inr (7, [.ref x1, .ref x2, .ref x45, .ref x53, .ref x55, .ref x57, .int 0, .int 0, .int 0]))]) hP hD [0] [1] rfl rfl (by decide) (by decide) hk1 hFc hP1 hD1
  generalize H1 = H at hP hS ⊢
  have hP : va_P (dC, dI) vwCl [(m0, .inr (9, [.int 0, .ref m1, .ref m2, .ref m3, .int 0, .int 0, .int 0])), (x0, .inr (7, [.ref x1, .ref x2, .ref x45, .ref x53, .ref x55, .ref x57, .int 0, .int 0, .int 0]))] H := hP
  have hD : va_D A [(m0, .inr (9, [.int 0, .ref m1, .ref m2, .ref m3, .int 0, .int 0, .int 0])), (x0, .inr (7, [.ref x1, .ref x2, .ref x45, .ref x53, .ref x55, .ref x57, .int 0, .int 0, .int 0]))] := hD
  refine W.widen (k := 73) (n := 2754) (by omega) (by omega) ?_
  refine lv_istore (lv' := [(5, .int 1), (4, .int 0), (3, .ref o0), (2, .ref m0), (1, .ref x0), (0, .ref b)]) hx hb dL_law_484 hl (by decide) rfl (fun ls hl => ?_)
  refine lv_aload_n hx hb dL_law_486 rfl (lv_at hl 3 rfl) ?_
  refine lv_aload_n hx hb dL_law_487 rfl (lv_at hl 5 rfl) ?_
  refine lv_iload hx hb dL_law_488 (lv_at hl 1 rfl) ?_
  refine lv_iconst (v := 1) hx hb dL_law_490 (by decide) ?_
  refine lv_iadd hx hb dL_law_491 ?_
  refine lv_topi (fun y4 ey4 => ?_)
  obtain rfl : y4 = 1 := ey4.trans (by decide)
  refine va_sld hx hb hX hbl hbA hS (by unfold vp_in; decide) dL_law_492 ?_
  rw [show xs (Int32.toNatClampNeg 1) = v1 from hx1]
  refine lv_aload_n hx hb dL_law_493 rfl (lv_at hl 5 rfl) ?_
  refine lv_iload hx hb dL_law_494 (lv_at hl 1 rfl) ?_
  refine lv_iconst (v := 2) hx hb dL_law_496 (by decide) ?_
  refine lv_iadd hx hb dL_law_497 ?_
  refine lv_topi (fun y5 ey5 => ?_)
  obtain rfl : y5 = 2 := ey5.trans (by decide)
  refine va_sld hx hb hX hbl hbA hS (by unfold vp_in; decide) dL_law_498 ?_
  rw [show xs (Int32.toNatClampNeg 2) = v2 from hx2]
  refine lv_aload_n hx hb dL_law_499 rfl (lv_at hl 5 rfl) ?_
  refine lv_iload hx hb dL_law_500 (lv_at hl 1 rfl) ?_
  refine lv_iconst (v := 3) hx hb dL_law_502 (by decide) ?_
  refine lv_iadd hx hb dL_law_503 ?_
  refine lv_topi (fun y6 ey6 => ?_)
  obtain rfl : y6 = 3 := ey6.trans (by decide)
  refine va_sld hx hb hX hbl hbA hS (by unfold vp_in; decide) dL_law_504 ?_
  rw [show xs (Int32.toNatClampNeg 3) = v3 from hx3]
  have hPc := hP.sub (ws' := [(m0, .inr (9, [.int 0, .ref m1, .ref m2, .ref m3, .int 0, .int 0, .int 0]))]) [0] rfl
  have hDc := hD.sub (ws' := [(m0, .inr (9, [.int 0, .ref m1, .ref m2, .ref m3, .int 0, .int 0, .int 0]))]) [0] (by decide) rfl
  have hKc := hK.sub (tys' := []) [] rfl
  have hFc := va_free (wc := [(m0, .inr (9, [.int 0, .ref m1, .ref m2, .ref m3, .int 0, .int 0, .int 0]))]) hD hS hA [0] rfl
  refine va_calli (va_runV (As := [.int v1, .int v2, .int v3]) (rest := []) ⟨hx, hb, hml, hown, hts⟩ (kx_X5_lay_2 l dC dI m0 m1 m2 m3 H.size v1 v1_l v1_u v2 v2_l v2_u v3 v3_l v3_u) (cwV 3 hts gL_law_X5_lay rfl rfl rfl (by decide +kernel) ⟨Nat.le_of_ble_eq_true rfl, Nat.le_of_ble_eq_true rfl⟩) ⟨fun a U g mk q => by obtain ⟨q0, q1, qP, qK, qD⟩ := q; exact ⟨q0, q1, qP, va_K.moved (u := U) (U := U.calling g mk a) (Vm.Alike.refl U.vm) qK, qD⟩, va_recv hKc hPc (ci := 9) (q0 := 0) rfl rfl, fun U hU hW => ⟨rfl, by rw [hU], by rw [hU]; exact hPc, va_K.moved hW.alike hKc, hDc.weaken (fun _ _ _ _ => trivial)⟩⟩ rfl rfl hl.1 rfl (lv_room (Nat.le_of_ble_eq_true rfl)) dL_law_505 ⟨Nat.le_of_ble_eq_true rfl, Nat.le_of_ble_eq_true rfl⟩) hS (fun q _ h => hFc q h) hFc (fun r9 u t H1 locs ht hvm hw hB hz1 hk1 hS => ?_)
  obtain rfl := hw
  obtain ⟨hP1, hK1, hD1⟩ := hB
  rw [ht] at hP1
  have hK1 := va_K.moved hvm.symm hK1
  obtain ⟨hP, hD⟩ := va_join (wr := [(x0, .inr (7, [.ref x1, .ref x2, .ref x45, .ref x53, .ref x55, .ref x57, .int 0, .int 0, .int 0]))]) (w1 := [(m0, .inr (9, [.int 1, .ref m1, .ref m2, .ref m3, .int 0, .int 0, .int 0]))]) hP hD [0] [1] rfl rfl (by decide) (by decide) hk1 hFc hP1 hD1
  generalize H1 = H at hP hS ⊢
  have hP : va_P (dC, dI) vwCl [(x0, .inr (7, [.ref x1, .ref x2, .ref x45, .ref x53, .ref x55, .ref x57, .int 0, .int 0, .int 0])), (m0, .inr (9, [.int 1, .ref m1, .ref m2, .ref m3, .int 0, .int 0, .int 0]))] H := hP
  have hD : va_D A [(x0, .inr (7, [.ref x1, .ref x2, .ref x45, .ref x53, .ref x55, .ref x57, .int 0, .int 0, .int 0])), (m0, .inr (9, [.int 1, .ref m1, .ref m2, .ref m3, .int 0, .int 0, .int 0]))] := hD
  refine lv_istore (lv' := [(6, .int 0), (5, .int 1), (4, .int 0), (3, .ref o0), (2, .ref m0), (1, .ref x0), (0, .ref b)]) hx hb dL_law_508 hl (by decide) rfl (fun ls hl => ?_)
  refine lv_aload_n hx hb dL_law_510 rfl (lv_at hl 4 rfl) ?_
  have hPc := hP.sub (ws' := [(m0, .inr (9, [.int 1, .ref m1, .ref m2, .ref m3, .int 0, .int 0, .int 0]))]) [1] rfl
  have hDc := hD.sub (ws' := [(m0, .inr (9, [.int 1, .ref m1, .ref m2, .ref m3, .int 0, .int 0, .int 0]))]) [1] (by decide) rfl
  have hKc := hK.sub (tys' := []) [] rfl
  have hFc := va_free (wc := [(m0, .inr (9, [.int 1, .ref m1, .ref m2, .ref m3, .int 0, .int 0, .int 0]))]) hD hS hA [1] rfl
  refine va_calli (va_runV (As := []) (rest := []) ⟨hx, hb, hml, hown, hts⟩ (kx_X5_thrown_0 l dC dI m0 m1 m2 m3 H.size) (cwV 0 hts gL_law_X5_thrown rfl rfl rfl (by decide +kernel) ⟨Nat.le_of_ble_eq_true rfl, Nat.le_of_ble_eq_true rfl⟩) ⟨fun a U g mk q => by obtain ⟨q0, q1, qP, qK, qD⟩ := q; exact ⟨q0, q1, qP, va_K.moved (u := U) (U := U.calling g mk a) (Vm.Alike.refl U.vm) qK, qD⟩, va_recv hKc hPc (ci := 9) (q0 := 0) rfl rfl, fun U hU hW => ⟨rfl, by rw [hU], by rw [hU]; exact hPc, va_K.moved hW.alike hKc, hDc.weaken (fun _ _ _ _ => trivial)⟩⟩ rfl rfl hl.1 rfl (lv_room (Nat.le_of_ble_eq_true rfl)) dL_law_511 ⟨Nat.le_of_ble_eq_true rfl, Nat.le_of_ble_eq_true rfl⟩) hS (fun q _ h => hFc q h) hFc (fun r9 u t H1 locs ht hvm hw hB hz1 hk1 hS => ?_)
  obtain rfl := hw
  obtain ⟨hP1, hK1, hD1⟩ := hB
  rw [ht] at hP1
  have hK1 := va_K.moved hvm.symm hK1
  obtain ⟨hP, hD⟩ := va_join (wr := [(x0, .inr (7, [.ref x1, .ref x2, .ref x45, .ref x53, .ref x55, .ref x57, .int 0, .int 0, .int 0]))]) (w1 := [(m0, .inr (9, [.int 1, .ref m1, .ref m2, .ref m3, .int 0, .int 0, .int 0]))]) hP hD [1] [0] rfl rfl (by decide) (by decide) hk1 hFc hP1 hD1
  generalize H1 = H at hP hS ⊢
  have hP : va_P (dC, dI) vwCl [(x0, .inr (7, [.ref x1, .ref x2, .ref x45, .ref x53, .ref x55, .ref x57, .int 0, .int 0, .int 0])), (m0, .inr (9, [.int 1, .ref m1, .ref m2, .ref m3, .int 0, .int 0, .int 0]))] H := hP
  have hD : va_D A [(x0, .inr (7, [.ref x1, .ref x2, .ref x45, .ref x53, .ref x55, .ref x57, .int 0, .int 0, .int 0])), (m0, .inr (9, [.int 1, .ref m1, .ref m2, .ref m3, .int 0, .int 0, .int 0]))] := hD
  refine lv_iload hx hb dL_law_514 (lv_at hl 1 rfl) ?_
  refine lv_icmp_eq (tgt := 521) hx hb dL_law_516 (by decide) (fun _ => ?_) (fun c9 => absurd (by decide) c9)
  refine lv_iload hx hb dL_law_521 (lv_at hl 1 rfl) ?_
  refine lv_if_ne (tgt := 539) hx hb dL_law_523 (by decide) (fun _ => ?_) (fun c9 => absurd c9 (by decide))
  refine lv_goto (tgt := 2342) hx hb dL_law_539 (by decide) ?_
  refine lv_iinc (v := 7) (lv' := [(4, .int 7), (6, .int 0), (5, .int 1), (3, .ref o0), (2, .ref m0), (1, .ref x0), (0, .ref b)]) hx hb dL_law_2342 hl (k := 2) rfl (by decide) (by decide) rfl (fun ls hl => ?_)
  refine lv_goto (tgt := 27) hx hb dL_law_2345 (by decide) ?_
  refine lv_iload hx hb dL_law_27 (lv_at hl 0 rfl) ?_
  refine lv_aload_n hx hb dL_law_29 rfl (lv_at hl 6 rfl) ?_
  refine va_slen hx hb hX hbl hbA hS dL_law_30 ?_
  refine lv_topi (fun y7 ey7 => ?_)
  obtain rfl : y7 = 7 := ey7.trans (by decide)
  refine lv_bipush (v := 7) hx hb dL_law_31 (by decide) ?_
  refine lv_isub hx hb dL_law_33 ?_
  refine lv_topi (fun y8 ey8 => ?_)
  obtain rfl : y8 = 0 := ey8.trans (by decide)
  refine lv_icmp_gt (tgt := 2348) hx hb dL_law_34 (by decide) (fun _ => ?_) (fun c9 => absurd (by decide) c9)
  refine lv_iconst (v := 1) hx hb dL_law_2348 (by decide) ?_
  refine va_forget (fun q hq => (by have h := hS.2.2 q hq; rw [hAe] at h; exact h)) ?_
  refine W.widen (k := 600002) (n := 7302232) (Nat.le_of_ble_eq_true rfl) (Nat.le_of_ble_eq_true rfl) ?_
  exact lw_ret hx hb hr hlocks dL_law_2349
set_option maxHeartbeats 4000000 in
set_option maxRecDepth 100000 in
theorem lc_lay_3 {p : Program} {e : Env} {s : State} {m : MethodId} {below : List Frame} {meth : Method} {c : Code} {l : Launch} (hst : l.stackTraces = false) {b : Nat} {xs : Nat → Int32} (C9 : lx_At p s m meth c b xs) {dC : Nat → ClassId} {dI : Nat → Nat → Nat} {ge5 gea gv5 gva gde gic gi0 : Nat} {x0 m0 x1 x2 x45 x53 x55 x57 m1 m2 m3 o0 : Nat} (hG : gv ge5 gea gv5 gva gde gic gi0 (fun q => s.heap.size ≤ q) s s.heap) {v1 : Int32} (v1_l : (0 : Int) ≤ v1.toInt) (v1_u : v1.toInt ≤ (3 : Int)) {v2 : Int32} (v2_l : ((-2147483648) : Int) ≤ v2.toInt) (v2_u : v2.toInt ≤ (2147483647 : Int)) {v3 : Int32} (v3_l : (4 : Int) ≤ v3.toInt) (v3_u : v3.toInt ≤ (2147483647 : Int)) (hx1 : xs 1 = v1) (hx2 : xs 2 = v2) (hx3 : xs 3 = v3) {H : Heap} {locs : List Loc} (hK : va_K (dC, dI) vwCl [] s) (hP : va_P (dC, dI) vwCl [(x0, .inr (7, [.ref x1, .ref x2, .ref x45, .ref x53, .ref x55, .ref x57, .int 0, .int 0, .int 0])), (m0, .inr (9, [.int 0, .ref m1, .ref m2, .ref m3, .int 0, .int 0, .int 0]))] H) (hD : va_D (fun q => s.heap.size ≤ q) [(x0, .inr (7, [.ref x1, .ref x2, .ref x45, .ref x53, .ref x55, .ref x57, .int 0, .int 0, .int 0])), (m0, .inr (9, [.int 0, .ref m1, .ref m2, .ref m3, .int 0, .int 0, .int 0]))]) (hS : va_S (fun q => s.heap.size ≤ q) s.heap H locs) {ls : Array Slot} (hl : lv_has ls 7 [(4, .int 0), (3, .ref o0), (2, .ref m0), (1, .ref x0), (0, .ref b)]) : W p l e room_1 s m #[Value.ref b] below meth c H locs 72 2748 (lw_Z below #[Value.ref b] s) (F0 m 461 ls []) := by
  obtain ⟨hx, hb, hr, hml, hown, hts, hX, hbl, hlocks⟩ := id C9
  have hA : ∀ q : Nat, s.heap.size ≤ q → (fun q : Nat => s.heap.size ≤ q) q := fun _ h => h
  have hbA : ¬ (fun q : Nat => s.heap.size ≤ q) b := Nat.not_le.mpr hbl
  obtain ⟨A, hAe⟩ : ∃ A : Nat → Prop, A = (fun q : Nat => s.heap.size ≤ q) := ⟨_, rfl⟩
  rw [← hAe] at hG hD hS hA hbA
  obtain ⟨⟨g_AO_Text, g_AO_String, g_AO_Object, g_nm_RX1_20, g_nm_RX0_17, g_nm_RX3_31, g_nm_RX2_44, g_nm_RL_121, g_nf_RL_13, g_nf_RL_47, g_ca_IO, g_ca_IA, g_ca_IS, g_ca_IntObj, g_ca_StrObj, g_de_RT, g_de_EX, g_de_TH, g_nc_IA_IO, g_nc_IS_IO, g_nc_IS_IA⟩, ⟨g_s3, g_s5, g_sa, g_x278, g_x280, g_x282, g_x284, g_x286, g_x180, g_x238, g_x250⟩, ⟨g_o5, g_c5, g_v5, g_t5, g_oa, g_ca, g_va, g_ta, g_zc, g_zd, g_td, g_zf, g_zU, g_zN, g_zh, g_zk, g_tk, g_oi, g_vi⟩⟩ := id hG
  refine lv_aload_n hx hb dL_law_461 rfl (lv_at hl 3 rfl) ?_
  refine lv_aload_n hx hb dL_law_462 rfl (lv_at hl 4 rfl) ?_
  refine lv_iload hx hb dL_law_463 (lv_at hl 0 rfl) ?_
  refine lv_iconst (v := 1) hx hb dL_law_465 (by decide) ?_
  refine lv_iadd hx hb dL_law_466 ?_
  refine lv_topi (fun y1 ey1 => ?_)
  obtain rfl : y1 = 1 := ey1.trans (by decide)
  refine va_sld hx hb hX hbl hbA hS (by unfold vp_in; decide) dL_law_467 ?_
  rw [show xs (Int32.toNatClampNeg 1) = v1 from hx1]
  refine lv_aload_n hx hb dL_law_468 rfl (lv_at hl 4 rfl) ?_
  refine lv_iload hx hb dL_law_469 (lv_at hl 0 rfl) ?_
  refine lv_iconst (v := 2) hx hb dL_law_471 (by decide) ?_
  refine lv_iadd hx hb dL_law_472 ?_
  refine lv_topi (fun y2 ey2 => ?_)
  obtain rfl : y2 = 2 := ey2.trans (by decide)
  refine va_sld hx hb hX hbl hbA hS (by unfold vp_in; decide) dL_law_473 ?_
  rw [show xs (Int32.toNatClampNeg 2) = v2 from hx2]
  refine lv_aload_n hx hb dL_law_474 rfl (lv_at hl 4 rfl) ?_
  refine lv_iload hx hb dL_law_475 (lv_at hl 0 rfl) ?_
  refine lv_iconst (v := 3) hx hb dL_law_477 (by decide) ?_
  refine lv_iadd hx hb dL_law_478 ?_
  refine lv_topi (fun y3 ey3 => ?_)
  obtain rfl : y3 = 3 := ey3.trans (by decide)
  refine va_sld hx hb hX hbl hbA hS (by unfold vp_in; decide) dL_law_479 ?_
  rw [show xs (Int32.toNatClampNeg 3) = v3 from hx3]
  refine lv_aload_n hx hb dL_law_480 rfl (lv_at hl 1 rfl) ?_
  have hPc := hP.sub (ws' := [(x0, .inr (7, [.ref x1, .ref x2, .ref x45, .ref x53, .ref x55, .ref x57, .int 0, .int 0, .int 0]))]) [0] rfl
  have hDc := hD.sub (ws' := [(x0, .inr (7, [.ref x1, .ref x2, .ref x45, .ref x53, .ref x55, .ref x57, .int 0, .int 0, .int 0]))]) [0] (by decide) rfl
  have hKc := hK.sub (tys' := []) [] rfl
  have hFc := va_free (wc := [(x0, .inr (7, [.ref x1, .ref x2, .ref x45, .ref x53, .ref x55, .ref x57, .int 0, .int 0, .int 0]))]) hD hS hA [0] rfl
  refine va_calli (vx_runSW (As := [.ref x0, .int v1, .int v2, .int v3, .ref o0]) (rest := []) ⟨hx, hb, hml, hown, hts⟩ (kx_L_lay_3 l hst dC dI ge5 gea gv5 gva gde gic gi0 x0 o0 x1 x2 x45 x53 x55 x57 H.size v1 v1_l v1_u v2 v2_l v2_u v3 v3_l v3_u) (vx_cwSW 5 hts gL_law_L_lay rfl rfl rfl (by decide +kernel) ⟨Nat.le_of_ble_eq_true rfl, Nat.le_of_ble_eq_true rfl⟩) ⟨fun a U g mk q => by obtain ⟨q0, q1, qP, qK, qD, qG⟩ := q; exact ⟨q0, q1, qP, va_K.moved (u := U) (U := U.calling g mk a) (Vm.Alike.refl U.vm) qK, qD, gv.fb qG⟩, fun U hU hW => ⟨rfl, by rw [hU], by rw [hU]; exact hPc, va_K.moved hW.alike hKc, hDc.weaken (fun _ _ _ _ => trivial), gv.pass hW hU hS hFc hG⟩⟩ rfl rfl hl.1 rfl (lv_room (Nat.le_of_ble_eq_true rfl)) dL_law_481 ⟨Nat.le_of_ble_eq_true rfl, Nat.le_of_ble_eq_true rfl⟩) hS (fun q _ h => hFc q h) hFc (fun r9 u t H1 locs ht hvm hw hB hz1 hk1 hS => ?_)
  obtain rfl := hw
  obtain ⟨hP1, hK1, hD1⟩ := hB
  rw [ht] at hP1
  have hK1 := va_K.moved hvm.symm hK1
  obtain ⟨hP, hD⟩ := va_join (wr := [(m0, .inr (9, [.int 0, .ref m1, .ref m2, .ref m3, .int 0, .int 0, .int 0]))]) (w1 := [(x0, .inr (7, [.ref x1, .ref x2, .ref x45, .ref x53, .ref x55, .ref x57, .int 0, .int 0, .int 0]))]) hP hD [0] [1] rfl rfl (by decide) (by decide) hk1 hFc hP1 hD1
  generalize H1 = H at hP hS ⊢
  have hP : va_P (dC, dI) vwCl [(m0, .inr (9, [.int 0, .ref m1, .ref m2, .ref m3, .int 0, .int 0, .int 0])), (x0, .inr (7, [.ref x1, .ref x2, .ref x45, .ref x53, .ref x55, .ref x57, .int 0, .int 0, .int 0]))] H := hP
  have hD : va_D A [(m0, .inr (9, [.int 0, .ref m1, .ref m2, .ref m3, .int 0, .int 0, .int 0])), (x0, .inr (7, [.ref x1, .ref x2, .ref x45, .ref x53, .ref x55, .ref x57, .int 0, .int 0, .int 0]))] := hD
  refine W.widen (k := 73) (n := 2754) (by omega) (by omega) ?_
  refine lv_istore (lv' := [(5, .int 1), (4, .int 0), (3, .ref o0), (2, .ref m0), (1, .ref x0), (0, .ref b)]) hx hb dL_law_484 hl (by decide) rfl (fun ls hl => ?_)
  refine lv_aload_n hx hb dL_law_486 rfl (lv_at hl 3 rfl) ?_
  refine lv_aload_n hx hb dL_law_487 rfl (lv_at hl 5 rfl) ?_
  refine lv_iload hx hb dL_law_488 (lv_at hl 1 rfl) ?_
  refine lv_iconst (v := 1) hx hb dL_law_490 (by decide) ?_
  refine lv_iadd hx hb dL_law_491 ?_
  refine lv_topi (fun y4 ey4 => ?_)
  obtain rfl : y4 = 1 := ey4.trans (by decide)
  refine va_sld hx hb hX hbl hbA hS (by unfold vp_in; decide) dL_law_492 ?_
  rw [show xs (Int32.toNatClampNeg 1) = v1 from hx1]
  refine lv_aload_n hx hb dL_law_493 rfl (lv_at hl 5 rfl) ?_
  refine lv_iload hx hb dL_law_494 (lv_at hl 1 rfl) ?_
  refine lv_iconst (v := 2) hx hb dL_law_496 (by decide) ?_
  refine lv_iadd hx hb dL_law_497 ?_
  refine lv_topi (fun y5 ey5 => ?_)
  obtain rfl : y5 = 2 := ey5.trans (by decide)
  refine va_sld hx hb hX hbl hbA hS (by unfold vp_in; decide) dL_law_498 ?_
  rw [show xs (Int32.toNatClampNeg 2) = v2 from hx2]
  refine lv_aload_n hx hb dL_law_499 rfl (lv_at hl 5 rfl) ?_
  refine lv_iload hx hb dL_law_500 (lv_at hl 1 rfl) ?_
  refine lv_iconst (v := 3) hx hb dL_law_502 (by decide) ?_
  refine lv_iadd hx hb dL_law_503 ?_
  refine lv_topi (fun y6 ey6 => ?_)
  obtain rfl : y6 = 3 := ey6.trans (by decide)
  refine va_sld hx hb hX hbl hbA hS (by unfold vp_in; decide) dL_law_504 ?_
  rw [show xs (Int32.toNatClampNeg 3) = v3 from hx3]
  have hPc := hP.sub (ws' := [(m0, .inr (9, [.int 0, .ref m1, .ref m2, .ref m3, .int 0, .int 0, .int 0]))]) [0] rfl
  have hDc := hD.sub (ws' := [(m0, .inr (9, [.int 0, .ref m1, .ref m2, .ref m3, .int 0, .int 0, .int 0]))]) [0] (by decide) rfl
  have hKc := hK.sub (tys' := []) [] rfl
  have hFc := va_free (wc := [(m0, .inr (9, [.int 0, .ref m1, .ref m2, .ref m3, .int 0, .int 0, .int 0]))]) hD hS hA [0] rfl
  refine va_calli (va_runV (As := [.int v1, .int v2, .int v3]) (rest := []) ⟨hx, hb, hml, hown, hts⟩ (kx_X5_lay_3 l dC dI m0 m1 m2 m3 H.size v1 v1_l v1_u v2 v2_l v2_u v3 v3_l v3_u) (cwV 3 hts gL_law_X5_lay rfl rfl rfl (by decide +kernel) ⟨Nat.le_of_ble_eq_true rfl, Nat.le_of_ble_eq_true rfl⟩) ⟨fun a U g mk q => by obtain ⟨q0, q1, qP, qK, qD⟩ := q; exact ⟨q0, q1, qP, va_K.moved (u := U) (U := U.calling g mk a) (Vm.Alike.refl U.vm) qK, qD⟩, va_recv hKc hPc (ci := 9) (q0 := 0) rfl rfl, fun U hU hW => ⟨rfl, by rw [hU], by rw [hU]; exact hPc, va_K.moved hW.alike hKc, hDc.weaken (fun _ _ _ _ => trivial)⟩⟩ rfl rfl hl.1 rfl (lv_room (Nat.le_of_ble_eq_true rfl)) dL_law_505 ⟨Nat.le_of_ble_eq_true rfl, Nat.le_of_ble_eq_true rfl⟩) hS (fun q _ h => hFc q h) hFc (fun r9 u t H1 locs ht hvm hw hB hz1 hk1 hS => ?_)
  obtain rfl := hw
  obtain ⟨hP1, hK1, hD1⟩ := hB
  rw [ht] at hP1
  have hK1 := va_K.moved hvm.symm hK1
  obtain ⟨hP, hD⟩ := va_join (wr := [(x0, .inr (7, [.ref x1, .ref x2, .ref x45, .ref x53, .ref x55, .ref x57, .int 0, .int 0, .int 0]))]) (w1 := [(m0, .inr (9, [.int 1, .ref m1, .ref m2, .ref m3, .int 0, .int 0, .int 0]))]) hP hD [0] [1] rfl rfl (by decide) (by decide) hk1 hFc hP1 hD1
  generalize H1 = H at hP hS ⊢
  have hP : va_P (dC, dI) vwCl [(x0, .inr (7, [.ref x1, .ref x2, .ref x45, .ref x53, .ref x55, .ref x57, .int 0, .int 0, .int 0])), (m0, .inr (9, [.int 1, .ref m1, .ref m2, .ref m3, .int 0, .int 0, .int 0]))] H := hP
  have hD : va_D A [(x0, .inr (7, [.ref x1, .ref x2, .ref x45, .ref x53, .ref x55, .ref x57, .int 0, .int 0, .int 0])), (m0, .inr (9, [.int 1, .ref m1, .ref m2, .ref m3, .int 0, .int 0, .int 0]))] := hD
  refine lv_istore (lv' := [(6, .int 0), (5, .int 1), (4, .int 0), (3, .ref o0), (2, .ref m0), (1, .ref x0), (0, .ref b)]) hx hb dL_law_508 hl (by decide) rfl (fun ls hl => ?_)
  refine lv_aload_n hx hb dL_law_510 rfl (lv_at hl 4 rfl) ?_
  have hPc := hP.sub (ws' := [(m0, .inr (9, [.int 1, .ref m1, .ref m2, .ref m3, .int 0, .int 0, .int 0]))]) [1] rfl
  have hDc := hD.sub (ws' := [(m0, .inr (9, [.int 1, .ref m1, .ref m2, .ref m3, .int 0, .int 0, .int 0]))]) [1] (by decide) rfl
  have hKc := hK.sub (tys' := []) [] rfl
  have hFc := va_free (wc := [(m0, .inr (9, [.int 1, .ref m1, .ref m2, .ref m3, .int 0, .int 0, .int 0]))]) hD hS hA [1] rfl
  refine va_calli (va_runV (As := []) (rest := []) ⟨hx, hb, hml, hown, hts⟩ (kx_X5_thrown_0 l dC dI m0 m1 m2 m3 H.size) (cwV 0 hts gL_law_X5_thrown rfl rfl rfl (by decide +kernel) ⟨Nat.le_of_ble_eq_true rfl, Nat.le_of_ble_eq_true rfl⟩) ⟨fun a U g mk q => by obtain ⟨q0, q1, qP, qK, qD⟩ := q; exact ⟨q0, q1, qP, va_K.moved (u := U) (U := U.calling g mk a) (Vm.Alike.refl U.vm) qK, qD⟩, va_recv hKc hPc (ci := 9) (q0 := 0) rfl rfl, fun U hU hW => ⟨rfl, by rw [hU], by rw [hU]; exact hPc, va_K.moved hW.alike hKc, hDc.weaken (fun _ _ _ _ => trivial)⟩⟩ rfl rfl hl.1 rfl (lv_room (Nat.le_of_ble_eq_true rfl)) dL_law_511 ⟨Nat.le_of_ble_eq_true rfl, Nat.le_of_ble_eq_true rfl⟩) hS (fun q _ h => hFc q h) hFc (fun r9 u t H1 locs ht hvm hw hB hz1 hk1 hS => ?_)
  obtain rfl := hw
  obtain ⟨hP1, hK1, hD1⟩ := hB
  rw [ht] at hP1
  have hK1 := va_K.moved hvm.symm hK1
  obtain ⟨hP, hD⟩ := va_join (wr := [(x0, .inr (7, [.ref x1, .ref x2, .ref x45, .ref x53, .ref x55, .ref x57, .int 0, .int 0, .int 0]))]) (w1 := [(m0, .inr (9, [.int 1, .ref m1, .ref m2, .ref m3, .int 0, .int 0, .int 0]))]) hP hD [1] [0] rfl rfl (by decide) (by decide) hk1 hFc hP1 hD1
  generalize H1 = H at hP hS ⊢
  have hP : va_P (dC, dI) vwCl [(x0, .inr (7, [.ref x1, .ref x2, .ref x45, .ref x53, .ref x55, .ref x57, .int 0, .int 0, .int 0])), (m0, .inr (9, [.int 1, .ref m1, .ref m2, .ref m3, .int 0, .int 0, .int 0]))] H := hP
  have hD : va_D A [(x0, .inr (7, [.ref x1, .ref x2, .ref x45, .ref x53, .ref x55, .ref x57, .int 0, .int 0, .int 0])), (m0, .inr (9, [.int 1, .ref m1, .ref m2, .ref m3, .int 0, .int 0, .int 0]))] := hD
  refine lv_iload hx hb dL_law_514 (lv_at hl 1 rfl) ?_
  refine lv_icmp_eq (tgt := 521) hx hb dL_law_516 (by decide) (fun _ => ?_) (fun c9 => absurd (by decide) c9)
  refine lv_iload hx hb dL_law_521 (lv_at hl 1 rfl) ?_
  refine lv_if_ne (tgt := 539) hx hb dL_law_523 (by decide) (fun _ => ?_) (fun c9 => absurd c9 (by decide))
  refine lv_goto (tgt := 2342) hx hb dL_law_539 (by decide) ?_
  refine lv_iinc (v := 7) (lv' := [(4, .int 7), (6, .int 0), (5, .int 1), (3, .ref o0), (2, .ref m0), (1, .ref x0), (0, .ref b)]) hx hb dL_law_2342 hl (k := 2) rfl (by decide) (by decide) rfl (fun ls hl => ?_)
  refine lv_goto (tgt := 27) hx hb dL_law_2345 (by decide) ?_
  refine lv_iload hx hb dL_law_27 (lv_at hl 0 rfl) ?_
  refine lv_aload_n hx hb dL_law_29 rfl (lv_at hl 6 rfl) ?_
  refine va_slen hx hb hX hbl hbA hS dL_law_30 ?_
  refine lv_topi (fun y7 ey7 => ?_)
  obtain rfl : y7 = 7 := ey7.trans (by decide)
  refine lv_bipush (v := 7) hx hb dL_law_31 (by decide) ?_
  refine lv_isub hx hb dL_law_33 ?_
  refine lv_topi (fun y8 ey8 => ?_)
  obtain rfl : y8 = 0 := ey8.trans (by decide)
  refine lv_icmp_gt (tgt := 2348) hx hb dL_law_34 (by decide) (fun _ => ?_) (fun c9 => absurd (by decide) c9)
  refine lv_iconst (v := 1) hx hb dL_law_2348 (by decide) ?_
  refine va_forget (fun q hq => (by have h := hS.2.2 q hq; rw [hAe] at h; exact h)) ?_
  refine W.widen (k := 600002) (n := 7302232) (Nat.le_of_ble_eq_true rfl) (Nat.le_of_ble_eq_true rfl) ?_
  exact lw_ret hx hb hr hlocks dL_law_2349
set_option maxHeartbeats 4000000 in
set_option maxRecDepth 100000 in
theorem lc_lay_4 {p : Program} {e : Env} {s : State} {m : MethodId} {below : List Frame} {meth : Method} {c : Code} {l : Launch} (hst : l.stackTraces = false) {b : Nat} {xs : Nat → Int32} (C9 : lx_At p s m meth c b xs) {dC : Nat → ClassId} {dI : Nat → Nat → Nat} {ge5 gea gv5 gva gde gic gi0 : Nat} {x0 x1 m0 m1 x2 x45 x53 x55 x57 x59 x61 x63 x65 m2 m3 o0 : Nat} {xc0 mc0 : ClassId} (hG : gv ge5 gea gv5 gva gde gic gi0 (fun q => s.heap.size ≤ q) s s.heap) {v1 : Int32} (v1_l : (0 : Int) ≤ v1.toInt) (v1_u : v1.toInt ≤ (3 : Int)) {v2 : Int32} (v2_l : ((-2147483648) : Int) ≤ v2.toInt) (v2_u : v2.toInt ≤ ((-1) : Int)) {v3 : Int32} (v3_l : (0 : Int) ≤ v3.toInt) (v3_u : v3.toInt ≤ (3 : Int)) (hx1 : xs 1 = v1) (hx2 : xs 2 = v2) (hx3 : xs 3 = v3) {H : Heap} {locs : List Loc} (hK : va_K (dC, dI) vwCl [(xc0, .object "Rewriterope$Text"), (mc0, .object "java/lang/String")] s) (hP : va_P (dC, dI) vwCl [(x0, .inr (7, [.ref x1, .ref x2, .ref x45, .ref x53, .ref x55, .ref x57, .int 0, .int 0, .int 0])), (x1, .inl (xc0, 4, .inr (.inr (.inr (.inr (va_up (va_up (va_up (va_up (fun _ => none) 0 (some x59)) 1 (some x61)) 2 (some x63)) 3 (some x65))))))), (m0, .inr (9, [.int 0, .ref m1, .ref m2, .ref m3, .int 0, .int 0, .int 0])), (m1, .inl (mc0, 4, .inr (.inr (.inr (.inr (va_up (va_up (va_up (va_up (fun _ => none) 0 (some ge5)) 1 (some ge5)) 2 (some ge5)) 3 (some ge5)))))))] H) (hD : va_D (fun q => s.heap.size ≤ q) [(x0, .inr (7, [.ref x1, .ref x2, .ref x45, .ref x53, .ref x55, .ref x57, .int 0, .int 0, .int 0])), (x1, .inl (xc0, 4, .inr (.inr (.inr (.inr (va_up (va_up (va_up (va_up (fun _ => none) 0 (some x59)) 1 (some x61)) 2 (some x63)) 3 (some x65))))))), (m0, .inr (9, [.int 0, .ref m1, .ref m2, .ref m3, .int 0, .int 0, .int 0])), (m1, .inl (mc0, 4, .inr (.inr (.inr (.inr (va_up (va_up (va_up (va_up (fun _ => none) 0 (some ge5)) 1 (some ge5)) 2 (some ge5)) 3 (some ge5)))))))]) (hS : va_S (fun q => s.heap.size ≤ q) s.heap H locs) {ls : Array Slot} (hl : lv_has ls 7 [(4, .int 0), (3, .ref o0), (2, .ref m0), (1, .ref x0), (0, .ref b)]) : W p l e room_1 s m #[Value.ref b] below meth c H locs 72 2748 (lw_Z below #[Value.ref b] s) (F0 m 461 ls []) := by
  obtain ⟨hx, hb, hr, hml, hown, hts, hX, hbl, hlocks⟩ := id C9
  have hA : ∀ q : Nat, s.heap.size ≤ q → (fun q : Nat => s.heap.size ≤ q) q := fun _ h => h
  have hbA : ¬ (fun q : Nat => s.heap.size ≤ q) b := Nat.not_le.mpr hbl
  obtain ⟨A, hAe⟩ : ∃ A : Nat → Prop, A = (fun q : Nat => s.heap.size ≤ q) := ⟨_, rfl⟩
  rw [← hAe] at hG hD hS hA hbA
  obtain ⟨⟨g_AO_Text, g_AO_String, g_AO_Object, g_nm_RX1_20, g_nm_RX0_17, g_nm_RX3_31, g_nm_RX2_44, g_nm_RL_121, g_nf_RL_13, g_nf_RL_47, g_ca_IO, g_ca_IA, g_ca_IS, g_ca_IntObj, g_ca_StrObj, g_de_RT, g_de_EX, g_de_TH, g_nc_IA_IO, g_nc_IS_IO, g_nc_IS_IA⟩, ⟨g_s3, g_s5, g_sa, g_x278, g_x280, g_x282, g_x284, g_x286, g_x180, g_x238, g_x250⟩, ⟨g_o5, g_c5, g_v5, g_t5, g_oa, g_ca, g_va, g_ta, g_zc, g_zd, g_td, g_zf, g_zU, g_zN, g_zh, g_zk, g_tk, g_oi, g_vi⟩⟩ := id hG
  refine lv_aload_n hx hb dL_law_461 rfl (lv_at hl 3 rfl) ?_
  refine lv_aload_n hx hb dL_law_462 rfl (lv_at hl 4 rfl) ?_
  refine lv_iload hx hb dL_law_463 (lv_at hl 0 rfl) ?_
  refine lv_iconst (v := 1) hx hb dL_law_465 (by decide) ?_
  refine lv_iadd hx hb dL_law_466 ?_
  refine lv_topi (fun y1 ey1 => ?_)
  obtain rfl : y1 = 1 := ey1.trans (by decide)
  refine va_sld hx hb hX hbl hbA hS (by unfold vp_in; decide) dL_law_467 ?_
  rw [show xs (Int32.toNatClampNeg 1) = v1 from hx1]
  refine lv_aload_n hx hb dL_law_468 rfl (lv_at hl 4 rfl) ?_
  refine lv_iload hx hb dL_law_469 (lv_at hl 0 rfl) ?_
  refine lv_iconst (v := 2) hx hb dL_law_471 (by decide) ?_
  refine lv_iadd hx hb dL_law_472 ?_
  refine lv_topi (fun y2 ey2 => ?_)
  obtain rfl : y2 = 2 := ey2.trans (by decide)
  refine va_sld hx hb hX hbl hbA hS (by unfold vp_in; decide) dL_law_473 ?_
  rw [show xs (Int32.toNatClampNeg 2) = v2 from hx2]
  refine lv_aload_n hx hb dL_law_474 rfl (lv_at hl 4 rfl) ?_
  refine lv_iload hx hb dL_law_475 (lv_at hl 0 rfl) ?_
  refine lv_iconst (v := 3) hx hb dL_law_477 (by decide) ?_
  refine lv_iadd hx hb dL_law_478 ?_
  refine lv_topi (fun y3 ey3 => ?_)
  obtain rfl : y3 = 3 := ey3.trans (by decide)
  refine va_sld hx hb hX hbl hbA hS (by unfold vp_in; decide) dL_law_479 ?_
  rw [show xs (Int32.toNatClampNeg 3) = v3 from hx3]
  refine lv_aload_n hx hb dL_law_480 rfl (lv_at hl 1 rfl) ?_
  have hPc := hP.sub (ws' := [(x0, .inr (7, [.ref x1, .ref x2, .ref x45, .ref x53, .ref x55, .ref x57, .int 0, .int 0, .int 0])), (x1, .inl (xc0, 4, .inr (.inr (.inr (.inr (va_up (va_up (va_up (va_up (fun _ => none) 0 (some x59)) 1 (some x61)) 2 (some x63)) 3 (some x65)))))))]) [0, 1] rfl
  have hDc := hD.sub (ws' := [(x0, .inr (7, [.ref x1, .ref x2, .ref x45, .ref x53, .ref x55, .ref x57, .int 0, .int 0, .int 0])), (x1, .inl (xc0, 4, .inr (.inr (.inr (.inr (va_up (va_up (va_up (va_up (fun _ => none) 0 (some x59)) 1 (some x61)) 2 (some x63)) 3 (some x65)))))))]) [0, 1] (by decide) rfl
  have hKc := hK.sub (tys' := [(xc0, .object "Rewriterope$Text")]) [0] rfl
  have hFc := va_free (wc := [(x0, .inr (7, [.ref x1, .ref x2, .ref x45, .ref x53, .ref x55, .ref x57, .int 0, .int 0, .int 0])), (x1, .inl (xc0, 4, .inr (.inr (.inr (.inr (va_up (va_up (va_up (va_up (fun _ => none) 0 (some x59)) 1 (some x61)) 2 (some x63)) 3 (some x65)))))))]) hD hS hA [0, 1] rfl
  refine va_calli (vx_runSW (As := [.ref x0, .int v1, .int v2, .int v3, .ref o0]) (rest := []) ⟨hx, hb, hml, hown, hts⟩ (kx_L_lay_4 l hst dC dI ge5 gea gv5 gva gde gic gi0 x0 x1 o0 x2 x45 x53 x55 x57 x59 x61 x63 x65 xc0 H.size v1 v1_l v1_u v2 v2_l v2_u v3 v3_l v3_u) (vx_cwSW 5 hts gL_law_L_lay rfl rfl rfl (by decide +kernel) ⟨Nat.le_of_ble_eq_true rfl, Nat.le_of_ble_eq_true rfl⟩) ⟨fun a U g mk q => by obtain ⟨q0, q1, qP, qK, qD, qG⟩ := q; exact ⟨q0, q1, qP, va_K.moved (u := U) (U := U.calling g mk a) (Vm.Alike.refl U.vm) qK, qD, gv.fb qG⟩, fun U hU hW => ⟨rfl, by rw [hU], by rw [hU]; exact hPc, va_K.moved hW.alike hKc, hDc.weaken (fun _ _ _ _ => trivial), gv.pass hW hU hS hFc hG⟩⟩ rfl rfl hl.1 rfl (lv_room (Nat.le_of_ble_eq_true rfl)) dL_law_481 ⟨Nat.le_of_ble_eq_true rfl, Nat.le_of_ble_eq_true rfl⟩) hS (fun q _ h => hFc q h) hFc (fun r9 u t H1 locs ht hvm hw hB hz1 hk1 hS => ?_)
  obtain rfl := hw
  obtain ⟨hP1, hK1, hD1⟩ := hB
  rw [ht] at hP1
  have hK1 := va_K.moved hvm.symm hK1
  obtain ⟨hP, hD⟩ := va_join (wr := [(m0, .inr (9, [.int 0, .ref m1, .ref m2, .ref m3, .int 0, .int 0, .int 0])), (m1, .inl (mc0, 4, .inr (.inr (.inr (.inr (va_up (va_up (va_up (va_up (fun _ => none) 0 (some ge5)) 1 (some ge5)) 2 (some ge5)) 3 (some ge5)))))))]) (w1 := [(x0, .inr (7, [.ref x1, .ref x2, .ref x45, .ref x53, .ref x55, .ref x57, .int 0, .int 0, .int 0])), (x1, .inl (xc0, 4, .inr (.inr (.inr (.inr (va_up (va_up (va_up (va_up (fun _ => none) 0 (some x59)) 1 (some x61)) 2 (some x63)) 3 (some x65)))))))]) hP hD [0, 1] [2, 3] rfl rfl (by decide) (by decide) hk1 hFc hP1 hD1
  generalize H1 = H at hP hS ⊢
  have hP : va_P (dC, dI) vwCl [(m0, .inr (9, [.int 0, .ref m1, .ref m2, .ref m3, .int 0, .int 0, .int 0])), (m1, .inl (mc0, 4, .inr (.inr (.inr (.inr (va_up (va_up (va_up (va_up (fun _ => none) 0 (some ge5)) 1 (some ge5)) 2 (some ge5)) 3 (some ge5))))))), (x0, .inr (7, [.ref x1, .ref x2, .ref x45, .ref x53, .ref x55, .ref x57, .int 0, .int 0, .int 0])), (x1, .inl (xc0, 4, .inr (.inr (.inr (.inr (va_up (va_up (va_up (va_up (fun _ => none) 0 (some x59)) 1 (some x61)) 2 (some x63)) 3 (some x65)))))))] H := hP
  have hD : va_D A [(m0, .inr (9, [.int 0, .ref m1, .ref m2, .ref m3, .int 0, .int 0, .int 0])), (m1, .inl (mc0, 4, .inr (.inr (.inr (.inr (va_up (va_up (va_up (va_up (fun _ => none) 0 (some ge5)) 1 (some ge5)) 2 (some ge5)) 3 (some ge5))))))), (x0, .inr (7, [.ref x1, .ref x2, .ref x45, .ref x53, .ref x55, .ref x57, .int 0, .int 0, .int 0])), (x1, .inl (xc0, 4, .inr (.inr (.inr (.inr (va_up (va_up (va_up (va_up (fun _ => none) 0 (some x59)) 1 (some x61)) 2 (some x63)) 3 (some x65)))))))] := hD
  refine W.widen (k := 73) (n := 2754) (by omega) (by omega) ?_
  refine lv_istore (lv' := [(5, .int 1), (4, .int 0), (3, .ref o0), (2, .ref m0), (1, .ref x0), (0, .ref b)]) hx hb dL_law_484 hl (by decide) rfl (fun ls hl => ?_)
  refine lv_aload_n hx hb dL_law_486 rfl (lv_at hl 3 rfl) ?_
  refine lv_aload_n hx hb dL_law_487 rfl (lv_at hl 5 rfl) ?_
  refine lv_iload hx hb dL_law_488 (lv_at hl 1 rfl) ?_
  refine lv_iconst (v := 1) hx hb dL_law_490 (by decide) ?_
  refine lv_iadd hx hb dL_law_491 ?_
  refine lv_topi (fun y4 ey4 => ?_)
  obtain rfl : y4 = 1 := ey4.trans (by decide)
  refine va_sld hx hb hX hbl hbA hS (by unfold vp_in; decide) dL_law_492 ?_
  rw [show xs (Int32.toNatClampNeg 1) = v1 from hx1]
  refine lv_aload_n hx hb dL_law_493 rfl (lv_at hl 5 rfl) ?_
  refine lv_iload hx hb dL_law_494 (lv_at hl 1 rfl) ?_
  refine lv_iconst (v := 2) hx hb dL_law_496 (by decide) ?_
  refine lv_iadd hx hb dL_law_497 ?_
  refine lv_topi (fun y5 ey5 => ?_)
  obtain rfl : y5 = 2 := ey5.trans (by decide)
  refine va_sld hx hb hX hbl hbA hS (by unfold vp_in; decide) dL_law_498 ?_
  rw [show xs (Int32.toNatClampNeg 2) = v2 from hx2]
  refine lv_aload_n hx hb dL_law_499 rfl (lv_at hl 5 rfl) ?_
  refine lv_iload hx hb dL_law_500 (lv_at hl 1 rfl) ?_
  refine lv_iconst (v := 3) hx hb dL_law_502 (by decide) ?_
  refine lv_iadd hx hb dL_law_503 ?_
  refine lv_topi (fun y6 ey6 => ?_)
  obtain rfl : y6 = 3 := ey6.trans (by decide)
  refine va_sld hx hb hX hbl hbA hS (by unfold vp_in; decide) dL_law_504 ?_
  rw [show xs (Int32.toNatClampNeg 3) = v3 from hx3]
  have hPc := hP.sub (ws' := [(m0, .inr (9, [.int 0, .ref m1, .ref m2, .ref m3, .int 0, .int 0, .int 0])), (m1, .inl (mc0, 4, .inr (.inr (.inr (.inr (va_up (va_up (va_up (va_up (fun _ => none) 0 (some ge5)) 1 (some ge5)) 2 (some ge5)) 3 (some ge5)))))))]) [0, 1] rfl
  have hDc := hD.sub (ws' := [(m0, .inr (9, [.int 0, .ref m1, .ref m2, .ref m3, .int 0, .int 0, .int 0])), (m1, .inl (mc0, 4, .inr (.inr (.inr (.inr (va_up (va_up (va_up (va_up (fun _ => none) 0 (some ge5)) 1 (some ge5)) 2 (some ge5)) 3 (some ge5)))))))]) [0, 1] (by decide) rfl
  have hKc := hK.sub (tys' := [(mc0, .object "java/lang/String")]) [1] rfl
  have hFc := va_free (wc := [(m0, .inr (9, [.int 0, .ref m1, .ref m2, .ref m3, .int 0, .int 0, .int 0])), (m1, .inl (mc0, 4, .inr (.inr (.inr (.inr (va_up (va_up (va_up (va_up (fun _ => none) 0 (some ge5)) 1 (some ge5)) 2 (some ge5)) 3 (some ge5)))))))]) hD hS hA [0, 1] rfl
  refine va_calli (va_runV (As := [.int v1, .int v2, .int v3]) (rest := []) ⟨hx, hb, hml, hown, hts⟩ (kx_X5_lay_4 l dC dI ge5 gea gv5 gva gde gic gi0 m0 m1 m2 m3 mc0 H.size v1 v1_l v1_u v2 v2_l v2_u v3 v3_l v3_u) (cwV 3 hts gL_law_X5_lay rfl rfl rfl (by decide +kernel) ⟨Nat.le_of_ble_eq_true rfl, Nat.le_of_ble_eq_true rfl⟩) ⟨fun a U g mk q => by obtain ⟨q0, q1, qP, qK, qD, qG⟩ := q; exact ⟨q0, q1, qP, va_K.moved (u := U) (U := U.calling g mk a) (Vm.Alike.refl U.vm) qK, qD, gv.fb qG⟩, va_recv hKc hPc (ci := 9) (q0 := 0) rfl rfl, fun U hU hW => ⟨rfl, by rw [hU], by rw [hU]; exact hPc, va_K.moved hW.alike hKc, hDc.weaken (fun _ _ _ _ => trivial), gv.pass hW hU hS hFc hG⟩⟩ rfl rfl hl.1 rfl (lv_room (Nat.le_of_ble_eq_true rfl)) dL_law_505 ⟨Nat.le_of_ble_eq_true rfl, Nat.le_of_ble_eq_true rfl⟩) hS (fun q _ h => hFc q h) hFc (fun r9 u t H1 locs ht hvm hw hB hz1 hk1 hS => ?_)
  obtain rfl := hw
  obtain ⟨hP1, hK1, hD1⟩ := hB
  rw [ht] at hP1
  have hK1 := va_K.moved hvm.symm hK1
  obtain ⟨hP, hD⟩ := va_join (wr := [(x0, .inr (7, [.ref x1, .ref x2, .ref x45, .ref x53, .ref x55, .ref x57, .int 0, .int 0, .int 0])), (x1, .inl (xc0, 4, .inr (.inr (.inr (.inr (va_up (va_up (va_up (va_up (fun _ => none) 0 (some x59)) 1 (some x61)) 2 (some x63)) 3 (some x65)))))))]) (w1 := [(m0, .inr (9, [.int 1, .ref m1, .ref m2, .ref m3, .int 0, .int 0, .int 0]))]) hP hD [0, 1] [2, 3] rfl rfl (by decide) (by decide) hk1 hFc hP1 hD1
  generalize H1 = H at hP hS ⊢
  have hP : va_P (dC, dI) vwCl [(x0, .inr (7, [.ref x1, .ref x2, .ref x45, .ref x53, .ref x55, .ref x57, .int 0, .int 0, .int 0])), (x1, .inl (xc0, 4, .inr (.inr (.inr (.inr (va_up (va_up (va_up (va_up (fun _ => none) 0 (some x59)) 1 (some x61)) 2 (some x63)) 3 (some x65))))))), (m0, .inr (9, [.int 1, .ref m1, .ref m2, .ref m3, .int 0, .int 0, .int 0]))] H := hP
  have hD : va_D A [(x0, .inr (7, [.ref x1, .ref x2, .ref x45, .ref x53, .ref x55, .ref x57, .int 0, .int 0, .int 0])), (x1, .inl (xc0, 4, .inr (.inr (.inr (.inr (va_up (va_up (va_up (va_up (fun _ => none) 0 (some x59)) 1 (some x61)) 2 (some x63)) 3 (some x65))))))), (m0, .inr (9, [.int 1, .ref m1, .ref m2, .ref m3, .int 0, .int 0, .int 0]))] := hD
  refine lv_istore (lv' := [(6, .int 0), (5, .int 1), (4, .int 0), (3, .ref o0), (2, .ref m0), (1, .ref x0), (0, .ref b)]) hx hb dL_law_508 hl (by decide) rfl (fun ls hl => ?_)
  refine lv_aload_n hx hb dL_law_510 rfl (lv_at hl 4 rfl) ?_
  have hPc := hP.sub (ws' := [(m0, .inr (9, [.int 1, .ref m1, .ref m2, .ref m3, .int 0, .int 0, .int 0]))]) [2] rfl
  have hDc := hD.sub (ws' := [(m0, .inr (9, [.int 1, .ref m1, .ref m2, .ref m3, .int 0, .int 0, .int 0]))]) [2] (by decide) rfl
  have hKc := hK.sub (tys' := []) [] rfl
  have hFc := va_free (wc := [(m0, .inr (9, [.int 1, .ref m1, .ref m2, .ref m3, .int 0, .int 0, .int 0]))]) hD hS hA [2] rfl
  refine va_calli (va_runV (As := []) (rest := []) ⟨hx, hb, hml, hown, hts⟩ (kx_X5_thrown_0 l dC dI m0 m1 m2 m3 H.size) (cwV 0 hts gL_law_X5_thrown rfl rfl rfl (by decide +kernel) ⟨Nat.le_of_ble_eq_true rfl, Nat.le_of_ble_eq_true rfl⟩) ⟨fun a U g mk q => by obtain ⟨q0, q1, qP, qK, qD⟩ := q; exact ⟨q0, q1, qP, va_K.moved (u := U) (U := U.calling g mk a) (Vm.Alike.refl U.vm) qK, qD⟩, va_recv hKc hPc (ci := 9) (q0 := 0) rfl rfl, fun U hU hW => ⟨rfl, by rw [hU], by rw [hU]; exact hPc, va_K.moved hW.alike hKc, hDc.weaken (fun _ _ _ _ => trivial)⟩⟩ rfl rfl hl.1 rfl (lv_room (Nat.le_of_ble_eq_true rfl)) dL_law_511 ⟨Nat.le_of_ble_eq_true rfl, Nat.le_of_ble_eq_true rfl⟩) hS (fun q _ h => hFc q h) hFc (fun r9 u t H1 locs ht hvm hw hB hz1 hk1 hS => ?_)
  obtain rfl := hw
  obtain ⟨hP1, hK1, hD1⟩ := hB
  rw [ht] at hP1
  have hK1 := va_K.moved hvm.symm hK1
  obtain ⟨hP, hD⟩ := va_join (wr := [(x0, .inr (7, [.ref x1, .ref x2, .ref x45, .ref x53, .ref x55, .ref x57, .int 0, .int 0, .int 0])), (x1, .inl (xc0, 4, .inr (.inr (.inr (.inr (va_up (va_up (va_up (va_up (fun _ => none) 0 (some x59)) 1 (some x61)) 2 (some x63)) 3 (some x65)))))))]) (w1 := [(m0, .inr (9, [.int 1, .ref m1, .ref m2, .ref m3, .int 0, .int 0, .int 0]))]) hP hD [2] [0, 1] rfl rfl (by decide) (by decide) hk1 hFc hP1 hD1
  generalize H1 = H at hP hS ⊢
  have hP : va_P (dC, dI) vwCl [(x0, .inr (7, [.ref x1, .ref x2, .ref x45, .ref x53, .ref x55, .ref x57, .int 0, .int 0, .int 0])), (x1, .inl (xc0, 4, .inr (.inr (.inr (.inr (va_up (va_up (va_up (va_up (fun _ => none) 0 (some x59)) 1 (some x61)) 2 (some x63)) 3 (some x65))))))), (m0, .inr (9, [.int 1, .ref m1, .ref m2, .ref m3, .int 0, .int 0, .int 0]))] H := hP
  have hD : va_D A [(x0, .inr (7, [.ref x1, .ref x2, .ref x45, .ref x53, .ref x55, .ref x57, .int 0, .int 0, .int 0])), (x1, .inl (xc0, 4, .inr (.inr (.inr (.inr (va_up (va_up (va_up (va_up (fun _ => none) 0 (some x59)) 1 (some x61)) 2 (some x63)) 3 (some x65))))))), (m0, .inr (9, [.int 1, .ref m1, .ref m2, .ref m3, .int 0, .int 0, .int 0]))] := hD
  refine lv_iload hx hb dL_law_514 (lv_at hl 1 rfl) ?_
  refine lv_icmp_eq (tgt := 521) hx hb dL_law_516 (by decide) (fun _ => ?_) (fun c9 => absurd (by decide) c9)
  refine lv_iload hx hb dL_law_521 (lv_at hl 1 rfl) ?_
  refine lv_if_ne (tgt := 539) hx hb dL_law_523 (by decide) (fun _ => ?_) (fun c9 => absurd c9 (by decide))
  refine lv_goto (tgt := 2342) hx hb dL_law_539 (by decide) ?_
  refine lv_iinc (v := 7) (lv' := [(4, .int 7), (6, .int 0), (5, .int 1), (3, .ref o0), (2, .ref m0), (1, .ref x0), (0, .ref b)]) hx hb dL_law_2342 hl (k := 2) rfl (by decide) (by decide) rfl (fun ls hl => ?_)
  refine lv_goto (tgt := 27) hx hb dL_law_2345 (by decide) ?_
  refine lv_iload hx hb dL_law_27 (lv_at hl 0 rfl) ?_
  refine lv_aload_n hx hb dL_law_29 rfl (lv_at hl 6 rfl) ?_
  refine va_slen hx hb hX hbl hbA hS dL_law_30 ?_
  refine lv_topi (fun y7 ey7 => ?_)
  obtain rfl : y7 = 7 := ey7.trans (by decide)
  refine lv_bipush (v := 7) hx hb dL_law_31 (by decide) ?_
  refine lv_isub hx hb dL_law_33 ?_
  refine lv_topi (fun y8 ey8 => ?_)
  obtain rfl : y8 = 0 := ey8.trans (by decide)
  refine lv_icmp_gt (tgt := 2348) hx hb dL_law_34 (by decide) (fun _ => ?_) (fun c9 => absurd (by decide) c9)
  refine lv_iconst (v := 1) hx hb dL_law_2348 (by decide) ?_
  refine va_forget (fun q hq => (by have h := hS.2.2 q hq; rw [hAe] at h; exact h)) ?_
  refine W.widen (k := 600002) (n := 7302232) (Nat.le_of_ble_eq_true rfl) (Nat.le_of_ble_eq_true rfl) ?_
  exact lw_ret hx hb hr hlocks dL_law_2349
set_option maxHeartbeats 4000000 in
set_option maxRecDepth 100000 in
theorem lc_lay_5 {p : Program} {e : Env} {s : State} {m : MethodId} {below : List Frame} {meth : Method} {c : Code} {l : Launch} (hst : l.stackTraces = false) {b : Nat} {xs : Nat → Int32} (C9 : lx_At p s m meth c b xs) {dC : Nat → ClassId} {dI : Nat → Nat → Nat} {ge5 gea gv5 gva gde gic gi0 : Nat} {x0 x1 x59 x61 x63 x65 m0 m1 x2 x45 x53 x55 x57 x60 x62 x64 x66 m2 m3 o0 : Nat} {xc0 mc0 : ClassId} (hG : gv ge5 gea gv5 gva gde gic gi0 (fun q => s.heap.size ≤ q) s s.heap) {v1 : Int32} (v1_l : (0 : Int) ≤ v1.toInt) (v1_u : v1.toInt ≤ (3 : Int)) {v2 : Int32} (v2_l : (1 : Int) ≤ v2.toInt) (v2_u : v2.toInt ≤ (2147483647 : Int)) {v3 : Int32} (v3_l : (0 : Int) ≤ v3.toInt) (v3_u : v3.toInt ≤ (3 : Int)) (hx1 : xs 1 = v1) (hx2 : xs 2 = v2) (hx3 : xs 3 = v3) {H : Heap} {locs : List Loc} (hK : va_K (dC, dI) vwCl [(xc0, .object "Rewriterope$Text"), (mc0, .object "java/lang/String")] s) (hP : va_P (dC, dI) vwCl [(x0, .inr (7, [.ref x1, .ref x2, .ref x45, .ref x53, .ref x55, .ref x57, .int 0, .int 0, .int 0])), (x1, .inl (xc0, 4, .inr (.inr (.inr (.inr (va_up (va_up (va_up (va_up (fun _ => none) 0 (some x59)) 1 (some x61)) 2 (some x63)) 3 (some x65))))))), (x59, .inr (6, [.ref x60, .int 0])), (x61, .inr (6, [.ref x62, .int 0])), (x63, .inr (6, [.ref x64, .int 0])), (x65, .inr (6, [.ref x66, .int 0])), (m0, .inr (9, [.int 0, .ref m1, .ref m2, .ref m3, .int 0, .int 0, .int 0])), (m1, .inl (mc0, 4, .inr (.inr (.inr (.inr (va_up (va_up (va_up (va_up (fun _ => none) 0 (some ge5)) 1 (some ge5)) 2 (some ge5)) 3 (some ge5)))))))] H) (hD : va_D (fun q => s.heap.size ≤ q) [(x0, .inr (7, [.ref x1, .ref x2, .ref x45, .ref x53, .ref x55, .ref x57, .int 0, .int 0, .int 0])), (x1, .inl (xc0, 4, .inr (.inr (.inr (.inr (va_up (va_up (va_up (va_up (fun _ => none) 0 (some x59)) 1 (some x61)) 2 (some x63)) 3 (some x65))))))), (x59, .inr (6, [.ref x60, .int 0])), (x61, .inr (6, [.ref x62, .int 0])), (x63, .inr (6, [.ref x64, .int 0])), (x65, .inr (6, [.ref x66, .int 0])), (m0, .inr (9, [.int 0, .ref m1, .ref m2, .ref m3, .int 0, .int 0, .int 0])), (m1, .inl (mc0, 4, .inr (.inr (.inr (.inr (va_up (va_up (va_up (va_up (fun _ => none) 0 (some ge5)) 1 (some ge5)) 2 (some ge5)) 3 (some ge5)))))))]) (hS : va_S (fun q => s.heap.size ≤ q) s.heap H locs) {ls : Array Slot} (hl : lv_has ls 7 [(4, .int 0), (3, .ref o0), (2, .ref m0), (1, .ref x0), (0, .ref b)]) : W p l e room_1 s m #[Value.ref b] below meth c H locs 72 2748 (lw_Z below #[Value.ref b] s) (F0 m 461 ls []) := by
  obtain ⟨hx, hb, hr, hml, hown, hts, hX, hbl, hlocks⟩ := id C9
  have hA : ∀ q : Nat, s.heap.size ≤ q → (fun q : Nat => s.heap.size ≤ q) q := fun _ h => h
  have hbA : ¬ (fun q : Nat => s.heap.size ≤ q) b := Nat.not_le.mpr hbl
  obtain ⟨A, hAe⟩ : ∃ A : Nat → Prop, A = (fun q : Nat => s.heap.size ≤ q) := ⟨_, rfl⟩
  rw [← hAe] at hG hD hS hA hbA
  obtain ⟨⟨g_AO_Text, g_AO_String, g_AO_Object, g_nm_RX1_20, g_nm_RX0_17, g_nm_RX3_31, g_nm_RX2_44, g_nm_RL_121, g_nf_RL_13, g_nf_RL_47, g_ca_IO, g_ca_IA, g_ca_IS, g_ca_IntObj, g_ca_StrObj, g_de_RT, g_de_EX, g_de_TH, g_nc_IA_IO, g_nc_IS_IO, g_nc_IS_IA⟩, ⟨g_s3, g_s5, g_sa, g_x278, g_x280, g_x282, g_x284, g_x286, g_x180, g_x238, g_x250⟩, ⟨g_o5, g_c5, g_v5, g_t5, g_oa, g_ca, g_va, g_ta, g_zc, g_zd, g_td, g_zf, g_zU, g_zN, g_zh, g_zk, g_tk, g_oi, g_vi⟩⟩ := id hG
  refine lv_aload_n hx hb dL_law_461 rfl (lv_at hl 3 rfl) ?_
  refine lv_aload_n hx hb dL_law_462 rfl (lv_at hl 4 rfl) ?_
  refine lv_iload hx hb dL_law_463 (lv_at hl 0 rfl) ?_
  refine lv_iconst (v := 1) hx hb dL_law_465 (by decide) ?_
  refine lv_iadd hx hb dL_law_466 ?_
  refine lv_topi (fun y1 ey1 => ?_)
  obtain rfl : y1 = 1 := ey1.trans (by decide)
  refine va_sld hx hb hX hbl hbA hS (by unfold vp_in; decide) dL_law_467 ?_
  rw [show xs (Int32.toNatClampNeg 1) = v1 from hx1]
  refine lv_aload_n hx hb dL_law_468 rfl (lv_at hl 4 rfl) ?_
  refine lv_iload hx hb dL_law_469 (lv_at hl 0 rfl) ?_
  refine lv_iconst (v := 2) hx hb dL_law_471 (by decide) ?_
  refine lv_iadd hx hb dL_law_472 ?_
  refine lv_topi (fun y2 ey2 => ?_)
  obtain rfl : y2 = 2 := ey2.trans (by decide)
  refine va_sld hx hb hX hbl hbA hS (by unfold vp_in; decide) dL_law_473 ?_
  rw [show xs (Int32.toNatClampNeg 2) = v2 from hx2]
  refine lv_aload_n hx hb dL_law_474 rfl (lv_at hl 4 rfl) ?_
  refine lv_iload hx hb dL_law_475 (lv_at hl 0 rfl) ?_
  refine lv_iconst (v := 3) hx hb dL_law_477 (by decide) ?_
  refine lv_iadd hx hb dL_law_478 ?_
  refine lv_topi (fun y3 ey3 => ?_)
  obtain rfl : y3 = 3 := ey3.trans (by decide)
  refine va_sld hx hb hX hbl hbA hS (by unfold vp_in; decide) dL_law_479 ?_
  rw [show xs (Int32.toNatClampNeg 3) = v3 from hx3]
  refine lv_aload_n hx hb dL_law_480 rfl (lv_at hl 1 rfl) ?_
  have hPc := hP.sub (ws' := [(x0, .inr (7, [.ref x1, .ref x2, .ref x45, .ref x53, .ref x55, .ref x57, .int 0, .int 0, .int 0])), (x1, .inl (xc0, 4, .inr (.inr (.inr (.inr (va_up (va_up (va_up (va_up (fun _ => none) 0 (some x59)) 1 (some x61)) 2 (some x63)) 3 (some x65))))))), (x59, .inr (6, [.ref x60, .int 0])), (x61, .inr (6, [.ref x62, .int 0])), (x63, .inr (6, [.ref x64, .int 0])), (x65, .inr (6, [.ref x66, .int 0]))]) [0, 1, 2, 3, 4, 5] rfl
  have hDc := hD.sub (ws' := [(x0, .inr (7, [.ref x1, .ref x2, .ref x45, .ref x53, .ref x55, .ref x57, .int 0, .int 0, .int 0])), (x1, .inl (xc0, 4, .inr (.inr (.inr (.inr (va_up (va_up (va_up (va_up (fun _ => none) 0 (some x59)) 1 (some x61)) 2 (some x63)) 3 (some x65))))))), (x59, .inr (6, [.ref x60, .int 0])), (x61, .inr (6, [.ref x62, .int 0])), (x63, .inr (6, [.ref x64, .int 0])), (x65, .inr (6, [.ref x66, .int 0]))]) [0, 1, 2, 3, 4, 5] (by decide) rfl
  have hKc := hK.sub (tys' := [(xc0, .object "Rewriterope$Text")]) [0] rfl
  have hFc := va_free (wc := [(x0, .inr (7, [.ref x1, .ref x2, .ref x45, .ref x53, .ref x55, .ref x57, .int 0, .int 0, .int 0])), (x1, .inl (xc0, 4, .inr (.inr (.inr (.inr (va_up (va_up (va_up (va_up (fun _ => none) 0 (some x59)) 1 (some x61)) 2 (some x63)) 3 (some x65))))))), (x59, .inr (6, [.ref x60, .int 0])), (x61, .inr (6, [.ref x62, .int 0])), (x63, .inr (6, [.ref x64, .int 0])), (x65, .inr (6, [.ref x66, .int 0]))]) hD hS hA [0, 1, 2, 3, 4, 5] rfl
  refine va_calli (vx_runSW (As := [.ref x0, .int v1, .int v2, .int v3, .ref o0]) (rest := []) ⟨hx, hb, hml, hown, hts⟩ (kx_L_lay_5 l hst dC dI ge5 gea gv5 gva gde gic gi0 x0 x1 x59 x61 x63 x65 o0 x2 x45 x53 x55 x57 x60 x62 x64 x66 xc0 H.size v1 v1_l v1_u v2 v2_l v2_u v3 v3_l v3_u) (vx_cwSW 5 hts gL_law_L_lay rfl rfl rfl (by decide +kernel) ⟨Nat.le_of_ble_eq_true rfl, Nat.le_of_ble_eq_true rfl⟩) ⟨fun a U g mk q => by obtain ⟨q0, q1, qP, qK, qD, qG⟩ := q; exact ⟨q0, q1, qP, va_K.moved (u := U) (U := U.calling g mk a) (Vm.Alike.refl U.vm) qK, qD, gv.fb qG⟩, fun U hU hW => ⟨rfl, by rw [hU], by rw [hU]; exact hPc, va_K.moved hW.alike hKc, hDc.weaken (fun _ _ _ _ => trivial), gv.pass hW hU hS hFc hG⟩⟩ rfl rfl hl.1 rfl (lv_room (Nat.le_of_ble_eq_true rfl)) dL_law_481 ⟨Nat.le_of_ble_eq_true rfl, Nat.le_of_ble_eq_true rfl⟩) hS (fun q _ h => hFc q h) hFc (fun r9 u t H1 locs ht hvm hw hB hz1 hk1 hS => ?_)
  obtain rfl := hw
  obtain ⟨hP1, hK1, hD1⟩ := hB
  rw [ht] at hP1
  have hK1 := va_K.moved hvm.symm hK1
  obtain ⟨hP, hD⟩ := va_join (wr := [(m0, .inr (9, [.int 0, .ref m1, .ref m2, .ref m3, .int 0, .int 0, .int 0])), (m1, .inl (mc0, 4, .inr (.inr (.inr (.inr (va_up (va_up (va_up (va_up (fun _ => none) 0 (some ge5)) 1 (some ge5)) 2 (some ge5)) 3 (some ge5)))))))]) (w1 := [(x0, .inr (7, [.ref x1, .ref x2, .ref x45, .ref x53, .ref x55, .ref x57, .int 0, .int 0, .int 0])), (x1, .inl (xc0, 4, .inr (.inr (.inr (.inr (va_up (va_up (va_up (va_up (fun _ => none) 0 (some x59)) 1 (some x61)) 2 (some x63)) 3 (some x65))))))), (x59, .inr (6, [.ref x60, .int 0])), (x61, .inr (6, [.ref x62, .int 0])), (x63, .inr (6, [.ref x64, .int 0])), (x65, .inr (6, [.ref x66, .int 0]))]) hP hD [0, 1, 2, 3, 4, 5] [6, 7] rfl rfl (by decide) (by decide) hk1 hFc hP1 hD1
  generalize H1 = H at hP hS ⊢
  have hP : va_P (dC, dI) vwCl [(m0, .inr (9, [.int 0, .ref m1, .ref m2, .ref m3, .int 0, .int 0, .int 0])), (m1, .inl (mc0, 4, .inr (.inr (.inr (.inr (va_up (va_up (va_up (va_up (fun _ => none) 0 (some ge5)) 1 (some ge5)) 2 (some ge5)) 3 (some ge5))))))), (x0, .inr (7, [.ref x1, .ref x2, .ref x45, .ref x53, .ref x55, .ref x57, .int 0, .int 0, .int 0])), (x1, .inl (xc0, 4, .inr (.inr (.inr (.inr (va_up (va_up (va_up (va_up (fun _ => none) 0 (some x59)) 1 (some x61)) 2 (some x63)) 3 (some x65))))))), (x59, .inr (6, [.ref x60, .int 0])), (x61, .inr (6, [.ref x62, .int 0])), (x63, .inr (6, [.ref x64, .int 0])), (x65, .inr (6, [.ref x66, .int 0]))] H := hP
  have hD : va_D A [(m0, .inr (9, [.int 0, .ref m1, .ref m2, .ref m3, .int 0, .int 0, .int 0])), (m1, .inl (mc0, 4, .inr (.inr (.inr (.inr (va_up (va_up (va_up (va_up (fun _ => none) 0 (some ge5)) 1 (some ge5)) 2 (some ge5)) 3 (some ge5))))))), (x0, .inr (7, [.ref x1, .ref x2, .ref x45, .ref x53, .ref x55, .ref x57, .int 0, .int 0, .int 0])), (x1, .inl (xc0, 4, .inr (.inr (.inr (.inr (va_up (va_up (va_up (va_up (fun _ => none) 0 (some x59)) 1 (some x61)) 2 (some x63)) 3 (some x65))))))), (x59, .inr (6, [.ref x60, .int 0])), (x61, .inr (6, [.ref x62, .int 0])), (x63, .inr (6, [.ref x64, .int 0])), (x65, .inr (6, [.ref x66, .int 0]))] := hD
  refine W.widen (k := 73) (n := 2754) (by omega) (by omega) ?_
  refine lv_istore (lv' := [(5, .int 1), (4, .int 0), (3, .ref o0), (2, .ref m0), (1, .ref x0), (0, .ref b)]) hx hb dL_law_484 hl (by decide) rfl (fun ls hl => ?_)
  refine lv_aload_n hx hb dL_law_486 rfl (lv_at hl 3 rfl) ?_
  refine lv_aload_n hx hb dL_law_487 rfl (lv_at hl 5 rfl) ?_
  refine lv_iload hx hb dL_law_488 (lv_at hl 1 rfl) ?_
  refine lv_iconst (v := 1) hx hb dL_law_490 (by decide) ?_
  refine lv_iadd hx hb dL_law_491 ?_
  refine lv_topi (fun y4 ey4 => ?_)
  obtain rfl : y4 = 1 := ey4.trans (by decide)
  refine va_sld hx hb hX hbl hbA hS (by unfold vp_in; decide) dL_law_492 ?_
  rw [show xs (Int32.toNatClampNeg 1) = v1 from hx1]
  refine lv_aload_n hx hb dL_law_493 rfl (lv_at hl 5 rfl) ?_
  refine lv_iload hx hb dL_law_494 (lv_at hl 1 rfl) ?_
  refine lv_iconst (v := 2) hx hb dL_law_496 (by decide) ?_
  refine lv_iadd hx hb dL_law_497 ?_
  refine lv_topi (fun y5 ey5 => ?_)
  obtain rfl : y5 = 2 := ey5.trans (by decide)
  refine va_sld hx hb hX hbl hbA hS (by unfold vp_in; decide) dL_law_498 ?_
  rw [show xs (Int32.toNatClampNeg 2) = v2 from hx2]
  refine lv_aload_n hx hb dL_law_499 rfl (lv_at hl 5 rfl) ?_
  refine lv_iload hx hb dL_law_500 (lv_at hl 1 rfl) ?_
  refine lv_iconst (v := 3) hx hb dL_law_502 (by decide) ?_
  refine lv_iadd hx hb dL_law_503 ?_
  refine lv_topi (fun y6 ey6 => ?_)
  obtain rfl : y6 = 3 := ey6.trans (by decide)
  refine va_sld hx hb hX hbl hbA hS (by unfold vp_in; decide) dL_law_504 ?_
  rw [show xs (Int32.toNatClampNeg 3) = v3 from hx3]
  have hPc := hP.sub (ws' := [(m0, .inr (9, [.int 0, .ref m1, .ref m2, .ref m3, .int 0, .int 0, .int 0])), (m1, .inl (mc0, 4, .inr (.inr (.inr (.inr (va_up (va_up (va_up (va_up (fun _ => none) 0 (some ge5)) 1 (some ge5)) 2 (some ge5)) 3 (some ge5)))))))]) [0, 1] rfl
  have hDc := hD.sub (ws' := [(m0, .inr (9, [.int 0, .ref m1, .ref m2, .ref m3, .int 0, .int 0, .int 0])), (m1, .inl (mc0, 4, .inr (.inr (.inr (.inr (va_up (va_up (va_up (va_up (fun _ => none) 0 (some ge5)) 1 (some ge5)) 2 (some ge5)) 3 (some ge5)))))))]) [0, 1] (by decide) rfl
  have hKc := hK.sub (tys' := [(mc0, .object "java/lang/String")]) [1] rfl
  have hFc := va_free (wc := [(m0, .inr (9, [.int 0, .ref m1, .ref m2, .ref m3, .int 0, .int 0, .int 0])), (m1, .inl (mc0, 4, .inr (.inr (.inr (.inr (va_up (va_up (va_up (va_up (fun _ => none) 0 (some ge5)) 1 (some ge5)) 2 (some ge5)) 3 (some ge5)))))))]) hD hS hA [0, 1] rfl
  refine va_calli (va_runV (As := [.int v1, .int v2, .int v3]) (rest := []) ⟨hx, hb, hml, hown, hts⟩ (kx_X5_lay_5 l dC dI ge5 gea gv5 gva gde gic gi0 m0 m1 m2 m3 mc0 H.size v1 v1_l v1_u v2 v2_l v2_u v3 v3_l v3_u) (cwV 3 hts gL_law_X5_lay rfl rfl rfl (by decide +kernel) ⟨Nat.le_of_ble_eq_true rfl, Nat.le_of_ble_eq_true rfl⟩) ⟨fun a U g mk q => by obtain ⟨q0, q1, qP, qK, qD, qG⟩ := q; exact ⟨q0, q1, qP, va_K.moved (u := U) (U := U.calling g mk a) (Vm.Alike.refl U.vm) qK, qD, gv.fb qG⟩, va_recv hKc hPc (ci := 9) (q0 := 0) rfl rfl, fun U hU hW => ⟨rfl, by rw [hU], by rw [hU]; exact hPc, va_K.moved hW.alike hKc, hDc.weaken (fun _ _ _ _ => trivial), gv.pass hW hU hS hFc hG⟩⟩ rfl rfl hl.1 rfl (lv_room (Nat.le_of_ble_eq_true rfl)) dL_law_505 ⟨Nat.le_of_ble_eq_true rfl, Nat.le_of_ble_eq_true rfl⟩) hS (fun q _ h => hFc q h) hFc (fun r9 u t H1 locs ht hvm hw hB hz1 hk1 hS => ?_)
  obtain rfl := hw
  obtain ⟨hP1, hK1, hD1⟩ := hB
  rw [ht] at hP1
  have hK1 := va_K.moved hvm.symm hK1
  obtain ⟨hP, hD⟩ := va_join (wr := [(x0, .inr (7, [.ref x1, .ref x2, .ref x45, .ref x53, .ref x55, .ref x57, .int 0, .int 0, .int 0])), (x1, .inl (xc0, 4, .inr (.inr (.inr (.inr (va_up (va_up (va_up (va_up (fun _ => none) 0 (some x59)) 1 (some x61)) 2 (some x63)) 3 (some x65))))))), (x59, .inr (6, [.ref x60, .int 0])), (x61, .inr (6, [.ref x62, .int 0])), (x63, .inr (6, [.ref x64, .int 0])), (x65, .inr (6, [.ref x66, .int 0]))]) (w1 := [(m0, .inr (9, [.int 1, .ref m1, .ref m2, .ref m3, .int 0, .int 0, .int 0]))]) hP hD [0, 1] [2, 3, 4, 5, 6, 7] rfl rfl (by decide) (by decide) hk1 hFc hP1 hD1
  generalize H1 = H at hP hS ⊢
  have hP : va_P (dC, dI) vwCl [(x0, .inr (7, [.ref x1, .ref x2, .ref x45, .ref x53, .ref x55, .ref x57, .int 0, .int 0, .int 0])), (x1, .inl (xc0, 4, .inr (.inr (.inr (.inr (va_up (va_up (va_up (va_up (fun _ => none) 0 (some x59)) 1 (some x61)) 2 (some x63)) 3 (some x65))))))), (x59, .inr (6, [.ref x60, .int 0])), (x61, .inr (6, [.ref x62, .int 0])), (x63, .inr (6, [.ref x64, .int 0])), (x65, .inr (6, [.ref x66, .int 0])), (m0, .inr (9, [.int 1, .ref m1, .ref m2, .ref m3, .int 0, .int 0, .int 0]))] H := hP
  have hD : va_D A [(x0, .inr (7, [.ref x1, .ref x2, .ref x45, .ref x53, .ref x55, .ref x57, .int 0, .int 0, .int 0])), (x1, .inl (xc0, 4, .inr (.inr (.inr (.inr (va_up (va_up (va_up (va_up (fun _ => none) 0 (some x59)) 1 (some x61)) 2 (some x63)) 3 (some x65))))))), (x59, .inr (6, [.ref x60, .int 0])), (x61, .inr (6, [.ref x62, .int 0])), (x63, .inr (6, [.ref x64, .int 0])), (x65, .inr (6, [.ref x66, .int 0])), (m0, .inr (9, [.int 1, .ref m1, .ref m2, .ref m3, .int 0, .int 0, .int 0]))] := hD
  refine lv_istore (lv' := [(6, .int 0), (5, .int 1), (4, .int 0), (3, .ref o0), (2, .ref m0), (1, .ref x0), (0, .ref b)]) hx hb dL_law_508 hl (by decide) rfl (fun ls hl => ?_)
  refine lv_aload_n hx hb dL_law_510 rfl (lv_at hl 4 rfl) ?_
  have hPc := hP.sub (ws' := [(m0, .inr (9, [.int 1, .ref m1, .ref m2, .ref m3, .int 0, .int 0, .int 0]))]) [6] rfl
  have hDc := hD.sub (ws' := [(m0, .inr (9, [.int 1, .ref m1, .ref m2, .ref m3, .int 0, .int 0, .int 0]))]) [6] (by decide) rfl
  have hKc := hK.sub (tys' := []) [] rfl
  have hFc := va_free (wc := [(m0, .inr (9, [.int 1, .ref m1, .ref m2, .ref m3, .int 0, .int 0, .int 0]))]) hD hS hA [6] rfl
  refine va_calli (va_runV (As := []) (rest := []) ⟨hx, hb, hml, hown, hts⟩ (kx_X5_thrown_0 l dC dI m0 m1 m2 m3 H.size) (cwV 0 hts gL_law_X5_thrown rfl rfl rfl (by decide +kernel) ⟨Nat.le_of_ble_eq_true rfl, Nat.le_of_ble_eq_true rfl⟩) ⟨fun a U g mk q => by obtain ⟨q0, q1, qP, qK, qD⟩ := q; exact ⟨q0, q1, qP, va_K.moved (u := U) (U := U.calling g mk a) (Vm.Alike.refl U.vm) qK, qD⟩, va_recv hKc hPc (ci := 9) (q0 := 0) rfl rfl, fun U hU hW => ⟨rfl, by rw [hU], by rw [hU]; exact hPc, va_K.moved hW.alike hKc, hDc.weaken (fun _ _ _ _ => trivial)⟩⟩ rfl rfl hl.1 rfl (lv_room (Nat.le_of_ble_eq_true rfl)) dL_law_511 ⟨Nat.le_of_ble_eq_true rfl, Nat.le_of_ble_eq_true rfl⟩) hS (fun q _ h => hFc q h) hFc (fun r9 u t H1 locs ht hvm hw hB hz1 hk1 hS => ?_)
  obtain rfl := hw
  obtain ⟨hP1, hK1, hD1⟩ := hB
  rw [ht] at hP1
  have hK1 := va_K.moved hvm.symm hK1
  obtain ⟨hP, hD⟩ := va_join (wr := [(x0, .inr (7, [.ref x1, .ref x2, .ref x45, .ref x53, .ref x55, .ref x57, .int 0, .int 0, .int 0])), (x1, .inl (xc0, 4, .inr (.inr (.inr (.inr (va_up (va_up (va_up (va_up (fun _ => none) 0 (some x59)) 1 (some x61)) 2 (some x63)) 3 (some x65))))))), (x59, .inr (6, [.ref x60, .int 0])), (x61, .inr (6, [.ref x62, .int 0])), (x63, .inr (6, [.ref x64, .int 0])), (x65, .inr (6, [.ref x66, .int 0]))]) (w1 := [(m0, .inr (9, [.int 1, .ref m1, .ref m2, .ref m3, .int 0, .int 0, .int 0]))]) hP hD [6] [0, 1, 2, 3, 4, 5] rfl rfl (by decide) (by decide) hk1 hFc hP1 hD1
  generalize H1 = H at hP hS ⊢
  have hP : va_P (dC, dI) vwCl [(x0, .inr (7, [.ref x1, .ref x2, .ref x45, .ref x53, .ref x55, .ref x57, .int 0, .int 0, .int 0])), (x1, .inl (xc0, 4, .inr (.inr (.inr (.inr (va_up (va_up (va_up (va_up (fun _ => none) 0 (some x59)) 1 (some x61)) 2 (some x63)) 3 (some x65))))))), (x59, .inr (6, [.ref x60, .int 0])), (x61, .inr (6, [.ref x62, .int 0])), (x63, .inr (6, [.ref x64, .int 0])), (x65, .inr (6, [.ref x66, .int 0])), (m0, .inr (9, [.int 1, .ref m1, .ref m2, .ref m3, .int 0, .int 0, .int 0]))] H := hP
  have hD : va_D A [(x0, .inr (7, [.ref x1, .ref x2, .ref x45, .ref x53, .ref x55, .ref x57, .int 0, .int 0, .int 0])), (x1, .inl (xc0, 4, .inr (.inr (.inr (.inr (va_up (va_up (va_up (va_up (fun _ => none) 0 (some x59)) 1 (some x61)) 2 (some x63)) 3 (some x65))))))), (x59, .inr (6, [.ref x60, .int 0])), (x61, .inr (6, [.ref x62, .int 0])), (x63, .inr (6, [.ref x64, .int 0])), (x65, .inr (6, [.ref x66, .int 0])), (m0, .inr (9, [.int 1, .ref m1, .ref m2, .ref m3, .int 0, .int 0, .int 0]))] := hD
  refine lv_iload hx hb dL_law_514 (lv_at hl 1 rfl) ?_
  refine lv_icmp_eq (tgt := 521) hx hb dL_law_516 (by decide) (fun _ => ?_) (fun c9 => absurd (by decide) c9)
  refine lv_iload hx hb dL_law_521 (lv_at hl 1 rfl) ?_
  refine lv_if_ne (tgt := 539) hx hb dL_law_523 (by decide) (fun _ => ?_) (fun c9 => absurd c9 (by decide))
  refine lv_goto (tgt := 2342) hx hb dL_law_539 (by decide) ?_
  refine lv_iinc (v := 7) (lv' := [(4, .int 7), (6, .int 0), (5, .int 1), (3, .ref o0), (2, .ref m0), (1, .ref x0), (0, .ref b)]) hx hb dL_law_2342 hl (k := 2) rfl (by decide) (by decide) rfl (fun ls hl => ?_)
  refine lv_goto (tgt := 27) hx hb dL_law_2345 (by decide) ?_
  refine lv_iload hx hb dL_law_27 (lv_at hl 0 rfl) ?_
  refine lv_aload_n hx hb dL_law_29 rfl (lv_at hl 6 rfl) ?_
  refine va_slen hx hb hX hbl hbA hS dL_law_30 ?_
  refine lv_topi (fun y7 ey7 => ?_)
  obtain rfl : y7 = 7 := ey7.trans (by decide)
  refine lv_bipush (v := 7) hx hb dL_law_31 (by decide) ?_
  refine lv_isub hx hb dL_law_33 ?_
  refine lv_topi (fun y8 ey8 => ?_)
  obtain rfl : y8 = 0 := ey8.trans (by decide)
  refine lv_icmp_gt (tgt := 2348) hx hb dL_law_34 (by decide) (fun _ => ?_) (fun c9 => absurd (by decide) c9)
  refine lv_iconst (v := 1) hx hb dL_law_2348 (by decide) ?_
  refine va_forget (fun q hq => (by have h := hS.2.2 q hq; rw [hAe] at h; exact h)) ?_
  refine W.widen (k := 600002) (n := 7302232) (Nat.le_of_ble_eq_true rfl) (Nat.le_of_ble_eq_true rfl) ?_
  exact lw_ret hx hb hr hlocks dL_law_2349
set_option maxHeartbeats 4000000 in
set_option maxRecDepth 100000 in
theorem lc_lay_6 {p : Program} {e : Env} {s : State} {m : MethodId} {below : List Frame} {meth : Method} {c : Code} {l : Launch} (hst : l.stackTraces = false) {b : Nat} {xs : Nat → Int32} (C9 : lx_At p s m meth c b xs) {dC : Nat → ClassId} {dI : Nat → Nat → Nat} {ge5 gea gv5 gva gde gic gi0 : Nat} {x0 x1 x53 x54 x59 x60 x61 x62 x63 x64 x65 x66 m0 m1 o0 x2 x45 x55 x57 m2 m3 : Nat} {xc0 xc27 xc30 xc31 xc32 xc33 mc0 : ClassId} (hG : gv ge5 gea gv5 gva gde gic gi0 (fun q => s.heap.size ≤ q) s s.heap) {v1 : Int32} (v1_l : (0 : Int) ≤ v1.toInt) (v1_u : v1.toInt ≤ (3 : Int)) {v3 : Int32} (v3_l : (0 : Int) ≤ v3.toInt) (v3_u : v3.toInt ≤ (3 : Int)) (hx1 : xs 1 = v1) (hx2 : xs 2 = 0) (hx3 : xs 3 = v3) {H : Heap} {locs : List Loc} (hK : va_K (dC, dI) vwCl [(xc0, .object "Rewriterope$Text"), (xc27, .byte), (xc30, .byte), (xc31, .byte), (xc32, .byte), (xc33, .byte), (mc0, .object "java/lang/String")] s) (hP : va_P (dC, dI) vwCl [(x0, .inr (7, [.ref x1, .ref x2, .ref x45, .ref x53, .ref x55, .ref x57, .int 0, .int 0, .int 0])), (x1, .inl (xc0, 4, .inr (.inr (.inr (.inr (va_up (va_up (va_up (va_up (fun _ => none) 0 (some x59)) 1 (some x61)) 2 (some x63)) 3 (some x65))))))), (x53, .inr (6, [.ref x54, .int 0])), (x54, .inl (xc27, 64, .inl (fun _ => 0))), (x59, .inr (6, [.ref x60, .int 0])), (x60, .inl (xc30, 64, .inl (fun _ => 0))), (x61, .inr (6, [.ref x62, .int 0])), (x62, .inl (xc31, 64, .inl (fun _ => 0))), (x63, .inr (6, [.ref x64, .int 0])), (x64, .inl (xc32, 64, .inl (fun _ => 0))), (x65, .inr (6, [.ref x66, .int 0])), (x66, .inl (xc33, 64, .inl (fun _ => 0))), (m0, .inr (9, [.int 0, .ref m1, .ref m2, .ref m3, .int 0, .int 0, .int 0])), (m1, .inl (mc0, 4, .inr (.inr (.inr (.inr (va_up (va_up (va_up (va_up (fun _ => none) 0 (some ge5)) 1 (some ge5)) 2 (some ge5)) 3 (some ge5))))))), (o0, .inr (8, [.long 0, .null]))] H) (hD : va_D (fun q => s.heap.size ≤ q) [(x0, .inr (7, [.ref x1, .ref x2, .ref x45, .ref x53, .ref x55, .ref x57, .int 0, .int 0, .int 0])), (x1, .inl (xc0, 4, .inr (.inr (.inr (.inr (va_up (va_up (va_up (va_up (fun _ => none) 0 (some x59)) 1 (some x61)) 2 (some x63)) 3 (some x65))))))), (x53, .inr (6, [.ref x54, .int 0])), (x54, .inl (xc27, 64, .inl (fun _ => 0))), (x59, .inr (6, [.ref x60, .int 0])), (x60, .inl (xc30, 64, .inl (fun _ => 0))), (x61, .inr (6, [.ref x62, .int 0])), (x62, .inl (xc31, 64, .inl (fun _ => 0))), (x63, .inr (6, [.ref x64, .int 0])), (x64, .inl (xc32, 64, .inl (fun _ => 0))), (x65, .inr (6, [.ref x66, .int 0])), (x66, .inl (xc33, 64, .inl (fun _ => 0))), (m0, .inr (9, [.int 0, .ref m1, .ref m2, .ref m3, .int 0, .int 0, .int 0])), (m1, .inl (mc0, 4, .inr (.inr (.inr (.inr (va_up (va_up (va_up (va_up (fun _ => none) 0 (some ge5)) 1 (some ge5)) 2 (some ge5)) 3 (some ge5))))))), (o0, .inr (8, [.long 0, .null]))]) (hS : va_S (fun q => s.heap.size ≤ q) s.heap H locs) {ls : Array Slot} (hl : lv_has ls 7 [(4, .int 0), (3, .ref o0), (2, .ref m0), (1, .ref x0), (0, .ref b)]) : W p l e room_1 s m #[Value.ref b] below meth c H locs 72 2748 (lw_Z below #[Value.ref b] s) (F0 m 461 ls []) := by
  obtain ⟨hx, hb, hr, hml, hown, hts, hX, hbl, hlocks⟩ := id C9
  have hA : ∀ q : Nat, s.heap.size ≤ q → (fun q : Nat => s.heap.size ≤ q) q := fun _ h => h
  have hbA : ¬ (fun q : Nat => s.heap.size ≤ q) b := Nat.not_le.mpr hbl
  obtain ⟨A, hAe⟩ : ∃ A : Nat → Prop, A = (fun q : Nat => s.heap.size ≤ q) := ⟨_, rfl⟩
  rw [← hAe] at hG hD hS hA hbA
  obtain ⟨⟨g_AO_Text, g_AO_String, g_AO_Object, g_nm_RX1_20, g_nm_RX0_17, g_nm_RX3_31, g_nm_RX2_44, g_nm_RL_121, g_nf_RL_13, g_nf_RL_47, g_ca_IO, g_ca_IA, g_ca_IS, g_ca_IntObj, g_ca_StrObj, g_de_RT, g_de_EX, g_de_TH, g_nc_IA_IO, g_nc_IS_IO, g_nc_IS_IA⟩, ⟨g_s3, g_s5, g_sa, g_x278, g_x280, g_x282, g_x284, g_x286, g_x180, g_x238, g_x250⟩, ⟨g_o5, g_c5, g_v5, g_t5, g_oa, g_ca, g_va, g_ta, g_zc, g_zd, g_td, g_zf, g_zU, g_zN, g_zh, g_zk, g_tk, g_oi, g_vi⟩⟩ := id hG
  refine lv_aload_n hx hb dL_law_461 rfl (lv_at hl 3 rfl) ?_
  refine lv_aload_n hx hb dL_law_462 rfl (lv_at hl 4 rfl) ?_
  refine lv_iload hx hb dL_law_463 (lv_at hl 0 rfl) ?_
  refine lv_iconst (v := 1) hx hb dL_law_465 (by decide) ?_
  refine lv_iadd hx hb dL_law_466 ?_
  refine lv_topi (fun y1 ey1 => ?_)
  obtain rfl : y1 = 1 := ey1.trans (by decide)
  refine va_sld hx hb hX hbl hbA hS (by unfold vp_in; decide) dL_law_467 ?_
  rw [show xs (Int32.toNatClampNeg 1) = v1 from hx1]
  refine lv_aload_n hx hb dL_law_468 rfl (lv_at hl 4 rfl) ?_
  refine lv_iload hx hb dL_law_469 (lv_at hl 0 rfl) ?_
  refine lv_iconst (v := 2) hx hb dL_law_471 (by decide) ?_
  refine lv_iadd hx hb dL_law_472 ?_
  refine lv_topi (fun y2 ey2 => ?_)
  obtain rfl : y2 = 2 := ey2.trans (by decide)
  refine va_sld hx hb hX hbl hbA hS (by unfold vp_in; decide) dL_law_473 ?_
  rw [show xs (Int32.toNatClampNeg 2) = 0 from hx2]
  refine lv_aload_n hx hb dL_law_474 rfl (lv_at hl 4 rfl) ?_
  refine lv_iload hx hb dL_law_475 (lv_at hl 0 rfl) ?_
  refine lv_iconst (v := 3) hx hb dL_law_477 (by decide) ?_
  refine lv_iadd hx hb dL_law_478 ?_
  refine lv_topi (fun y3 ey3 => ?_)
  obtain rfl : y3 = 3 := ey3.trans (by decide)
  refine va_sld hx hb hX hbl hbA hS (by unfold vp_in; decide) dL_law_479 ?_
  rw [show xs (Int32.toNatClampNeg 3) = v3 from hx3]
  refine lv_aload_n hx hb dL_law_480 rfl (lv_at hl 1 rfl) ?_
  have hPc := hP.sub (ws' := [(x0, .inr (7, [.ref x1, .ref x2, .ref x45, .ref x53, .ref x55, .ref x57, .int 0, .int 0, .int 0])), (x1, .inl (xc0, 4, .inr (.inr (.inr (.inr (va_up (va_up (va_up (va_up (fun _ => none) 0 (some x59)) 1 (some x61)) 2 (some x63)) 3 (some x65))))))), (x53, .inr (6, [.ref x54, .int 0])), (x54, .inl (xc27, 64, .inl (fun _ => 0))), (x59, .inr (6, [.ref x60, .int 0])), (x60, .inl (xc30, 64, .inl (fun _ => 0))), (x61, .inr (6, [.ref x62, .int 0])), (x62, .inl (xc31, 64, .inl (fun _ => 0))), (x63, .inr (6, [.ref x64, .int 0])), (x64, .inl (xc32, 64, .inl (fun _ => 0))), (x65, .inr (6, [.ref x66, .int 0])), (x66, .inl (xc33, 64, .inl (fun _ => 0))), (o0, .inr (8, [.long 0, .null]))]) [0, 1, 2, 3, 4, 5, 6, 7, 8, 9, 10, 11, 14] rfl
  have hDc := hD.sub (ws' := [(x0, .inr (7, [.ref x1, .ref x2, .ref x45, .ref x53, .ref x55, .ref x57, .int 0, .int 0, .int 0])), (x1, .inl (xc0, 4, .inr (.inr (.inr (.inr (va_up (va_up (va_up (va_up (fun _ => none) 0 (some x59)) 1 (some x61)) 2 (some x63)) 3 (some x65))))))), (x53, .inr (6, [.ref x54, .int 0])), (x54, .inl (xc27, 64, .inl (fun _ => 0))), (x59, .inr (6, [.ref x60, .int 0])), (x60, .inl (xc30, 64, .inl (fun _ => 0))), (x61, .inr (6, [.ref x62, .int 0])), (x62, .inl (xc31, 64, .inl (fun _ => 0))), (x63, .inr (6, [.ref x64, .int 0])), (x64, .inl (xc32, 64, .inl (fun _ => 0))), (x65, .inr (6, [.ref x66, .int 0])), (x66, .inl (xc33, 64, .inl (fun _ => 0))), (o0, .inr (8, [.long 0, .null]))]) [0, 1, 2, 3, 4, 5, 6, 7, 8, 9, 10, 11, 14] (by decide) rfl
  have hKc := hK.sub (tys' := [(xc0, .object "Rewriterope$Text"), (xc27, .byte), (xc30, .byte), (xc31, .byte), (xc32, .byte), (xc33, .byte)]) [0, 1, 2, 3, 4, 5] rfl
  have hFc := va_free (wc := [(x0, .inr (7, [.ref x1, .ref x2, .ref x45, .ref x53, .ref x55, .ref x57, .int 0, .int 0, .int 0])), (x1, .inl (xc0, 4, .inr (.inr (.inr (.inr (va_up (va_up (va_up (va_up (fun _ => none) 0 (some x59)) 1 (some x61)) 2 (some x63)) 3 (some x65))))))), (x53, .inr (6, [.ref x54, .int 0])), (x54, .inl (xc27, 64, .inl (fun _ => 0))), (x59, .inr (6, [.ref x60, .int 0])), (x60, .inl (xc30, 64, .inl (fun _ => 0))), (x61, .inr (6, [.ref x62, .int 0])), (x62, .inl (xc31, 64, .inl (fun _ => 0))), (x63, .inr (6, [.ref x64, .int 0])), (x64, .inl (xc32, 64, .inl (fun _ => 0))), (x65, .inr (6, [.ref x66, .int 0])), (x66, .inl (xc33, 64, .inl (fun _ => 0))), (o0, .inr (8, [.long 0, .null]))]) hD hS hA [0, 1, 2, 3, 4, 5, 6, 7, 8, 9, 10, 11, 14] rfl
  refine va_calli (vx_runSW (As := [.ref x0, .int v1, .int 0, .int v3, .ref o0]) (rest := []) ⟨hx, hb, hml, hown, hts⟩ (kx_L_lay_6 l dC dI ge5 gea gv5 gva gde gic gi0 x0 x1 x53 x54 x59 x60 x61 x62 x63 x64 x65 x66 o0 x2 x45 x55 x57 xc0 xc27 xc30 xc31 xc32 xc33 H.size v1 v1_l v1_u v3 v3_l v3_u) (vx_cwSW 5 hts gL_law_L_lay rfl rfl rfl (by decide +kernel) ⟨Nat.le_of_ble_eq_true rfl, Nat.le_of_ble_eq_true rfl⟩) ⟨fun a U g mk q => by obtain ⟨q0, q1, qP, qK, qD, qG⟩ := q; exact ⟨q0, q1, qP, va_K.moved (u := U) (U := U.calling g mk a) (Vm.Alike.refl U.vm) qK, qD, gv.fb qG⟩, fun U hU hW => ⟨rfl, by rw [hU], by rw [hU]; exact hPc, va_K.moved hW.alike hKc, hDc.weaken (fun _ _ _ _ => trivial), gv.pass hW hU hS hFc hG⟩⟩ rfl rfl hl.1 rfl (lv_room (Nat.le_of_ble_eq_true rfl)) dL_law_481 ⟨Nat.le_of_ble_eq_true rfl, Nat.le_of_ble_eq_true rfl⟩) hS (fun q _ h => hFc q h) hFc (fun r9 u t H1 locs ht hvm hw hB hz1 hk1 hS => ?_)
  obtain rfl := hw
  obtain ⟨hP1, hK1, hD1⟩ := hB
  rw [ht] at hP1
  have hK1 := va_K.moved hvm.symm hK1
  obtain ⟨hP, hD⟩ := va_join (wr := [(m0, .inr (9, [.int 0, .ref m1, .ref m2, .ref m3, .int 0, .int 0, .int 0])), (m1, .inl (mc0, 4, .inr (.inr (.inr (.inr (va_up (va_up (va_up (va_up (fun _ => none) 0 (some ge5)) 1 (some ge5)) 2 (some ge5)) 3 (some ge5)))))))]) (w1 := [(x0, .inr (7, [.ref x1, .ref x2, .ref x45, .ref x53, .ref x55, .ref x57, .int 0, .int 0, .int 0])), (x1, .inl (xc0, 4, .inr (.inr (.inr (.inr (va_up (va_up (va_up (va_up (fun _ => none) 0 (some x59)) 1 (some x61)) 2 (some x63)) 3 (some x65))))))), (x53, .inr (6, [.ref x54, .int 0])), (x54, .inl (xc27, 64, .inl (fun _ => 0))), (x59, .inr (6, [.ref x60, .int 0])), (x60, .inl (xc30, 64, .inl (fun _ => 0))), (x61, .inr (6, [.ref x62, .int 0])), (x62, .inl (xc31, 64, .inl (fun _ => 0))), (x63, .inr (6, [.ref x64, .int 0])), (x64, .inl (xc32, 64, .inl (fun _ => 0))), (x65, .inr (6, [.ref x66, .int 0])), (x66, .inl (xc33, 64, .inl (fun _ => 0))), (o0, .inr (8, [.long 0, .null]))]) hP hD [0, 1, 2, 3, 4, 5, 6, 7, 8, 9, 10, 11, 14] [12, 13] rfl rfl (by decide) (by decide) hk1 hFc hP1 hD1
  generalize H1 = H at hP hS ⊢
  have hP : va_P (dC, dI) vwCl [(m0, .inr (9, [.int 0, .ref m1, .ref m2, .ref m3, .int 0, .int 0, .int 0])), (m1, .inl (mc0, 4, .inr (.inr (.inr (.inr (va_up (va_up (va_up (va_up (fun _ => none) 0 (some ge5)) 1 (some ge5)) 2 (some ge5)) 3 (some ge5))))))), (x0, .inr (7, [.ref x1, .ref x2, .ref x45, .ref x53, .ref x55, .ref x57, .int 0, .int 0, .int 0])), (x1, .inl (xc0, 4, .inr (.inr (.inr (.inr (va_up (va_up (va_up (va_up (fun _ => none) 0 (some x59)) 1 (some x61)) 2 (some x63)) 3 (some x65))))))), (x53, .inr (6, [.ref x54, .int 0])), (x54, .inl (xc27, 64, .inl (fun _ => 0))), (x59, .inr (6, [.ref x60, .int 0])), (x60, .inl (xc30, 64, .inl (fun _ => 0))), (x61, .inr (6, [.ref x62, .int 0])), (x62, .inl (xc31, 64, .inl (fun _ => 0))), (x63, .inr (6, [.ref x64, .int 0])), (x64, .inl (xc32, 64, .inl (fun _ => 0))), (x65, .inr (6, [.ref x66, .int 0])), (x66, .inl (xc33, 64, .inl (fun _ => 0))), (o0, .inr (8, [.long 0, .null]))] H := hP
  have hD : va_D A [(m0, .inr (9, [.int 0, .ref m1, .ref m2, .ref m3, .int 0, .int 0, .int 0])), (m1, .inl (mc0, 4, .inr (.inr (.inr (.inr (va_up (va_up (va_up (va_up (fun _ => none) 0 (some ge5)) 1 (some ge5)) 2 (some ge5)) 3 (some ge5))))))), (x0, .inr (7, [.ref x1, .ref x2, .ref x45, .ref x53, .ref x55, .ref x57, .int 0, .int 0, .int 0])), (x1, .inl (xc0, 4, .inr (.inr (.inr (.inr (va_up (va_up (va_up (va_up (fun _ => none) 0 (some x59)) 1 (some x61)) 2 (some x63)) 3 (some x65))))))), (x53, .inr (6, [.ref x54, .int 0])), (x54, .inl (xc27, 64, .inl (fun _ => 0))), (x59, .inr (6, [.ref x60, .int 0])), (x60, .inl (xc30, 64, .inl (fun _ => 0))), (x61, .inr (6, [.ref x62, .int 0])), (x62, .inl (xc31, 64, .inl (fun _ => 0))), (x63, .inr (6, [.ref x64, .int 0])), (x64, .inl (xc32, 64, .inl (fun _ => 0))), (x65, .inr (6, [.ref x66, .int 0])), (x66, .inl (xc33, 64, .inl (fun _ => 0))), (o0, .inr (8, [.long 0, .null]))] := hD
  refine lv_istore (lv' := [(5, .int 0), (4, .int 0), (3, .ref o0), (2, .ref m0), (1, .ref x0), (0, .ref b)]) hx hb dL_law_484 hl (by decide) rfl (fun ls hl => ?_)
  refine lv_aload_n hx hb dL_law_486 rfl (lv_at hl 3 rfl) ?_
  refine lv_aload_n hx hb dL_law_487 rfl (lv_at hl 5 rfl) ?_
  refine lv_iload hx hb dL_law_488 (lv_at hl 1 rfl) ?_
  refine lv_iconst (v := 1) hx hb dL_law_490 (by decide) ?_
  refine lv_iadd hx hb dL_law_491 ?_
  refine lv_topi (fun y4 ey4 => ?_)
  obtain rfl : y4 = 1 := ey4.trans (by decide)
  refine va_sld hx hb hX hbl hbA hS (by unfold vp_in; decide) dL_law_492 ?_
  rw [show xs (Int32.toNatClampNeg 1) = v1 from hx1]
  refine lv_aload_n hx hb dL_law_493 rfl (lv_at hl 5 rfl) ?_
  refine lv_iload hx hb dL_law_494 (lv_at hl 1 rfl) ?_
  refine lv_iconst (v := 2) hx hb dL_law_496 (by decide) ?_
  refine lv_iadd hx hb dL_law_497 ?_
  refine lv_topi (fun y5 ey5 => ?_)
  obtain rfl : y5 = 2 := ey5.trans (by decide)
  refine va_sld hx hb hX hbl hbA hS (by unfold vp_in; decide) dL_law_498 ?_
  rw [show xs (Int32.toNatClampNeg 2) = 0 from hx2]
  refine lv_aload_n hx hb dL_law_499 rfl (lv_at hl 5 rfl) ?_
  refine lv_iload hx hb dL_law_500 (lv_at hl 1 rfl) ?_
  refine lv_iconst (v := 3) hx hb dL_law_502 (by decide) ?_
  refine lv_iadd hx hb dL_law_503 ?_
  refine lv_topi (fun y6 ey6 => ?_)
  obtain rfl : y6 = 3 := ey6.trans (by decide)
  refine va_sld hx hb hX hbl hbA hS (by unfold vp_in; decide) dL_law_504 ?_
  rw [show xs (Int32.toNatClampNeg 3) = v3 from hx3]
  have hPc := hP.sub (ws' := [(m0, .inr (9, [.int 0, .ref m1, .ref m2, .ref m3, .int 0, .int 0, .int 0])), (m1, .inl (mc0, 4, .inr (.inr (.inr (.inr (va_up (va_up (va_up (va_up (fun _ => none) 0 (some ge5)) 1 (some ge5)) 2 (some ge5)) 3 (some ge5)))))))]) [0, 1] rfl
  have hDc := hD.sub (ws' := [(m0, .inr (9, [.int 0, .ref m1, .ref m2, .ref m3, .int 0, .int 0, .int 0])), (m1, .inl (mc0, 4, .inr (.inr (.inr (.inr (va_up (va_up (va_up (va_up (fun _ => none) 0 (some ge5)) 1 (some ge5)) 2 (some ge5)) 3 (some ge5)))))))]) [0, 1] (by decide) rfl
  have hKc := hK.sub (tys' := [(mc0, .object "java/lang/String")]) [6] rfl
  have hFc := va_free (wc := [(m0, .inr (9, [.int 0, .ref m1, .ref m2, .ref m3, .int 0, .int 0, .int 0])), (m1, .inl (mc0, 4, .inr (.inr (.inr (.inr (va_up (va_up (va_up (va_up (fun _ => none) 0 (some ge5)) 1 (some ge5)) 2 (some ge5)) 3 (some ge5)))))))]) hD hS hA [0, 1] rfl
  refine va_calli (va_runV (As := [.int v1, .int 0, .int v3]) (rest := []) ⟨hx, hb, hml, hown, hts⟩ (kx_X5_lay_6 l dC dI ge5 gea gv5 gva gde gic gi0 m0 m1 m2 m3 mc0 H.size v1 v1_l v1_u v3 v3_l v3_u) (cwV 3 hts gL_law_X5_lay rfl rfl rfl (by decide +kernel) ⟨Nat.le_of_ble_eq_true rfl, Nat.le_of_ble_eq_true rfl⟩) ⟨fun a U g mk q => by obtain ⟨q0, q1, qP, qK, qD, qG⟩ := q; exact ⟨q0, q1, qP, va_K.moved (u := U) (U := U.calling g mk a) (Vm.Alike.refl U.vm) qK, qD, gv.fb qG⟩, va_recv hKc hPc (ci := 9) (q0 := 0) rfl rfl, fun U hU hW => ⟨rfl, by rw [hU], by rw [hU]; exact hPc, va_K.moved hW.alike hKc, hDc.weaken (fun _ _ _ _ => trivial), gv.pass hW hU hS hFc hG⟩⟩ rfl rfl hl.1 rfl (lv_room (Nat.le_of_ble_eq_true rfl)) dL_law_505 ⟨Nat.le_of_ble_eq_true rfl, Nat.le_of_ble_eq_true rfl⟩) hS (fun q _ h => hFc q h) hFc (fun r9 u t H1 locs ht hvm hw hB hz1 hk1 hS => ?_)
  obtain rfl := hw
  obtain ⟨q7, q8, q9, q10, cq11, cq12, hP1, hK1, hD1⟩ := hB
  rw [ht] at hP1
  have hK1 := va_K.moved hvm.symm hK1
  obtain ⟨hP, hD⟩ := va_join (wr := [(x0, .inr (7, [.ref x1, .ref x2, .ref x45, .ref x53, .ref x55, .ref x57, .int 0, .int 0, .int 0])), (x1, .inl (xc0, 4, .inr (.inr (.inr (.inr (va_up (va_up (va_up (va_up (fun _ => none) 0 (some x59)) 1 (some x61)) 2 (some x63)) 3 (some x65))))))), (x53, .inr (6, [.ref x54, .int 0])), (x54, .inl (xc27, 64, .inl (fun _ => 0))), (x59, .inr (6, [.ref x60, .int 0])), (x60, .inl (xc30, 64, .inl (fun _ => 0))), (x61, .inr (6, [.ref x62, .int 0])), (x62, .inl (xc31, 64, .inl (fun _ => 0))), (x63, .inr (6, [.ref x64, .int 0])), (x64, .inl (xc32, 64, .inl (fun _ => 0))), (x65, .inr (6, [.ref x66, .int 0])), (x66, .inl (xc33, 64, .inl (fun _ => 0))), (o0, .inr (8, [.long 0, .null]))]) (w1 := [(m0, .inr (9, [.int 0, .ref m1, .ref m2, .ref m3, .int 0, .int 0, .int 0]))]) hP hD [0, 1] [2, 3, 4, 5, 6, 7, 8, 9, 10, 11, 12, 13, 14] rfl rfl (by decide) (by decide) hk1 hFc hP1 hD1
  have hK := hK.app (hK1.sub (tys' := [(cq11, .byte), (cq12, .byte)]) [1, 2] rfl)
  generalize H1 = H at hP hS ⊢
  have hK : va_K (dC, dI) vwCl [(xc0, .object "Rewriterope$Text"), (xc27, .byte), (xc30, .byte), (xc31, .byte), (xc32, .byte), (xc33, .byte), (mc0, .object "java/lang/String"), (cq11, .byte), (cq12, .byte)] s := hK
  have hP : va_P (dC, dI) vwCl [(x0, .inr (7, [.ref x1, .ref x2, .ref x45, .ref x53, .ref x55, .ref x57, .int 0, .int 0, .int 0])), (x1, .inl (xc0, 4, .inr (.inr (.inr (.inr (va_up (va_up (va_up (va_up (fun _ => none) 0 (some x59)) 1 (some x61)) 2 (some x63)) 3 (some x65))))))), (x53, .inr (6, [.ref x54, .int 0])), (x54, .inl (xc27, 64, .inl (fun _ => 0))), (x59, .inr (6, [.ref x60, .int 0])), (x60, .inl (xc30, 64, .inl (fun _ => 0))), (x61, .inr (6, [.ref x62, .int 0])), (x62, .inl (xc31, 64, .inl (fun _ => 0))), (x63, .inr (6, [.ref x64, .int 0])), (x64, .inl (xc32, 64, .inl (fun _ => 0))), (x65, .inr (6, [.ref x66, .int 0])), (x66, .inl (xc33, 64, .inl (fun _ => 0))), (o0, .inr (8, [.long 0, .null])), (m0, .inr (9, [.int 0, .ref m1, .ref m2, .ref m3, .int 0, .int 0, .int 0]))] H := hP
  have hD : va_D A [(x0, .inr (7, [.ref x1, .ref x2, .ref x45, .ref x53, .ref x55, .ref x57, .int 0, .int 0, .int 0])), (x1, .inl (xc0, 4, .inr (.inr (.inr (.inr (va_up (va_up (va_up (va_up (fun _ => none) 0 (some x59)) 1 (some x61)) 2 (some x63)) 3 (some x65))))))), (x53, .inr (6, [.ref x54, .int 0])), (x54, .inl (xc27, 64, .inl (fun _ => 0))), (x59, .inr (6, [.ref x60, .int 0])), (x60, .inl (xc30, 64, .inl (fun _ => 0))), (x61, .inr (6, [.ref x62, .int 0])), (x62, .inl (xc31, 64, .inl (fun _ => 0))), (x63, .inr (6, [.ref x64, .int 0])), (x64, .inl (xc32, 64, .inl (fun _ => 0))), (x65, .inr (6, [.ref x66, .int 0])), (x66, .inl (xc33, 64, .inl (fun _ => 0))), (o0, .inr (8, [.long 0, .null])), (m0, .inr (9, [.int 0, .ref m1, .ref m2, .ref m3, .int 0, .int 0, .int 0]))] := hD
  refine W.widen (k := 76) (n := 2772) (by omega) (by omega) ?_
  refine lv_istore (lv' := [(6, .int 0), (5, .int 0), (4, .int 0), (3, .ref o0), (2, .ref m0), (1, .ref x0), (0, .ref b)]) hx hb dL_law_508 hl (by decide) rfl (fun ls hl => ?_)
  refine lv_aload_n hx hb dL_law_510 rfl (lv_at hl 4 rfl) ?_
  have hPc := hP.sub (ws' := [(m0, .inr (9, [.int 0, .ref m1, .ref m2, .ref m3, .int 0, .int 0, .int 0]))]) [13] rfl
  have hDc := hD.sub (ws' := [(m0, .inr (9, [.int 0, .ref m1, .ref m2, .ref m3, .int 0, .int 0, .int 0]))]) [13] (by decide) rfl
  have hKc := hK.sub (tys' := []) [] rfl
  have hFc := va_free (wc := [(m0, .inr (9, [.int 0, .ref m1, .ref m2, .ref m3, .int 0, .int 0, .int 0]))]) hD hS hA [13] rfl
  refine va_calli (va_runV (As := []) (rest := []) ⟨hx, hb, hml, hown, hts⟩ (kx_X5_thrown_2 l dC dI m0 m1 m2 m3 H.size) (cwV 0 hts gL_law_X5_thrown rfl rfl rfl (by decide +kernel) ⟨Nat.le_of_ble_eq_true rfl, Nat.le_of_ble_eq_true rfl⟩) ⟨fun a U g mk q => by obtain ⟨q0, q1, qP, qK, qD⟩ := q; exact ⟨q0, q1, qP, va_K.moved (u := U) (U := U.calling g mk a) (Vm.Alike.refl U.vm) qK, qD⟩, va_recv hKc hPc (ci := 9) (q0 := 0) rfl rfl, fun U hU hW => ⟨rfl, by rw [hU], by rw [hU]; exact hPc, va_K.moved hW.alike hKc, hDc.weaken (fun _ _ _ _ => trivial)⟩⟩ rfl rfl hl.1 rfl (lv_room (Nat.le_of_ble_eq_true rfl)) dL_law_511 ⟨Nat.le_of_ble_eq_true rfl, Nat.le_of_ble_eq_true rfl⟩) hS (fun q _ h => hFc q h) hFc (fun r9 u t H1 locs ht hvm hw hB hz1 hk1 hS => ?_)
  obtain rfl := hw
  obtain ⟨hP1, hK1, hD1⟩ := hB
  rw [ht] at hP1
  have hK1 := va_K.moved hvm.symm hK1
  obtain ⟨hP, hD⟩ := va_join (wr := [(x0, .inr (7, [.ref x1, .ref x2, .ref x45, .ref x53, .ref x55, .ref x57, .int 0, .int 0, .int 0])), (x1, .inl (xc0, 4, .inr (.inr (.inr (.inr (va_up (va_up (va_up (va_up (fun _ => none) 0 (some x59)) 1 (some x61)) 2 (some x63)) 3 (some x65))))))), (x53, .inr (6, [.ref x54, .int 0])), (x54, .inl (xc27, 64, .inl (fun _ => 0))), (x59, .inr (6, [.ref x60, .int 0])), (x60, .inl (xc30, 64, .inl (fun _ => 0))), (x61, .inr (6, [.ref x62, .int 0])), (x62, .inl (xc31, 64, .inl (fun _ => 0))), (x63, .inr (6, [.ref x64, .int 0])), (x64, .inl (xc32, 64, .inl (fun _ => 0))), (x65, .inr (6, [.ref x66, .int 0])), (x66, .inl (xc33, 64, .inl (fun _ => 0))), (o0, .inr (8, [.long 0, .null]))]) (w1 := [(m0, .inr (9, [.int 0, .ref m1, .ref m2, .ref m3, .int 0, .int 0, .int 0]))]) hP hD [13] [0, 1, 2, 3, 4, 5, 6, 7, 8, 9, 10, 11, 12] rfl rfl (by decide) (by decide) hk1 hFc hP1 hD1
  generalize H1 = H at hP hS ⊢
  have hP : va_P (dC, dI) vwCl [(x0, .inr (7, [.ref x1, .ref x2, .ref x45, .ref x53, .ref x55, .ref x57, .int 0, .int 0, .int 0])), (x1, .inl (xc0, 4, .inr (.inr (.inr (.inr (va_up (va_up (va_up (va_up (fun _ => none) 0 (some x59)) 1 (some x61)) 2 (some x63)) 3 (some x65))))))), (x53, .inr (6, [.ref x54, .int 0])), (x54, .inl (xc27, 64, .inl (fun _ => 0))), (x59, .inr (6, [.ref x60, .int 0])), (x60, .inl (xc30, 64, .inl (fun _ => 0))), (x61, .inr (6, [.ref x62, .int 0])), (x62, .inl (xc31, 64, .inl (fun _ => 0))), (x63, .inr (6, [.ref x64, .int 0])), (x64, .inl (xc32, 64, .inl (fun _ => 0))), (x65, .inr (6, [.ref x66, .int 0])), (x66, .inl (xc33, 64, .inl (fun _ => 0))), (o0, .inr (8, [.long 0, .null])), (m0, .inr (9, [.int 0, .ref m1, .ref m2, .ref m3, .int 0, .int 0, .int 0]))] H := hP
  have hD : va_D A [(x0, .inr (7, [.ref x1, .ref x2, .ref x45, .ref x53, .ref x55, .ref x57, .int 0, .int 0, .int 0])), (x1, .inl (xc0, 4, .inr (.inr (.inr (.inr (va_up (va_up (va_up (va_up (fun _ => none) 0 (some x59)) 1 (some x61)) 2 (some x63)) 3 (some x65))))))), (x53, .inr (6, [.ref x54, .int 0])), (x54, .inl (xc27, 64, .inl (fun _ => 0))), (x59, .inr (6, [.ref x60, .int 0])), (x60, .inl (xc30, 64, .inl (fun _ => 0))), (x61, .inr (6, [.ref x62, .int 0])), (x62, .inl (xc31, 64, .inl (fun _ => 0))), (x63, .inr (6, [.ref x64, .int 0])), (x64, .inl (xc32, 64, .inl (fun _ => 0))), (x65, .inr (6, [.ref x66, .int 0])), (x66, .inl (xc33, 64, .inl (fun _ => 0))), (o0, .inr (8, [.long 0, .null])), (m0, .inr (9, [.int 0, .ref m1, .ref m2, .ref m3, .int 0, .int 0, .int 0]))] := hD
  refine lv_iload hx hb dL_law_514 (lv_at hl 1 rfl) ?_
  refine lv_icmp_eq (tgt := 521) hx hb dL_law_516 (by decide) (fun _ => ?_) (fun c9 => absurd (by decide) c9)
  refine lv_iload hx hb dL_law_521 (lv_at hl 1 rfl) ?_
  refine lv_if_ne (tgt := 539) hx hb dL_law_523 (by decide) (fun c9 => absurd (by decide) c9) (fun _ => ?_)
  refine lv_aload_n hx hb dL_law_526 rfl (lv_at hl 3 rfl) ?_
  refine va_getN (D := (dC, dI)) (ci := 8) (v := .long 0) (C := RX4) (T := TX4) (N := 2) hx hb hts (by decide +kernel) hown hK hP 12 rfl rfl 0 (by decide) (va_Nw.use rfl g_nf_RL_13) (fun _ h9 => h9) rfl dL_law_527 ?_
  refine lv_iload hx hb dL_law_530 (lv_at hl 0 rfl) ?_
  refine lv_i2l (v := 0) hx hb dL_law_532 (by decide) ?_
  refine W.lcmp hx hb dL_law_533 ?_
  refine lv_topi (fun y13 ey13 => ?_)
  obtain rfl : y13 = 0 := ey13.trans (by decide)
  refine lv_if_eq (tgt := 539) hx hb dL_law_534 (by decide) (fun _ => ?_) (fun c9 => absurd (by decide) c9)
  refine lv_goto (tgt := 2342) hx hb dL_law_539 (by decide) ?_
  refine lv_iinc (v := 7) (lv' := [(4, .int 7), (6, .int 0), (5, .int 0), (3, .ref o0), (2, .ref m0), (1, .ref x0), (0, .ref b)]) hx hb dL_law_2342 hl (k := 2) rfl (by decide) (by decide) rfl (fun ls hl => ?_)
  refine lv_goto (tgt := 27) hx hb dL_law_2345 (by decide) ?_
  refine lv_iload hx hb dL_law_27 (lv_at hl 0 rfl) ?_
  refine lv_aload_n hx hb dL_law_29 rfl (lv_at hl 6 rfl) ?_
  refine va_slen hx hb hX hbl hbA hS dL_law_30 ?_
  refine lv_topi (fun y14 ey14 => ?_)
  obtain rfl : y14 = 7 := ey14.trans (by decide)
  refine lv_bipush (v := 7) hx hb dL_law_31 (by decide) ?_
  refine lv_isub hx hb dL_law_33 ?_
  refine lv_topi (fun y15 ey15 => ?_)
  obtain rfl : y15 = 0 := ey15.trans (by decide)
  refine lv_icmp_gt (tgt := 2348) hx hb dL_law_34 (by decide) (fun _ => ?_) (fun c9 => absurd (by decide) c9)
  refine lv_iconst (v := 1) hx hb dL_law_2348 (by decide) ?_
  refine va_forget (fun q hq => (by have h := hS.2.2 q hq; rw [hAe] at h; exact h)) ?_
  refine W.widen (k := 600002) (n := 7302232) (Nat.le_of_ble_eq_true rfl) (Nat.le_of_ble_eq_true rfl) ?_
  exact lw_ret hx hb hr hlocks dL_law_2349
set_option maxHeartbeats 4000000 in
set_option maxRecDepth 100000 in
theorem lc_cut_0 {p : Program} {e : Env} {s : State} {m : MethodId} {below : List Frame} {meth : Method} {c : Code} {l : Launch} (hst : l.stackTraces = false) {b : Nat} {xs : Nat → Int32} (C9 : lx_At p s m meth c b xs) {dC : Nat → ClassId} {dI : Nat → Nat → Nat} {ge5 gea gv5 gva gde gic gi0 : Nat} {x0 m0 x1 x2 x45 x53 x55 x57 m1 m2 m3 o0 : Nat} (hG : gv ge5 gea gv5 gva gde gic gi0 (fun q => s.heap.size ≤ q) s s.heap) {v1 : Int32} (v1_l : ((-2147483648) : Int) ≤ v1.toInt) (v1_u : v1.toInt ≤ ((-1) : Int)) {v2 : Int32} (v2_l : ((-2147483648) : Int) ≤ v2.toInt) (v2_u : v2.toInt ≤ (2147483647 : Int)) {v3 : Int32} (v3_l : ((-2147483648) : Int) ≤ v3.toInt) (v3_u : v3.toInt ≤ (2147483647 : Int)) (hx1 : xs 1 = v1) (hx2 : xs 2 = v2) (hx3 : xs 3 = v3) {H : Heap} {locs : List Loc} (hK : va_K (dC, dI) vwCl [] s) (hP : va_P (dC, dI) vwCl [(x0, .inr (7, [.ref x1, .ref x2, .ref x45, .ref x53, .ref x55, .ref x57, .int 0, .int 0, .int 0])), (m0, .inr (9, [.int 0, .ref m1, .ref m2, .ref m3, .int 0, .int 0, .int 0]))] H) (hD : va_D (fun q => s.heap.size ≤ q) [(x0, .inr (7, [.ref x1, .ref x2, .ref x45, .ref x53, .ref x55, .ref x57, .int 0, .int 0, .int 0])), (m0, .inr (9, [.int 0, .ref m1, .ref m2, .ref m3, .int 0, .int 0, .int 0]))]) (hS : va_S (fun q => s.heap.size ≤ q) s.heap H locs) {ls : Array Slot} (hl : lv_has ls 7 [(4, .int 0), (3, .ref o0), (2, .ref m0), (1, .ref x0), (0, .ref b)]) : W p l e room_1 s m #[Value.ref b] below meth c H locs 72 2748 (lw_Z below #[Value.ref b] s) (F0 m 542 ls []) := by
  obtain ⟨hx, hb, hr, hml, hown, hts, hX, hbl, hlocks⟩ := id C9
  have hA : ∀ q : Nat, s.heap.size ≤ q → (fun q : Nat => s.heap.size ≤ q) q := fun _ h => h
  have hbA : ¬ (fun q : Nat => s.heap.size ≤ q) b := Nat.not_le.mpr hbl
  obtain ⟨A, hAe⟩ : ∃ A : Nat → Prop, A = (fun q : Nat => s.heap.size ≤ q) := ⟨_, rfl⟩
  rw [← hAe] at hG hD hS hA hbA
  obtain ⟨⟨g_AO_Text, g_AO_String, g_AO_Object, g_nm_RX1_20, g_nm_RX0_17, g_nm_RX3_31, g_nm_RX2_44, g_nm_RL_121, g_nf_RL_13, g_nf_RL_47, g_ca_IO, g_ca_IA, g_ca_IS, g_ca_IntObj, g_ca_StrObj, g_de_RT, g_de_EX, g_de_TH, g_nc_IA_IO, g_nc_IS_IO, g_nc_IS_IA⟩, ⟨g_s3, g_s5, g_sa, g_x278, g_x280, g_x282, g_x284, g_x286, g_x180, g_x238, g_x250⟩, ⟨g_o5, g_c5, g_v5, g_t5, g_oa, g_ca, g_va, g_ta, g_zc, g_zd, g_td, g_zf, g_zU, g_zN, g_zh, g_zk, g_tk, g_oi, g_vi⟩⟩ := id hG
  refine lv_aload_n hx hb dL_law_542 rfl (lv_at hl 3 rfl) ?_
  refine lv_aload_n hx hb dL_law_543 rfl (lv_at hl 4 rfl) ?_
  refine lv_iload hx hb dL_law_544 (lv_at hl 0 rfl) ?_
  refine lv_iconst (v := 1) hx hb dL_law_546 (by decide) ?_
  refine lv_iadd hx hb dL_law_547 ?_
  refine lv_topi (fun y1 ey1 => ?_)
  obtain rfl : y1 = 1 := ey1.trans (by decide)
  refine va_sld hx hb hX hbl hbA hS (by unfold vp_in; decide) dL_law_548 ?_
  rw [show xs (Int32.toNatClampNeg 1) = v1 from hx1]
  refine lv_aload_n hx hb dL_law_549 rfl (lv_at hl 4 rfl) ?_
  refine lv_iload hx hb dL_law_550 (lv_at hl 0 rfl) ?_
  refine lv_iconst (v := 2) hx hb dL_law_552 (by decide) ?_
  refine lv_iadd hx hb dL_law_553 ?_
  refine lv_topi (fun y2 ey2 => ?_)
  obtain rfl : y2 = 2 := ey2.trans (by decide)
  refine va_sld hx hb hX hbl hbA hS (by unfold vp_in; decide) dL_law_554 ?_
  rw [show xs (Int32.toNatClampNeg 2) = v2 from hx2]
  refine lv_aload_n hx hb dL_law_555 rfl (lv_at hl 4 rfl) ?_
  refine lv_iload hx hb dL_law_556 (lv_at hl 0 rfl) ?_
  refine lv_iconst (v := 3) hx hb dL_law_558 (by decide) ?_
  refine lv_iadd hx hb dL_law_559 ?_
  refine lv_topi (fun y3 ey3 => ?_)
  obtain rfl : y3 = 3 := ey3.trans (by decide)
  refine va_sld hx hb hX hbl hbA hS (by unfold vp_in; decide) dL_law_560 ?_
  rw [show xs (Int32.toNatClampNeg 3) = v3 from hx3]
  refine lv_aload_n hx hb dL_law_561 rfl (lv_at hl 1 rfl) ?_
  have hPc := hP.sub (ws' := [(x0, .inr (7, [.ref x1, .ref x2, .ref x45, .ref x53, .ref x55, .ref x57, .int 0, .int 0, .int 0]))]) [0] rfl
  have hDc := hD.sub (ws' := [(x0, .inr (7, [.ref x1, .ref x2, .ref x45, .ref x53, .ref x55, .ref x57, .int 0, .int 0, .int 0]))]) [0] (by decide) rfl
  have hKc := hK.sub (tys' := []) [] rfl
  have hFc := va_free (wc := [(x0, .inr (7, [.ref x1, .ref x2, .ref x45, .ref x53, .ref x55, .ref x57, .int 0, .int 0, .int 0]))]) hD hS hA [0] rfl
  refine va_calli (vx_runSW (As := [.ref x0, .int v1, .int v2, .int v3, .ref o0]) (rest := []) ⟨hx, hb, hml, hown, hts⟩ (kx_L_cut_0 l hst dC dI ge5 gea gv5 gva gde gic gi0 x0 o0 x1 x2 x45 x53 x55 x57 H.size v1 v1_l v1_u v2 v2_l v2_u v3 v3_l v3_u) (vx_cwSW 5 hts gL_law_L_cut rfl rfl rfl (by decide +kernel) ⟨Nat.le_of_ble_eq_true rfl, Nat.le_of_ble_eq_true rfl⟩) ⟨fun a U g mk q => by obtain ⟨q0, q1, qP, qK, qD, qG⟩ := q; exact ⟨q0, q1, qP, va_K.moved (u := U) (U := U.calling g mk a) (Vm.Alike.refl U.vm) qK, qD, gv.fb qG⟩, fun U hU hW => ⟨rfl, by rw [hU], by rw [hU]; exact hPc, va_K.moved hW.alike hKc, hDc.weaken (fun _ _ _ _ => trivial), gv.pass hW hU hS hFc hG⟩⟩ rfl rfl hl.1 rfl (lv_room (Nat.le_of_ble_eq_true rfl)) dL_law_562 ⟨Nat.le_of_ble_eq_true rfl, Nat.le_of_ble_eq_true rfl⟩) hS (fun q _ h => hFc q h) hFc (fun r9 u t H1 locs ht hvm hw hB hz1 hk1 hS => ?_)
  obtain rfl := hw
  obtain ⟨hP1, hK1, hD1⟩ := hB
  rw [ht] at hP1
  have hK1 := va_K.moved hvm.symm hK1
  obtain ⟨hP, hD⟩ := va_join (wr := [(m0, .inr (9, [.int 0, .ref m1, .ref m2, .ref m3, .int 0, .int 0, .int 0]))]) (w1 := [(x0, .inr (7, [.ref x1, .ref x2, .ref x45, .ref x53, .ref x55, .ref x57, .int 0, .int 0, .int 0]))]) hP hD [0] [1] rfl rfl (by decide) (by decide) hk1 hFc hP1 hD1
  generalize H1 = H at hP hS ⊢
  have hP : va_P (dC, dI) vwCl [(m0, .inr (9, [.int 0, .ref m1, .ref m2, .ref m3, .int 0, .int 0, .int 0])), (x0, .inr (7, [.ref x1, .ref x2, .ref x45, .ref x53, .ref x55, .ref x57, .int 0, .int 0, .int 0]))] H := hP
  have hD : va_D A [(m0, .inr (9, [.int 0, .ref m1, .ref m2, .ref m3, .int 0, .int 0, .int 0])), (x0, .inr (7, [.ref x1, .ref x2, .ref x45, .ref x53, .ref x55, .ref x57, .int 0, .int 0, .int 0]))] := hD
  refine W.widen (k := 73) (n := 2754) (by omega) (by omega) ?_
  refine lv_istore (lv' := [(5, .int 1), (4, .int 0), (3, .ref o0), (2, .ref m0), (1, .ref x0), (0, .ref b)]) hx hb dL_law_565 hl (by decide) rfl (fun ls hl => ?_)
  refine lv_aload_n hx hb dL_law_567 rfl (lv_at hl 3 rfl) ?_
  refine lv_aload_n hx hb dL_law_568 rfl (lv_at hl 5 rfl) ?_
  refine lv_iload hx hb dL_law_569 (lv_at hl 1 rfl) ?_
  refine lv_iconst (v := 1) hx hb dL_law_571 (by decide) ?_
  refine lv_iadd hx hb dL_law_572 ?_
  refine lv_topi (fun y4 ey4 => ?_)
  obtain rfl : y4 = 1 := ey4.trans (by decide)
  refine va_sld hx hb hX hbl hbA hS (by unfold vp_in; decide) dL_law_573 ?_
  rw [show xs (Int32.toNatClampNeg 1) = v1 from hx1]
  refine lv_aload_n hx hb dL_law_574 rfl (lv_at hl 5 rfl) ?_
  refine lv_iload hx hb dL_law_575 (lv_at hl 1 rfl) ?_
  refine lv_iconst (v := 2) hx hb dL_law_577 (by decide) ?_
  refine lv_iadd hx hb dL_law_578 ?_
  refine lv_topi (fun y5 ey5 => ?_)
  obtain rfl : y5 = 2 := ey5.trans (by decide)
  refine va_sld hx hb hX hbl hbA hS (by unfold vp_in; decide) dL_law_579 ?_
  rw [show xs (Int32.toNatClampNeg 2) = v2 from hx2]
  refine lv_aload_n hx hb dL_law_580 rfl (lv_at hl 5 rfl) ?_
  refine lv_iload hx hb dL_law_581 (lv_at hl 1 rfl) ?_
  refine lv_iconst (v := 3) hx hb dL_law_583 (by decide) ?_
  refine lv_iadd hx hb dL_law_584 ?_
  refine lv_topi (fun y6 ey6 => ?_)
  obtain rfl : y6 = 3 := ey6.trans (by decide)
  refine va_sld hx hb hX hbl hbA hS (by unfold vp_in; decide) dL_law_585 ?_
  rw [show xs (Int32.toNatClampNeg 3) = v3 from hx3]
  have hPc := hP.sub (ws' := [(m0, .inr (9, [.int 0, .ref m1, .ref m2, .ref m3, .int 0, .int 0, .int 0]))]) [0] rfl
  have hDc := hD.sub (ws' := [(m0, .inr (9, [.int 0, .ref m1, .ref m2, .ref m3, .int 0, .int 0, .int 0]))]) [0] (by decide) rfl
  have hKc := hK.sub (tys' := []) [] rfl
  have hFc := va_free (wc := [(m0, .inr (9, [.int 0, .ref m1, .ref m2, .ref m3, .int 0, .int 0, .int 0]))]) hD hS hA [0] rfl
  refine va_calli (va_runV (As := [.int v1, .int v2, .int v3]) (rest := []) ⟨hx, hb, hml, hown, hts⟩ (kx_X5_cut_0 l dC dI m0 m1 m2 m3 H.size v1 v1_l v1_u v2 v2_l v2_u v3 v3_l v3_u) (cwV 3 hts gL_law_X5_cut rfl rfl rfl (by decide +kernel) ⟨Nat.le_of_ble_eq_true rfl, Nat.le_of_ble_eq_true rfl⟩) ⟨fun a U g mk q => by obtain ⟨q0, q1, qP, qK, qD⟩ := q; exact ⟨q0, q1, qP, va_K.moved (u := U) (U := U.calling g mk a) (Vm.Alike.refl U.vm) qK, qD⟩, va_recv hKc hPc (ci := 9) (q0 := 0) rfl rfl, fun U hU hW => ⟨rfl, by rw [hU], by rw [hU]; exact hPc, va_K.moved hW.alike hKc, hDc.weaken (fun _ _ _ _ => trivial)⟩⟩ rfl rfl hl.1 rfl (lv_room (Nat.le_of_ble_eq_true rfl)) dL_law_586 ⟨Nat.le_of_ble_eq_true rfl, Nat.le_of_ble_eq_true rfl⟩) hS (fun q _ h => hFc q h) hFc (fun r9 u t H1 locs ht hvm hw hB hz1 hk1 hS => ?_)
  obtain rfl := hw
  obtain ⟨hP1, hK1, hD1⟩ := hB
  rw [ht] at hP1
  have hK1 := va_K.moved hvm.symm hK1
  obtain ⟨hP, hD⟩ := va_join (wr := [(x0, .inr (7, [.ref x1, .ref x2, .ref x45, .ref x53, .ref x55, .ref x57, .int 0, .int 0, .int 0]))]) (w1 := [(m0, .inr (9, [.int 1, .ref m1, .ref m2, .ref m3, .int 0, .int 0, .int 0]))]) hP hD [0] [1] rfl rfl (by decide) (by decide) hk1 hFc hP1 hD1
  generalize H1 = H at hP hS ⊢
  have hP : va_P (dC, dI) vwCl [(x0, .inr (7, [.ref x1, .ref x2, .ref x45, .ref x53, .ref x55, .ref x57, .int 0, .int 0, .int 0])), (m0, .inr (9, [.int 1, .ref m1, .ref m2, .ref m3, .int 0, .int 0, .int 0]))] H := hP
  have hD : va_D A [(x0, .inr (7, [.ref x1, .ref x2, .ref x45, .ref x53, .ref x55, .ref x57, .int 0, .int 0, .int 0])), (m0, .inr (9, [.int 1, .ref m1, .ref m2, .ref m3, .int 0, .int 0, .int 0]))] := hD
  refine lv_istore (lv' := [(6, .int 0), (5, .int 1), (4, .int 0), (3, .ref o0), (2, .ref m0), (1, .ref x0), (0, .ref b)]) hx hb dL_law_589 hl (by decide) rfl (fun ls hl => ?_)
  refine lv_aload_n hx hb dL_law_591 rfl (lv_at hl 4 rfl) ?_
  have hPc := hP.sub (ws' := [(m0, .inr (9, [.int 1, .ref m1, .ref m2, .ref m3, .int 0, .int 0, .int 0]))]) [1] rfl
  have hDc := hD.sub (ws' := [(m0, .inr (9, [.int 1, .ref m1, .ref m2, .ref m3, .int 0, .int 0, .int 0]))]) [1] (by decide) rfl
  have hKc := hK.sub (tys' := []) [] rfl
  have hFc := va_free (wc := [(m0, .inr (9, [.int 1, .ref m1, .ref m2, .ref m3, .int 0, .int 0, .int 0]))]) hD hS hA [1] rfl
  refine va_calli (va_runV (As := []) (rest := []) ⟨hx, hb, hml, hown, hts⟩ (kx_X5_thrown_0 l dC dI m0 m1 m2 m3 H.size) (cwV 0 hts gL_law_X5_thrown rfl rfl rfl (by decide +kernel) ⟨Nat.le_of_ble_eq_true rfl, Nat.le_of_ble_eq_true rfl⟩) ⟨fun a U g mk q => by obtain ⟨q0, q1, qP, qK, qD⟩ := q; exact ⟨q0, q1, qP, va_K.moved (u := U) (U := U.calling g mk a) (Vm.Alike.refl U.vm) qK, qD⟩, va_recv hKc hPc (ci := 9) (q0 := 0) rfl rfl, fun U hU hW => ⟨rfl, by rw [hU], by rw [hU]; exact hPc, va_K.moved hW.alike hKc, hDc.weaken (fun _ _ _ _ => trivial)⟩⟩ rfl rfl hl.1 rfl (lv_room (Nat.le_of_ble_eq_true rfl)) dL_law_592 ⟨Nat.le_of_ble_eq_true rfl, Nat.le_of_ble_eq_true rfl⟩) hS (fun q _ h => hFc q h) hFc (fun r9 u t H1 locs ht hvm hw hB hz1 hk1 hS => ?_)
  obtain rfl := hw
  obtain ⟨hP1, hK1, hD1⟩ := hB
  rw [ht] at hP1
  have hK1 := va_K.moved hvm.symm hK1
  obtain ⟨hP, hD⟩ := va_join (wr := [(x0, .inr (7, [.ref x1, .ref x2, .ref x45, .ref x53, .ref x55, .ref x57, .int 0, .int 0, .int 0]))]) (w1 := [(m0, .inr (9, [.int 1, .ref m1, .ref m2, .ref m3, .int 0, .int 0, .int 0]))]) hP hD [1] [0] rfl rfl (by decide) (by decide) hk1 hFc hP1 hD1
  generalize H1 = H at hP hS ⊢
  have hP : va_P (dC, dI) vwCl [(x0, .inr (7, [.ref x1, .ref x2, .ref x45, .ref x53, .ref x55, .ref x57, .int 0, .int 0, .int 0])), (m0, .inr (9, [.int 1, .ref m1, .ref m2, .ref m3, .int 0, .int 0, .int 0]))] H := hP
  have hD : va_D A [(x0, .inr (7, [.ref x1, .ref x2, .ref x45, .ref x53, .ref x55, .ref x57, .int 0, .int 0, .int 0])), (m0, .inr (9, [.int 1, .ref m1, .ref m2, .ref m3, .int 0, .int 0, .int 0]))] := hD
  refine lv_iload hx hb dL_law_595 (lv_at hl 1 rfl) ?_
  refine lv_icmp_eq (tgt := 602) hx hb dL_law_597 (by decide) (fun _ => ?_) (fun c9 => absurd (by decide) c9)
  refine lv_iload hx hb dL_law_602 (lv_at hl 1 rfl) ?_
  refine lv_if_ne (tgt := 620) hx hb dL_law_604 (by decide) (fun _ => ?_) (fun c9 => absurd c9 (by decide))
  refine lv_goto (tgt := 2342) hx hb dL_law_620 (by decide) ?_
  refine lv_iinc (v := 7) (lv' := [(4, .int 7), (6, .int 0), (5, .int 1), (3, .ref o0), (2, .ref m0), (1, .ref x0), (0, .ref b)]) hx hb dL_law_2342 hl (k := 2) rfl (by decide) (by decide) rfl (fun ls hl => ?_)
  refine lv_goto (tgt := 27) hx hb dL_law_2345 (by decide) ?_
  refine lv_iload hx hb dL_law_27 (lv_at hl 0 rfl) ?_
  refine lv_aload_n hx hb dL_law_29 rfl (lv_at hl 6 rfl) ?_
  refine va_slen hx hb hX hbl hbA hS dL_law_30 ?_
  refine lv_topi (fun y7 ey7 => ?_)
  obtain rfl : y7 = 7 := ey7.trans (by decide)
  refine lv_bipush (v := 7) hx hb dL_law_31 (by decide) ?_
  refine lv_isub hx hb dL_law_33 ?_
  refine lv_topi (fun y8 ey8 => ?_)
  obtain rfl : y8 = 0 := ey8.trans (by decide)
  refine lv_icmp_gt (tgt := 2348) hx hb dL_law_34 (by decide) (fun _ => ?_) (fun c9 => absurd (by decide) c9)
  refine lv_iconst (v := 1) hx hb dL_law_2348 (by decide) ?_
  refine va_forget (fun q hq => (by have h := hS.2.2 q hq; rw [hAe] at h; exact h)) ?_
  refine W.widen (k := 600002) (n := 7302232) (Nat.le_of_ble_eq_true rfl) (Nat.le_of_ble_eq_true rfl) ?_
  exact lw_ret hx hb hr hlocks dL_law_2349
set_option maxHeartbeats 4000000 in
set_option maxRecDepth 100000 in
theorem lc_cut_1 {p : Program} {e : Env} {s : State} {m : MethodId} {below : List Frame} {meth : Method} {c : Code} {l : Launch} (hst : l.stackTraces = false) {b : Nat} {xs : Nat → Int32} (C9 : lx_At p s m meth c b xs) {dC : Nat → ClassId} {dI : Nat → Nat → Nat} {ge5 gea gv5 gva gde gic gi0 : Nat} {x0 m0 x1 x2 x45 x53 x55 x57 m1 m2 m3 o0 : Nat} (hG : gv ge5 gea gv5 gva gde gic gi0 (fun q => s.heap.size ≤ q) s s.heap) {v1 : Int32} (v1_l : (4 : Int) ≤ v1.toInt) (v1_u : v1.toInt ≤ (2147483647 : Int)) {v2 : Int32} (v2_l : ((-2147483648) : Int) ≤ v2.toInt) (v2_u : v2.toInt ≤ (2147483647 : Int)) {v3 : Int32} (v3_l : ((-2147483648) : Int) ≤ v3.toInt) (v3_u : v3.toInt ≤ (2147483647 : Int)) (hx1 : xs 1 = v1) (hx2 : xs 2 = v2) (hx3 : xs 3 = v3) {H : Heap} {locs : List Loc} (hK : va_K (dC, dI) vwCl [] s) (hP : va_P (dC, dI) vwCl [(x0, .inr (7, [.ref x1, .ref x2, .ref x45, .ref x53, .ref x55, .ref x57, .int 0, .int 0, .int 0])), (m0, .inr (9, [.int 0, .ref m1, .ref m2, .ref m3, .int 0, .int 0, .int 0]))] H) (hD : va_D (fun q => s.heap.size ≤ q) [(x0, .inr (7, [.ref x1, .ref x2, .ref x45, .ref x53, .ref x55, .ref x57, .int 0, .int 0, .int 0])), (m0, .inr (9, [.int 0, .ref m1, .ref m2, .ref m3, .int 0, .int 0, .int 0]))]) (hS : va_S (fun q => s.heap.size ≤ q) s.heap H locs) {ls : Array Slot} (hl : lv_has ls 7 [(4, .int 0), (3, .ref o0), (2, .ref m0), (1, .ref x0), (0, .ref b)]) : W p l e room_1 s m #[Value.ref b] below meth c H locs 72 2748 (lw_Z below #[Value.ref b] s) (F0 m 542 ls []) := by
  obtain ⟨hx, hb, hr, hml, hown, hts, hX, hbl, hlocks⟩ := id C9
  have hA : ∀ q : Nat, s.heap.size ≤ q → (fun q : Nat => s.heap.size ≤ q) q := fun _ h => h
  have hbA : ¬ (fun q : Nat => s.heap.size ≤ q) b := Nat.not_le.mpr hbl
  obtain ⟨A, hAe⟩ : ∃ A : Nat → Prop, A = (fun q : Nat => s.heap.size ≤ q) := ⟨_, rfl⟩
  rw [← hAe] at hG hD hS hA hbA
  obtain ⟨⟨g_AO_Text, g_AO_String, g_AO_Object, g_nm_RX1_20, g_nm_RX0_17, g_nm_RX3_31, g_nm_RX2_44, g_nm_RL_121, g_nf_RL_13, g_nf_RL_47, g_ca_IO, g_ca_IA, g_ca_IS, g_ca_IntObj, g_ca_StrObj, g_de_RT, g_de_EX, g_de_TH, g_nc_IA_IO, g_nc_IS_IO, g_nc_IS_IA⟩, ⟨g_s3, g_s5, g_sa, g_x278, g_x280, g_x282, g_x284, g_x286, g_x180, g_x238, g_x250⟩, ⟨g_o5, g_c5, g_v5, g_t5, g_oa, g_ca, g_va, g_ta, g_zc, g_zd, g_td, g_zf, g_zU, g_zN, g_zh, g_zk, g_tk, g_oi, g_vi⟩⟩ := id hG
  refine lv_aload_n hx hb dL_law_542 rfl (lv_at hl 3 rfl) ?_
  refine lv_aload_n hx hb dL_law_543 rfl (lv_at hl 4 rfl) ?_
  refine lv_iload hx hb dL_law_544 (lv_at hl 0 rfl) ?_
  refine lv_iconst (v := 1) hx hb dL_law_546 (by decide) ?_
  refine lv_iadd hx hb dL_law_547 ?_
  refine lv_topi (fun y1 ey1 => ?_)
  obtain rfl : y1 = 1 := ey1.trans (by decide)
  refine va_sld hx hb hX hbl hbA hS (by unfold vp_in; decide) dL_law_548 ?_
  rw [show xs (Int32.toNatClampNeg 1) = v1 from hx1]
  refine lv_aload_n hx hb dL_law_549 rfl (lv_at hl 4 rfl) ?_
  refine lv_iload hx hb dL_law_550 (lv_at hl 0 rfl) ?_
  refine lv_iconst (v := 2) hx hb dL_law_552 (by decide) ?_
  refine lv_iadd hx hb dL_law_553 ?_
  refine lv_topi (fun y2 ey2 => ?_)
  obtain rfl : y2 = 2 := ey2.trans (by decide)
  refine va_sld hx hb hX hbl hbA hS (by unfold vp_in; decide) dL_law_554 ?_
  rw [show xs (Int32.toNatClampNeg 2) = v2 from hx2]
  refine lv_aload_n hx hb dL_law_555 rfl (lv_at hl 4 rfl) ?_
  refine lv_iload hx hb dL_law_556 (lv_at hl 0 rfl) ?_
  refine lv_iconst (v := 3) hx hb dL_law_558 (by decide) ?_
  refine lv_iadd hx hb dL_law_559 ?_
  refine lv_topi (fun y3 ey3 => ?_)
  obtain rfl : y3 = 3 := ey3.trans (by decide)
  refine va_sld hx hb hX hbl hbA hS (by unfold vp_in; decide) dL_law_560 ?_
  rw [show xs (Int32.toNatClampNeg 3) = v3 from hx3]
  refine lv_aload_n hx hb dL_law_561 rfl (lv_at hl 1 rfl) ?_
  have hPc := hP.sub (ws' := [(x0, .inr (7, [.ref x1, .ref x2, .ref x45, .ref x53, .ref x55, .ref x57, .int 0, .int 0, .int 0]))]) [0] rfl
  have hDc := hD.sub (ws' := [(x0, .inr (7, [.ref x1, .ref x2, .ref x45, .ref x53, .ref x55, .ref x57, .int 0, .int 0, .int 0]))]) [0] (by decide) rfl
  have hKc := hK.sub (tys' := []) [] rfl
  have hFc := va_free (wc := [(x0, .inr (7, [.ref x1, .ref x2, .ref x45, .ref x53, .ref x55, .ref x57, .int 0, .int 0, .int 0]))]) hD hS hA [0] rfl
  refine va_calli (vx_runSW (As := [.ref x0, .int v1, .int v2, .int v3, .ref o0]) (rest := []) ⟨hx, hb, hml, hown, hts⟩ (kx_L_cut_1 l hst dC dI ge5 gea gv5 gva gde gic gi0 x0 o0 x1 x2 x45 x53 x55 x57 H.size v1 v1_l v1_u v2 v2_l v2_u v3 v3_l v3_u) (vx_cwSW 5 hts gL_law_L_cut rfl rfl rfl (by decide +kernel) ⟨Nat.le_of_ble_eq_true rfl, Nat.le_of_ble_eq_true rfl⟩) ⟨fun a U g mk q => by obtain ⟨q0, q1, qP, qK, qD, qG⟩ := q; exact ⟨q0, q1, qP, va_K.moved (u := U) (U := U.calling g mk a) (Vm.Alike.refl U.vm) qK, qD, gv.fb qG⟩, fun U hU hW => ⟨rfl, by rw [hU], by rw [hU]; exact hPc, va_K.moved hW.alike hKc, hDc.weaken (fun _ _ _ _ => trivial), gv.pass hW hU hS hFc hG⟩⟩ rfl rfl hl.1 rfl (lv_room (Nat.le_of_ble_eq_true rfl)) dL_law_562 ⟨Nat.le_of_ble_eq_true rfl, Nat.le_of_ble_eq_true rfl⟩) hS (fun q _ h => hFc q h) hFc (fun r9 u t H1 locs ht hvm hw hB hz1 hk1 hS => ?_)
  obtain rfl := hw
  obtain ⟨hP1, hK1, hD1⟩ := hB
  rw [ht] at hP1
  have hK1 := va_K.moved hvm.symm hK1
  obtain ⟨hP, hD⟩ := va_join (wr := [(m0, .inr (9, [.int 0, .ref m1, .ref m2, .ref m3, .int 0, .int 0, .int 0]))]) (w1 := [(x0, .inr (7, [.ref x1, .ref x2, .ref x45, .ref x53, .ref x55, .ref x57, .int 0, .int 0, .int 0]))]) hP hD [0] [1] rfl rfl (by decide) (by decide) hk1 hFc hP1 hD1
  generalize H1 = H at hP hS ⊢
  have hP : va_P (dC, dI) vwCl [(m0, .inr (9, [.int 0, .ref m1, .ref m2, .ref m3, .int 0, .int 0, .int 0])), (x0, .inr (7, [.ref x1, .ref x2, .ref x45, .ref x53, .ref x55, .ref x57, .int 0, .int 0, .int 0]))] H := hP
  have hD : va_D A [(m0, .inr (9, [.int 0, .ref m1, .ref m2, .ref m3, .int 0, .int 0, .int 0])), (x0, .inr (7, [.ref x1, .ref x2, .ref x45, .ref x53, .ref x55, .ref x57, .int 0, .int 0, .int 0]))] := hD
  refine W.widen (k := 73) (n := 2754) (by omega) (by omega) ?_
  refine lv_istore (lv' := [(5, .int 1), (4, .int 0), (3, .ref o0), (2, .ref m0), (1, .ref x0), (0, .ref b)]) hx hb dL_law_565 hl (by decide) rfl (fun ls hl => ?_)
  refine lv_aload_n hx hb dL_law_567 rfl (lv_at hl 3 rfl) ?_
  refine lv_aload_n hx hb dL_law_568 rfl (lv_at hl 5 rfl) ?_
  refine lv_iload hx hb dL_law_569 (lv_at hl 1 rfl) ?_
  refine lv_iconst (v := 1) hx hb dL_law_571 (by decide) ?_
  refine lv_iadd hx hb dL_law_572 ?_
  refine lv_topi (fun y4 ey4 => ?_)
  obtain rfl : y4 = 1 := ey4.trans (by decide)
  refine va_sld hx hb hX hbl hbA hS (by unfold vp_in; decide) dL_law_573 ?_
  rw [show xs (Int32.toNatClampNeg 1) = v1 from hx1]
  refine lv_aload_n hx hb dL_law_574 rfl (lv_at hl 5 rfl) ?_
  refine lv_iload hx hb dL_law_575 (lv_at hl 1 rfl) ?_
  refine lv_iconst (v := 2) hx hb dL_law_577 (by decide) ?_
  refine lv_iadd hx hb dL_law_578 ?_
  refine lv_topi (fun y5 ey5 => ?_)
  obtain rfl : y5 = 2 := ey5.trans (by decide)
  refine va_sld hx hb hX hbl hbA hS (by unfold vp_in; decide) dL_law_579 ?_
  rw [show xs (Int32.toNatClampNeg 2) = v2 from hx2]
  refine lv_aload_n hx hb dL_law_580 rfl (lv_at hl 5 rfl) ?_
  refine lv_iload hx hb dL_law_581 (lv_at hl 1 rfl) ?_
  refine lv_iconst (v := 3) hx hb dL_law_583 (by decide) ?_
  refine lv_iadd hx hb dL_law_584 ?_
  refine lv_topi (fun y6 ey6 => ?_)
  obtain rfl : y6 = 3 := ey6.trans (by decide)
  refine va_sld hx hb hX hbl hbA hS (by unfold vp_in; decide) dL_law_585 ?_
  rw [show xs (Int32.toNatClampNeg 3) = v3 from hx3]
  have hPc := hP.sub (ws' := [(m0, .inr (9, [.int 0, .ref m1, .ref m2, .ref m3, .int 0, .int 0, .int 0]))]) [0] rfl
  have hDc := hD.sub (ws' := [(m0, .inr (9, [.int 0, .ref m1, .ref m2, .ref m3, .int 0, .int 0, .int 0]))]) [0] (by decide) rfl
  have hKc := hK.sub (tys' := []) [] rfl
  have hFc := va_free (wc := [(m0, .inr (9, [.int 0, .ref m1, .ref m2, .ref m3, .int 0, .int 0, .int 0]))]) hD hS hA [0] rfl
  refine va_calli (va_runV (As := [.int v1, .int v2, .int v3]) (rest := []) ⟨hx, hb, hml, hown, hts⟩ (kx_X5_cut_1 l dC dI m0 m1 m2 m3 H.size v1 v1_l v1_u v2 v2_l v2_u v3 v3_l v3_u) (cwV 3 hts gL_law_X5_cut rfl rfl rfl (by decide +kernel) ⟨Nat.le_of_ble_eq_true rfl, Nat.le_of_ble_eq_true rfl⟩) ⟨fun a U g mk q => by obtain ⟨q0, q1, qP, qK, qD⟩ := q; exact ⟨q0, q1, qP, va_K.moved (u := U) (U := U.calling g mk a) (Vm.Alike.refl U.vm) qK, qD⟩, va_recv hKc hPc (ci := 9) (q0 := 0) rfl rfl, fun U hU hW => ⟨rfl, by rw [hU], by rw [hU]; exact hPc, va_K.moved hW.alike hKc, hDc.weaken (fun _ _ _ _ => trivial)⟩⟩ rfl rfl hl.1 rfl (lv_room (Nat.le_of_ble_eq_true rfl)) dL_law_586 ⟨Nat.le_of_ble_eq_true rfl, Nat.le_of_ble_eq_true rfl⟩) hS (fun q _ h => hFc q h) hFc (fun r9 u t H1 locs ht hvm hw hB hz1 hk1 hS => ?_)
  obtain rfl := hw
  obtain ⟨hP1, hK1, hD1⟩ := hB
  rw [ht] at hP1
  have hK1 := va_K.moved hvm.symm hK1
  obtain ⟨hP, hD⟩ := va_join (wr := [(x0, .inr (7, [.ref x1, .ref x2, .ref x45, .ref x53, .ref x55, .ref x57, .int 0, .int 0, .int 0]))]) (w1 := [(m0, .inr (9, [.int 1, .ref m1, .ref m2, .ref m3, .int 0, .int 0, .int 0]))]) hP hD [0] [1] rfl rfl (by decide) (by decide) hk1 hFc hP1 hD1
  generalize H1 = H at hP hS ⊢
  have hP : va_P (dC, dI) vwCl [(x0, .inr (7, [.ref x1, .ref x2, .ref x45, .ref x53, .ref x55, .ref x57, .int 0, .int 0, .int 0])), (m0, .inr (9, [.int 1, .ref m1, .ref m2, .ref m3, .int 0, .int 0, .int 0]))] H := hP
  have hD : va_D A [(x0, .inr (7, [.ref x1, .ref x2, .ref x45, .ref x53, .ref x55, .ref x57, .int 0, .int 0, .int 0])), (m0, .inr (9, [.int 1, .ref m1, .ref m2, .ref m3, .int 0, .int 0, .int 0]))] := hD
  refine lv_istore (lv' := [(6, .int 0), (5, .int 1), (4, .int 0), (3, .ref o0), (2, .ref m0), (1, .ref x0), (0, .ref b)]) hx hb dL_law_589 hl (by decide) rfl (fun ls hl => ?_)
  refine lv_aload_n hx hb dL_law_591 rfl (lv_at hl 4 rfl) ?_
  have hPc := hP.sub (ws' := [(m0, .inr (9, [.int 1, .ref m1, .ref m2, .ref m3, .int 0, .int 0, .int 0]))]) [1] rfl
  have hDc := hD.sub (ws' := [(m0, .inr (9, [.int 1, .ref m1, .ref m2, .ref m3, .int 0, .int 0, .int 0]))]) [1] (by decide) rfl
  have hKc := hK.sub (tys' := []) [] rfl
  have hFc := va_free (wc := [(m0, .inr (9, [.int 1, .ref m1, .ref m2, .ref m3, .int 0, .int 0, .int 0]))]) hD hS hA [1] rfl
  refine va_calli (va_runV (As := []) (rest := []) ⟨hx, hb, hml, hown, hts⟩ (kx_X5_thrown_0 l dC dI m0 m1 m2 m3 H.size) (cwV 0 hts gL_law_X5_thrown rfl rfl rfl (by decide +kernel) ⟨Nat.le_of_ble_eq_true rfl, Nat.le_of_ble_eq_true rfl⟩) ⟨fun a U g mk q => by obtain ⟨q0, q1, qP, qK, qD⟩ := q; exact ⟨q0, q1, qP, va_K.moved (u := U) (U := U.calling g mk a) (Vm.Alike.refl U.vm) qK, qD⟩, va_recv hKc hPc (ci := 9) (q0 := 0) rfl rfl, fun U hU hW => ⟨rfl, by rw [hU], by rw [hU]; exact hPc, va_K.moved hW.alike hKc, hDc.weaken (fun _ _ _ _ => trivial)⟩⟩ rfl rfl hl.1 rfl (lv_room (Nat.le_of_ble_eq_true rfl)) dL_law_592 ⟨Nat.le_of_ble_eq_true rfl, Nat.le_of_ble_eq_true rfl⟩) hS (fun q _ h => hFc q h) hFc (fun r9 u t H1 locs ht hvm hw hB hz1 hk1 hS => ?_)
  obtain rfl := hw
  obtain ⟨hP1, hK1, hD1⟩ := hB
  rw [ht] at hP1
  have hK1 := va_K.moved hvm.symm hK1
  obtain ⟨hP, hD⟩ := va_join (wr := [(x0, .inr (7, [.ref x1, .ref x2, .ref x45, .ref x53, .ref x55, .ref x57, .int 0, .int 0, .int 0]))]) (w1 := [(m0, .inr (9, [.int 1, .ref m1, .ref m2, .ref m3, .int 0, .int 0, .int 0]))]) hP hD [1] [0] rfl rfl (by decide) (by decide) hk1 hFc hP1 hD1
  generalize H1 = H at hP hS ⊢
  have hP : va_P (dC, dI) vwCl [(x0, .inr (7, [.ref x1, .ref x2, .ref x45, .ref x53, .ref x55, .ref x57, .int 0, .int 0, .int 0])), (m0, .inr (9, [.int 1, .ref m1, .ref m2, .ref m3, .int 0, .int 0, .int 0]))] H := hP
  have hD : va_D A [(x0, .inr (7, [.ref x1, .ref x2, .ref x45, .ref x53, .ref x55, .ref x57, .int 0, .int 0, .int 0])), (m0, .inr (9, [.int 1, .ref m1, .ref m2, .ref m3, .int 0, .int 0, .int 0]))] := hD
  refine lv_iload hx hb dL_law_595 (lv_at hl 1 rfl) ?_
  refine lv_icmp_eq (tgt := 602) hx hb dL_law_597 (by decide) (fun _ => ?_) (fun c9 => absurd (by decide) c9)
  refine lv_iload hx hb dL_law_602 (lv_at hl 1 rfl) ?_
  refine lv_if_ne (tgt := 620) hx hb dL_law_604 (by decide) (fun _ => ?_) (fun c9 => absurd c9 (by decide))
  refine lv_goto (tgt := 2342) hx hb dL_law_620 (by decide) ?_
  refine lv_iinc (v := 7) (lv' := [(4, .int 7), (6, .int 0), (5, .int 1), (3, .ref o0), (2, .ref m0), (1, .ref x0), (0, .ref b)]) hx hb dL_law_2342 hl (k := 2) rfl (by decide) (by decide) rfl (fun ls hl => ?_)
  refine lv_goto (tgt := 27) hx hb dL_law_2345 (by decide) ?_
  refine lv_iload hx hb dL_law_27 (lv_at hl 0 rfl) ?_
  refine lv_aload_n hx hb dL_law_29 rfl (lv_at hl 6 rfl) ?_
  refine va_slen hx hb hX hbl hbA hS dL_law_30 ?_
  refine lv_topi (fun y7 ey7 => ?_)
  obtain rfl : y7 = 7 := ey7.trans (by decide)
  refine lv_bipush (v := 7) hx hb dL_law_31 (by decide) ?_
  refine lv_isub hx hb dL_law_33 ?_
  refine lv_topi (fun y8 ey8 => ?_)
  obtain rfl : y8 = 0 := ey8.trans (by decide)
  refine lv_icmp_gt (tgt := 2348) hx hb dL_law_34 (by decide) (fun _ => ?_) (fun c9 => absurd (by decide) c9)
  refine lv_iconst (v := 1) hx hb dL_law_2348 (by decide) ?_
  refine va_forget (fun q hq => (by have h := hS.2.2 q hq; rw [hAe] at h; exact h)) ?_
  refine W.widen (k := 600002) (n := 7302232) (Nat.le_of_ble_eq_true rfl) (Nat.le_of_ble_eq_true rfl) ?_
  exact lw_ret hx hb hr hlocks dL_law_2349
set_option maxHeartbeats 4000000 in
set_option maxRecDepth 100000 in
theorem lc_cut_2 {p : Program} {e : Env} {s : State} {m : MethodId} {below : List Frame} {meth : Method} {c : Code} {l : Launch} (hst : l.stackTraces = false) {b : Nat} {xs : Nat → Int32} (C9 : lx_At p s m meth c b xs) {dC : Nat → ClassId} {dI : Nat → Nat → Nat} {ge5 gea gv5 gva gde gic gi0 : Nat} {x0 x1 m0 m1 x2 x45 x53 x55 x57 x59 x61 x63 x65 m2 m3 o0 : Nat} {xc0 mc0 : ClassId} (hG : gv ge5 gea gv5 gva gde gic gi0 (fun q => s.heap.size ≤ q) s s.heap) {v1 : Int32} (v1_l : (0 : Int) ≤ v1.toInt) (v1_u : v1.toInt ≤ (3 : Int)) {v2 : Int32} (v2_l : ((-2147483648) : Int) ≤ v2.toInt) (v2_u : v2.toInt ≤ ((-1) : Int)) {v3 : Int32} (v3_l : ((-2147483648) : Int) ≤ v3.toInt) (v3_u : v3.toInt ≤ (2147483647 : Int)) (hx1 : xs 1 = v1) (hx2 : xs 2 = v2) (hx3 : xs 3 = v3) {H : Heap} {locs : List Loc} (hK : va_K (dC, dI) vwCl [(xc0, .object "Rewriterope$Text"), (mc0, .object "java/lang/String")] s) (hP : va_P (dC, dI) vwCl [(x0, .inr (7, [.ref x1, .ref x2, .ref x45, .ref x53, .ref x55, .ref x57, .int 0, .int 0, .int 0])), (x1, .inl (xc0, 4, .inr (.inr (.inr (.inr (va_up (va_up (va_up (va_up (fun _ => none) 0 (some x59)) 1 (some x61)) 2 (some x63)) 3 (some x65))))))), (m0, .inr (9, [.int 0, .ref m1, .ref m2, .ref m3, .int 0, .int 0, .int 0])), (m1, .inl (mc0, 4, .inr (.inr (.inr (.inr (va_up (va_up (va_up (va_up (fun _ => none) 0 (some ge5)) 1 (some ge5)) 2 (some ge5)) 3 (some ge5)))))))] H) (hD : va_D (fun q => s.heap.size ≤ q) [(x0, .inr (7, [.ref x1, .ref x2, .ref x45, .ref x53, .ref x55, .ref x57, .int 0, .int 0, .int 0])), (x1, .inl (xc0, 4, .inr (.inr (.inr (.inr (va_up (va_up (va_up (va_up (fun _ => none) 0 (some x59)) 1 (some x61)) 2 (some x63)) 3 (some x65))))))), (m0, .inr (9, [.int 0, .ref m1, .ref m2, .ref m3, .int 0, .int 0, .int 0])), (m1, .inl (mc0, 4, .inr (.inr (.inr (.inr (va_up (va_up (va_up (va_up (fun _ => none) 0 (some ge5)) 1 (some ge5)) 2 (some ge5)) 3 (some ge5)))))))]) (hS : va_S (fun q => s.heap.size ≤ q) s.heap H locs) {ls : Array Slot} (hl : lv_has ls 7 [(4, .int 0), (3, .ref o0), (2, .ref m0), (1, .ref x0), (0, .ref b)]) : W p l e room_1 s m #[Value.ref b] below meth c H locs 72 2748 (lw_Z below #[Value.ref b] s) (F0 m 542 ls []) := by
  obtain ⟨hx, hb, hr, hml, hown, hts, hX, hbl, hlocks⟩ := id C9
  have hA : ∀ q : Nat, s.heap.size ≤ q → (fun q : Nat => s.heap.size ≤ q) q := fun _ h => h
  have hbA : ¬ (fun q : Nat => s.heap.size ≤ q) b := Nat.not_le.mpr hbl
  obtain ⟨A, hAe⟩ : ∃ A : Nat → Prop, A = (fun q : Nat => s.heap.size ≤ q) := ⟨_, rfl⟩
  rw [← hAe] at hG hD hS hA hbA
  obtain ⟨⟨g_AO_Text, g_AO_String, g_AO_Object, g_nm_RX1_20, g_nm_RX0_17, g_nm_RX3_31, g_nm_RX2_44, g_nm_RL_121, g_nf_RL_13, g_nf_RL_47, g_ca_IO, g_ca_IA, g_ca_IS, g_ca_IntObj, g_ca_StrObj, g_de_RT, g_de_EX, g_de_TH, g_nc_IA_IO, g_nc_IS_IO, g_nc_IS_IA⟩, ⟨g_s3, g_s5, g_sa, g_x278, g_x280, g_x282, g_x284, g_x286, g_x180, g_x238, g_x250⟩, ⟨g_o5, g_c5, g_v5, g_t5, g_oa, g_ca, g_va, g_ta, g_zc, g_zd, g_td, g_zf, g_zU, g_zN, g_zh, g_zk, g_tk, g_oi, g_vi⟩⟩ := id hG
  refine lv_aload_n hx hb dL_law_542 rfl (lv_at hl 3 rfl) ?_
  refine lv_aload_n hx hb dL_law_543 rfl (lv_at hl 4 rfl) ?_
  refine lv_iload hx hb dL_law_544 (lv_at hl 0 rfl) ?_
  refine lv_iconst (v := 1) hx hb dL_law_546 (by decide) ?_
  refine lv_iadd hx hb dL_law_547 ?_
  refine lv_topi (fun y1 ey1 => ?_)
  obtain rfl : y1 = 1 := ey1.trans (by decide)
  refine va_sld hx hb hX hbl hbA hS (by unfold vp_in; decide) dL_law_548 ?_
  rw [show xs (Int32.toNatClampNeg 1) = v1 from hx1]
  refine lv_aload_n hx hb dL_law_549 rfl (lv_at hl 4 rfl) ?_
  refine lv_iload hx hb dL_law_550 (lv_at hl 0 rfl) ?_
  refine lv_iconst (v := 2) hx hb dL_law_552 (by decide) ?_
  refine lv_iadd hx hb dL_law_553 ?_
  refine lv_topi (fun y2 ey2 => ?_)
  obtain rfl : y2 = 2 := ey2.trans (by decide)
  refine va_sld hx hb hX hbl hbA hS (by unfold vp_in; decide) dL_law_554 ?_
  rw [show xs (Int32.toNatClampNeg 2) = v2 from hx2]
  refine lv_aload_n hx hb dL_law_555 rfl (lv_at hl 4 rfl) ?_
  refine lv_iload hx hb dL_law_556 (lv_at hl 0 rfl) ?_
  refine lv_iconst (v := 3) hx hb dL_law_558 (by decide) ?_
  refine lv_iadd hx hb dL_law_559 ?_
  refine lv_topi (fun y3 ey3 => ?_)
  obtain rfl : y3 = 3 := ey3.trans (by decide)
  refine va_sld hx hb hX hbl hbA hS (by unfold vp_in; decide) dL_law_560 ?_
  rw [show xs (Int32.toNatClampNeg 3) = v3 from hx3]
  refine lv_aload_n hx hb dL_law_561 rfl (lv_at hl 1 rfl) ?_
  have hPc := hP.sub (ws' := [(x0, .inr (7, [.ref x1, .ref x2, .ref x45, .ref x53, .ref x55, .ref x57, .int 0, .int 0, .int 0])), (x1, .inl (xc0, 4, .inr (.inr (.inr (.inr (va_up (va_up (va_up (va_up (fun _ => none) 0 (some x59)) 1 (some x61)) 2 (some x63)) 3 (some x65)))))))]) [0, 1] rfl
  have hDc := hD.sub (ws' := [(x0, .inr (7, [.ref x1, .ref x2, .ref x45, .ref x53, .ref x55, .ref x57, .int 0, .int 0, .int 0])), (x1, .inl (xc0, 4, .inr (.inr (.inr (.inr (va_up (va_up (va_up (va_up (fun _ => none) 0 (some x59)) 1 (some x61)) 2 (some x63)) 3 (some x65)))))))]) [0, 1] (by decide) rfl
  have hKc := hK.sub (tys' := [(xc0, .object "Rewriterope$Text")]) [0] rfl
  have hFc := va_free (wc := [(x0, .inr (7, [.ref x1, .ref x2, .ref x45, .ref x53, .ref x55, .ref x57, .int 0, .int 0, .int 0])), (x1, .inl (xc0, 4, .inr (.inr (.inr (.inr (va_up (va_up (va_up (va_up (fun _ => none) 0 (some x59)) 1 (some x61)) 2 (some x63)) 3 (some x65)))))))]) hD hS hA [0, 1] rfl
  refine va_calli (vx_runSW (As := [.ref x0, .int v1, .int v2, .int v3, .ref o0]) (rest := []) ⟨hx, hb, hml, hown, hts⟩ (kx_L_cut_2 l hst dC dI ge5 gea gv5 gva gde gic gi0 x0 x1 o0 x2 x45 x53 x55 x57 x59 x61 x63 x65 xc0 H.size v1 v1_l v1_u v2 v2_l v2_u v3 v3_l v3_u) (vx_cwSW 5 hts gL_law_L_cut rfl rfl rfl (by decide +kernel) ⟨Nat.le_of_ble_eq_true rfl, Nat.le_of_ble_eq_true rfl⟩) ⟨fun a U g mk q => by obtain ⟨q0, q1, qP, qK, qD, qG⟩ := q; exact ⟨q0, q1, qP, va_K.moved (u := U) (U := U.calling g mk a) (Vm.Alike.refl U.vm) qK, qD, gv.fb qG⟩, fun U hU hW => ⟨rfl, by rw [hU], by rw [hU]; exact hPc, va_K.moved hW.alike hKc, hDc.weaken (fun _ _ _ _ => trivial), gv.pass hW hU hS hFc hG⟩⟩ rfl rfl hl.1 rfl (lv_room (Nat.le_of_ble_eq_true rfl)) dL_law_562 ⟨Nat.le_of_ble_eq_true rfl, Nat.le_of_ble_eq_true rfl⟩) hS (fun q _ h => hFc q h) hFc (fun r9 u t H1 locs ht hvm hw hB hz1 hk1 hS => ?_)
  obtain rfl := hw
  obtain ⟨hP1, hK1, hD1⟩ := hB
  rw [ht] at hP1
  have hK1 := va_K.moved hvm.symm hK1
  obtain ⟨hP, hD⟩ := va_join (wr := [(m0, .inr (9, [.int 0, .ref m1, .ref m2, .ref m3, .int 0, .int 0, .int 0])), (m1, .inl (mc0, 4, .inr (.inr (.inr (.inr (va_up (va_up (va_up (va_up (fun _ => none) 0 (some ge5)) 1 (some ge5)) 2 (some ge5)) 3 (some ge5)))))))]) (w1 := [(x0, .inr (7, [.ref x1, .ref x2, .ref x45, .ref x53, .ref x55, .ref x57, .int 0, .int 0, .int 0])), (x1, .inl (xc0, 4, .inr (.inr (.inr (.inr (va_up (va_up (va_up (va_up (fun _ => none) 0 (some x59)) 1 (some x61)) 2 (some x63)) 3 (some x65)))))))]) hP hD [0, 1] [2, 3] rfl rfl (by decide) (by decide) hk1 hFc hP1 hD1
  generalize H1 = H at hP hS ⊢
  have hP : va_P (dC, dI) vwCl [(m0, .inr (9, [.int 0, .ref m1, .ref m2, .ref m3, .int 0, .int 0, .int 0])), (m1, .inl (mc0, 4, .inr (.inr (.inr (.inr (va_up (va_up (va_up (va_up (fun _ => none) 0 (some ge5)) 1 (some ge5)) 2 (some ge5)) 3 (some ge5))))))), (x0, .inr (7, [.ref x1, .ref x2, .ref x45, .ref x53, .ref x55, .ref x57, .int 0, .int 0, .int 0])), (x1, .inl (xc0, 4, .inr (.inr (.inr (.inr (va_up (va_up (va_up (va_up (fun _ => none) 0 (some x59)) 1 (some x61)) 2 (some x63)) 3 (some x65)))))))] H := hP
  have hD : va_D A [(m0, .inr (9, [.int 0, .ref m1, .ref m2, .ref m3, .int 0, .int 0, .int 0])), (m1, .inl (mc0, 4, .inr (.inr (.inr (.inr (va_up (va_up (va_up (va_up (fun _ => none) 0 (some ge5)) 1 (some ge5)) 2 (some ge5)) 3 (some ge5))))))), (x0, .inr (7, [.ref x1, .ref x2, .ref x45, .ref x53, .ref x55, .ref x57, .int 0, .int 0, .int 0])), (x1, .inl (xc0, 4, .inr (.inr (.inr (.inr (va_up (va_up (va_up (va_up (fun _ => none) 0 (some x59)) 1 (some x61)) 2 (some x63)) 3 (some x65)))))))] := hD
  refine W.widen (k := 73) (n := 2754) (by omega) (by omega) ?_
  refine lv_istore (lv' := [(5, .int 1), (4, .int 0), (3, .ref o0), (2, .ref m0), (1, .ref x0), (0, .ref b)]) hx hb dL_law_565 hl (by decide) rfl (fun ls hl => ?_)
  refine lv_aload_n hx hb dL_law_567 rfl (lv_at hl 3 rfl) ?_
  refine lv_aload_n hx hb dL_law_568 rfl (lv_at hl 5 rfl) ?_
  refine lv_iload hx hb dL_law_569 (lv_at hl 1 rfl) ?_
  refine lv_iconst (v := 1) hx hb dL_law_571 (by decide) ?_
  refine lv_iadd hx hb dL_law_572 ?_
  refine lv_topi (fun y4 ey4 => ?_)
  obtain rfl : y4 = 1 := ey4.trans (by decide)
  refine va_sld hx hb hX hbl hbA hS (by unfold vp_in; decide) dL_law_573 ?_
  rw [show xs (Int32.toNatClampNeg 1) = v1 from hx1]
  refine lv_aload_n hx hb dL_law_574 rfl (lv_at hl 5 rfl) ?_
  refine lv_iload hx hb dL_law_575 (lv_at hl 1 rfl) ?_
  refine lv_iconst (v := 2) hx hb dL_law_577 (by decide) ?_
  refine lv_iadd hx hb dL_law_578 ?_
  refine lv_topi (fun y5 ey5 => ?_)
  obtain rfl : y5 = 2 := ey5.trans (by decide)
  refine va_sld hx hb hX hbl hbA hS (by unfold vp_in; decide) dL_law_579 ?_
  rw [show xs (Int32.toNatClampNeg 2) = v2 from hx2]
  refine lv_aload_n hx hb dL_law_580 rfl (lv_at hl 5 rfl) ?_
  refine lv_iload hx hb dL_law_581 (lv_at hl 1 rfl) ?_
  refine lv_iconst (v := 3) hx hb dL_law_583 (by decide) ?_
  refine lv_iadd hx hb dL_law_584 ?_
  refine lv_topi (fun y6 ey6 => ?_)
  obtain rfl : y6 = 3 := ey6.trans (by decide)
  refine va_sld hx hb hX hbl hbA hS (by unfold vp_in; decide) dL_law_585 ?_
  rw [show xs (Int32.toNatClampNeg 3) = v3 from hx3]
  have hPc := hP.sub (ws' := [(m0, .inr (9, [.int 0, .ref m1, .ref m2, .ref m3, .int 0, .int 0, .int 0])), (m1, .inl (mc0, 4, .inr (.inr (.inr (.inr (va_up (va_up (va_up (va_up (fun _ => none) 0 (some ge5)) 1 (some ge5)) 2 (some ge5)) 3 (some ge5)))))))]) [0, 1] rfl
  have hDc := hD.sub (ws' := [(m0, .inr (9, [.int 0, .ref m1, .ref m2, .ref m3, .int 0, .int 0, .int 0])), (m1, .inl (mc0, 4, .inr (.inr (.inr (.inr (va_up (va_up (va_up (va_up (fun _ => none) 0 (some ge5)) 1 (some ge5)) 2 (some ge5)) 3 (some ge5)))))))]) [0, 1] (by decide) rfl
  have hKc := hK.sub (tys' := [(mc0, .object "java/lang/String")]) [1] rfl
  have hFc := va_free (wc := [(m0, .inr (9, [.int 0, .ref m1, .ref m2, .ref m3, .int 0, .int 0, .int 0])), (m1, .inl (mc0, 4, .inr (.inr (.inr (.inr (va_up (va_up (va_up (va_up (fun _ => none) 0 (some ge5)) 1 (some ge5)) 2 (some ge5)) 3 (some ge5)))))))]) hD hS hA [0, 1] rfl
  refine va_calli (va_runV (As := [.int v1, .int v2, .int v3]) (rest := []) ⟨hx, hb, hml, hown, hts⟩ (kx_X5_cut_2 l dC dI ge5 gea gv5 gva gde gic gi0 m0 m1 m2 m3 mc0 H.size v1 v1_l v1_u v2 v2_l v2_u v3 v3_l v3_u) (cwV 3 hts gL_law_X5_cut rfl rfl rfl (by decide +kernel) ⟨Nat.le_of_ble_eq_true rfl, Nat.le_of_ble_eq_true rfl⟩) ⟨fun a U g mk q => by obtain ⟨q0, q1, qP, qK, qD, qG⟩ := q; exact ⟨q0, q1, qP, va_K.moved (u := U) (U := U.calling g mk a) (Vm.Alike.refl U.vm) qK, qD, gv.fb qG⟩, va_recv hKc hPc (ci := 9) (q0 := 0) rfl rfl, fun U hU hW => ⟨rfl, by rw [hU], by rw [hU]; exact hPc, va_K.moved hW.alike hKc, hDc.weaken (fun _ _ _ _ => trivial), gv.pass hW hU hS hFc hG⟩⟩ rfl rfl hl.1 rfl (lv_room (Nat.le_of_ble_eq_true rfl)) dL_law_586 ⟨Nat.le_of_ble_eq_true rfl, Nat.le_of_ble_eq_true rfl⟩) hS (fun q _ h => hFc q h) hFc (fun r9 u t H1 locs ht hvm hw hB hz1 hk1 hS => ?_)
  obtain rfl := hw
  obtain ⟨hP1, hK1, hD1⟩ := hB
  rw [ht] at hP1
  have hK1 := va_K.moved hvm.symm hK1
  obtain ⟨hP, hD⟩ := va_join (wr := [(x0, .inr (7, [.ref x1, .ref x2, .ref x45, .ref x53, .ref x55, .ref x57, .int 0, .int 0, .int 0])), (x1, .inl (xc0, 4, .inr (.inr (.inr (.inr (va_up (va_up (va_up (va_up (fun _ => none) 0 (some x59)) 1 (some x61)) 2 (some x63)) 3 (some x65)))))))]) (w1 := [(m0, .inr (9, [.int 1, .ref m1, .ref m2, .ref m3, .int 0, .int 0, .int 0]))]) hP hD [0, 1] [2, 3] rfl rfl (by decide) (by decide) hk1 hFc hP1 hD1
  generalize H1 = H at hP hS ⊢
  have hP : va_P (dC, dI) vwCl [(x0, .inr (7, [.ref x1, .ref x2, .ref x45, .ref x53, .ref x55, .ref x57, .int 0, .int 0, .int 0])), (x1, .inl (xc0, 4, .inr (.inr (.inr (.inr (va_up (va_up (va_up (va_up (fun _ => none) 0 (some x59)) 1 (some x61)) 2 (some x63)) 3 (some x65))))))), (m0, .inr (9, [.int 1, .ref m1, .ref m2, .ref m3, .int 0, .int 0, .int 0]))] H := hP
  have hD : va_D A [(x0, .inr (7, [.ref x1, .ref x2, .ref x45, .ref x53, .ref x55, .ref x57, .int 0, .int 0, .int 0])), (x1, .inl (xc0, 4, .inr (.inr (.inr (.inr (va_up (va_up (va_up (va_up (fun _ => none) 0 (some x59)) 1 (some x61)) 2 (some x63)) 3 (some x65))))))), (m0, .inr (9, [.int 1, .ref m1, .ref m2, .ref m3, .int 0, .int 0, .int 0]))] := hD
  refine lv_istore (lv' := [(6, .int 0), (5, .int 1), (4, .int 0), (3, .ref o0), (2, .ref m0), (1, .ref x0), (0, .ref b)]) hx hb dL_law_589 hl (by decide) rfl (fun ls hl => ?_)
  refine lv_aload_n hx hb dL_law_591 rfl (lv_at hl 4 rfl) ?_
  have hPc := hP.sub (ws' := [(m0, .inr (9, [.int 1, .ref m1, .ref m2, .ref m3, .int 0, .int 0, .int 0]))]) [2] rfl
  have hDc := hD.sub (ws' := [(m0, .inr (9, [.int 1, .ref m1, .ref m2, .ref m3, .int 0, .int 0, .int 0]))]) [2] (by decide) rfl
  have hKc := hK.sub (tys' := []) [] rfl
  have hFc := va_free (wc := [(m0, .inr (9, [.int 1, .ref m1, .ref m2, .ref m3, .int 0, .int 0, .int 0]))]) hD hS hA [2] rfl
  refine va_calli (va_runV (As := []) (rest := []) ⟨hx, hb, hml, hown, hts⟩ (kx_X5_thrown_0 l dC dI m0 m1 m2 m3 H.size) (cwV 0 hts gL_law_X5_thrown rfl rfl rfl (by decide +kernel) ⟨Nat.le_of_ble_eq_true rfl, Nat.le_of_ble_eq_true rfl⟩) ⟨fun a U g mk q => by obtain ⟨q0, q1, qP, qK, qD⟩ := q; exact ⟨q0, q1, qP, va_K.moved (u := U) (U := U.calling g mk a) (Vm.Alike.refl U.vm) qK, qD⟩, va_recv hKc hPc (ci := 9) (q0 := 0) rfl rfl, fun U hU hW => ⟨rfl, by rw [hU], by rw [hU]; exact hPc, va_K.moved hW.alike hKc, hDc.weaken (fun _ _ _ _ => trivial)⟩⟩ rfl rfl hl.1 rfl (lv_room (Nat.le_of_ble_eq_true rfl)) dL_law_592 ⟨Nat.le_of_ble_eq_true rfl, Nat.le_of_ble_eq_true rfl⟩) hS (fun q _ h => hFc q h) hFc (fun r9 u t H1 locs ht hvm hw hB hz1 hk1 hS => ?_)
  obtain rfl := hw
  obtain ⟨hP1, hK1, hD1⟩ := hB
  rw [ht] at hP1
  have hK1 := va_K.moved hvm.symm hK1
  obtain ⟨hP, hD⟩ := va_join (wr := [(x0, .inr (7, [.ref x1, .ref x2, .ref x45, .ref x53, .ref x55, .ref x57, .int 0, .int 0, .int 0])), (x1, .inl (xc0, 4, .inr (.inr (.inr (.inr (va_up (va_up (va_up (va_up (fun _ => none) 0 (some x59)) 1 (some x61)) 2 (some x63)) 3 (some x65)))))))]) (w1 := [(m0, .inr (9, [.int 1, .ref m1, .ref m2, .ref m3, .int 0, .int 0, .int 0]))]) hP hD [2] [0, 1] rfl rfl (by decide) (by decide) hk1 hFc hP1 hD1
  generalize H1 = H at hP hS ⊢
  have hP : va_P (dC, dI) vwCl [(x0, .inr (7, [.ref x1, .ref x2, .ref x45, .ref x53, .ref x55, .ref x57, .int 0, .int 0, .int 0])), (x1, .inl (xc0, 4, .inr (.inr (.inr (.inr (va_up (va_up (va_up (va_up (fun _ => none) 0 (some x59)) 1 (some x61)) 2 (some x63)) 3 (some x65))))))), (m0, .inr (9, [.int 1, .ref m1, .ref m2, .ref m3, .int 0, .int 0, .int 0]))] H := hP
  have hD : va_D A [(x0, .inr (7, [.ref x1, .ref x2, .ref x45, .ref x53, .ref x55, .ref x57, .int 0, .int 0, .int 0])), (x1, .inl (xc0, 4, .inr (.inr (.inr (.inr (va_up (va_up (va_up (va_up (fun _ => none) 0 (some x59)) 1 (some x61)) 2 (some x63)) 3 (some x65))))))), (m0, .inr (9, [.int 1, .ref m1, .ref m2, .ref m3, .int 0, .int 0, .int 0]))] := hD
  refine lv_iload hx hb dL_law_595 (lv_at hl 1 rfl) ?_
  refine lv_icmp_eq (tgt := 602) hx hb dL_law_597 (by decide) (fun _ => ?_) (fun c9 => absurd (by decide) c9)
  refine lv_iload hx hb dL_law_602 (lv_at hl 1 rfl) ?_
  refine lv_if_ne (tgt := 620) hx hb dL_law_604 (by decide) (fun _ => ?_) (fun c9 => absurd c9 (by decide))
  refine lv_goto (tgt := 2342) hx hb dL_law_620 (by decide) ?_
  refine lv_iinc (v := 7) (lv' := [(4, .int 7), (6, .int 0), (5, .int 1), (3, .ref o0), (2, .ref m0), (1, .ref x0), (0, .ref b)]) hx hb dL_law_2342 hl (k := 2) rfl (by decide) (by decide) rfl (fun ls hl => ?_)
  refine lv_goto (tgt := 27) hx hb dL_law_2345 (by decide) ?_
  refine lv_iload hx hb dL_law_27 (lv_at hl 0 rfl) ?_
  refine lv_aload_n hx hb dL_law_29 rfl (lv_at hl 6 rfl) ?_
  refine va_slen hx hb hX hbl hbA hS dL_law_30 ?_
  refine lv_topi (fun y7 ey7 => ?_)
  obtain rfl : y7 = 7 := ey7.trans (by decide)
  refine lv_bipush (v := 7) hx hb dL_law_31 (by decide) ?_
  refine lv_isub hx hb dL_law_33 ?_
  refine lv_topi (fun y8 ey8 => ?_)
  obtain rfl : y8 = 0 := ey8.trans (by decide)
  refine lv_icmp_gt (tgt := 2348) hx hb dL_law_34 (by decide) (fun _ => ?_) (fun c9 => absurd (by decide) c9)
  refine lv_iconst (v := 1) hx hb dL_law_2348 (by decide) ?_
  refine va_forget (fun q hq => (by have h := hS.2.2 q hq; rw [hAe] at h; exact h)) ?_
  refine W.widen (k := 600002) (n := 7302232) (Nat.le_of_ble_eq_true rfl) (Nat.le_of_ble_eq_true rfl) ?_
  exact lw_ret hx hb hr hlocks dL_law_2349
set_option maxHeartbeats 4000000 in
set_option maxRecDepth 100000 in
theorem lc_cut_3 {p : Program} {e : Env} {s : State} {m : MethodId} {below : List Frame} {meth : Method} {c : Code} {l : Launch} (hst : l.stackTraces = false) {b : Nat} {xs : Nat → Int32} (C9 : lx_At p s m meth c b xs) {dC : Nat → ClassId} {dI : Nat → Nat → Nat} {ge5 gea gv5 gva gde gic gi0 : Nat} {x0 x1 x59 x61 x63 x65 m0 m1 x2 x45 x53 x55 x57 x60 x62 x64 x66 m2 m3 o0 : Nat} {xc0 mc0 : ClassId} (hG : gv ge5 gea gv5 gva gde gic gi0 (fun q => s.heap.size ≤ q) s s.heap) {v1 : Int32} (v1_l : (0 : Int) ≤ v1.toInt) (v1_u : v1.toInt ≤ (3 : Int)) {v2 : Int32} (v2_l : (1 : Int) ≤ v2.toInt) (v2_u : v2.toInt ≤ (2147483647 : Int)) {v3 : Int32} (v3_l : ((-2147483648) : Int) ≤ v3.toInt) (v3_u : v3.toInt ≤ (2147483647 : Int)) (hx1 : xs 1 = v1) (hx2 : xs 2 = v2) (hx3 : xs 3 = v3) {H : Heap} {locs : List Loc} (hK : va_K (dC, dI) vwCl [(xc0, .object "Rewriterope$Text"), (mc0, .object "java/lang/String")] s) (hP : va_P (dC, dI) vwCl [(x0, .inr (7, [.ref x1, .ref x2, .ref x45, .ref x53, .ref x55, .ref x57, .int 0, .int 0, .int 0])), (x1, .inl (xc0, 4, .inr (.inr (.inr (.inr (va_up (va_up (va_up (va_up (fun _ => none) 0 (some x59)) 1 (some x61)) 2 (some x63)) 3 (some x65))))))), (x59, .inr (6, [.ref x60, .int 0])), (x61, .inr (6, [.ref x62, .int 0])), (x63, .inr (6, [.ref x64, .int 0])), (x65, .inr (6, [.ref x66, .int 0])), (m0, .inr (9, [.int 0, .ref m1, .ref m2, .ref m3, .int 0, .int 0, .int 0])), (m1, .inl (mc0, 4, .inr (.inr (.inr (.inr (va_up (va_up (va_up (va_up (fun _ => none) 0 (some ge5)) 1 (some ge5)) 2 (some ge5)) 3 (some ge5)))))))] H) (hD : va_D (fun q => s.heap.size ≤ q) [(x0, .inr (7, [.ref x1, .ref x2, .ref x45, .ref x53, .ref x55, .ref x57, .int 0, .int 0, .int 0])), (x1, .inl (xc0, 4, .inr (.inr (.inr (.inr (va_up (va_up (va_up (va_up (fun _ => none) 0 (some x59)) 1 (some x61)) 2 (some x63)) 3 (some x65))))))), (x59, .inr (6, [.ref x60, .int 0])), (x61, .inr (6, [.ref x62, .int 0])), (x63, .inr (6, [.ref x64, .int 0])), (x65, .inr (6, [.ref x66, .int 0])), (m0, .inr (9, [.int 0, .ref m1, .ref m2, .ref m3, .int 0, .int 0, .int 0])), (m1, .inl (mc0, 4, .inr (.inr (.inr (.inr (va_up (va_up (va_up (va_up (fun _ => none) 0 (some ge5)) 1 (some ge5)) 2 (some ge5)) 3 (some ge5)))))))]) (hS : va_S (fun q => s.heap.size ≤ q) s.heap H locs) {ls : Array Slot} (hl : lv_has ls 7 [(4, .int 0), (3, .ref o0), (2, .ref m0), (1, .ref x0), (0, .ref b)]) : W p l e room_1 s m #[Value.ref b] below meth c H locs 72 2748 (lw_Z below #[Value.ref b] s) (F0 m 542 ls []) := by
  obtain ⟨hx, hb, hr, hml, hown, hts, hX, hbl, hlocks⟩ := id C9
  have hA : ∀ q : Nat, s.heap.size ≤ q → (fun q : Nat => s.heap.size ≤ q) q := fun _ h => h
  have hbA : ¬ (fun q : Nat => s.heap.size ≤ q) b := Nat.not_le.mpr hbl
  obtain ⟨A, hAe⟩ : ∃ A : Nat → Prop, A = (fun q : Nat => s.heap.size ≤ q) := ⟨_, rfl⟩
  rw [← hAe] at hG hD hS hA hbA
  obtain ⟨⟨g_AO_Text, g_AO_String, g_AO_Object, g_nm_RX1_20, g_nm_RX0_17, g_nm_RX3_31, g_nm_RX2_44, g_nm_RL_121, g_nf_RL_13, g_nf_RL_47, g_ca_IO, g_ca_IA, g_ca_IS, g_ca_IntObj, g_ca_StrObj, g_de_RT, g_de_EX, g_de_TH, g_nc_IA_IO, g_nc_IS_IO, g_nc_IS_IA⟩, ⟨g_s3, g_s5, g_sa, g_x278, g_x280, g_x282, g_x284, g_x286, g_x180, g_x238, g_x250⟩, ⟨g_o5, g_c5, g_v5, g_t5, g_oa, g_ca, g_va, g_ta, g_zc, g_zd, g_td, g_zf, g_zU, g_zN, g_zh, g_zk, g_tk, g_oi, g_vi⟩⟩ := id hG
  refine lv_aload_n hx hb dL_law_542 rfl (lv_at hl 3 rfl) ?_
  refine lv_aload_n hx hb dL_law_543 rfl (lv_at hl 4 rfl) ?_
  refine lv_iload hx hb dL_law_544 (lv_at hl 0 rfl) ?_
  refine lv_iconst (v := 1) hx hb dL_law_546 (by decide) ?_
  refine lv_iadd hx hb dL_law_547 ?_
  refine lv_topi (fun y1 ey1 => ?_)
  obtain rfl : y1 = 1 := ey1.trans (by decide)
  refine va_sld hx hb hX hbl hbA hS (by unfold vp_in; decide) dL_law_548 ?_
  rw [show xs (Int32.toNatClampNeg 1) = v1 from hx1]
  refine lv_aload_n hx hb dL_law_549 rfl (lv_at hl 4 rfl) ?_
  refine lv_iload hx hb dL_law_550 (lv_at hl 0 rfl) ?_
  refine lv_iconst (v := 2) hx hb dL_law_552 (by decide) ?_
  refine lv_iadd hx hb dL_law_553 ?_
  refine lv_topi (fun y2 ey2 => ?_)
  obtain rfl : y2 = 2 := ey2.trans (by decide)
  refine va_sld hx hb hX hbl hbA hS (by unfold vp_in; decide) dL_law_554 ?_
  rw [show xs (Int32.toNatClampNeg 2) = v2 from hx2]
  refine lv_aload_n hx hb dL_law_555 rfl (lv_at hl 4 rfl) ?_
  refine lv_iload hx hb dL_law_556 (lv_at hl 0 rfl) ?_
  refine lv_iconst (v := 3) hx hb dL_law_558 (by decide) ?_
  refine lv_iadd hx hb dL_law_559 ?_
  refine lv_topi (fun y3 ey3 => ?_)
  obtain rfl : y3 = 3 := ey3.trans (by decide)
  refine va_sld hx hb hX hbl hbA hS (by unfold vp_in; decide) dL_law_560 ?_
  rw [show xs (Int32.toNatClampNeg 3) = v3 from hx3]
  refine lv_aload_n hx hb dL_law_561 rfl (lv_at hl 1 rfl) ?_
  have hPc := hP.sub (ws' := [(x0, .inr (7, [.ref x1, .ref x2, .ref x45, .ref x53, .ref x55, .ref x57, .int 0, .int 0, .int 0])), (x1, .inl (xc0, 4, .inr (.inr (.inr (.inr (va_up (va_up (va_up (va_up (fun _ => none) 0 (some x59)) 1 (some x61)) 2 (some x63)) 3 (some x65))))))), (x59, .inr (6, [.ref x60, .int 0])), (x61, .inr (6, [.ref x62, .int 0])), (x63, .inr (6, [.ref x64, .int 0])), (x65, .inr (6, [.ref x66, .int 0]))]) [0, 1, 2, 3, 4, 5] rfl
  have hDc := hD.sub (ws' := [(x0, .inr (7, [.ref x1, .ref x2, .ref x45, .ref x53, .ref x55, .ref x57, .int 0, .int 0, .int 0])), (x1, .inl (xc0, 4, .inr (.inr (.inr (.inr (va_up (va_up (va_up (va_up (fun _ => none) 0 (some x59)) 1 (some x61)) 2 (some x63)) 3 (some x65))))))), (x59, .inr (6, [.ref x60, .int 0])), (x61, .inr (6, [.ref x62, .int 0])), (x63, .inr (6, [.ref x64, .int 0])), (x65, .inr (6, [.ref x66, .int 0]))]) [0, 1, 2, 3, 4, 5] (by decide) rfl
  have hKc := hK.sub (tys' := [(xc0, .object "Rewriterope$Text")]) [0] rfl
  have hFc := va_free (wc := [(x0, .inr (7, [.ref x1, .ref x2, .ref x45, .ref x53, .ref x55, .ref x57, .int 0, .int 0, .int 0])), (x1, .inl (xc0, 4, .inr (.inr (.inr (.inr (va_up (va_up (va_up (va_up (fun _ => none) 0 (some x59)) 1 (some x61)) 2 (some x63)) 3 (some x65))))))), (x59, .inr (6, [.ref x60, .int 0])), (x61, .inr (6, [.ref x62, .int 0])), (x63, .inr (6, [.ref x64, .int 0])), (x65, .inr (6, [.ref x66, .int 0]))]) hD hS hA [0, 1, 2, 3, 4, 5] rfl
  refine va_calli (vx_runSW (As := [.ref x0, .int v1, .int v2, .int v3, .ref o0]) (rest := []) ⟨hx, hb, hml, hown, hts⟩ (kx_L_cut_3 l hst dC dI ge5 gea gv5 gva gde gic gi0 x0 x1 x59 x61 x63 x65 o0 x2 x45 x53 x55 x57 x60 x62 x64 x66 xc0 H.size v1 v1_l v1_u v2 v2_l v2_u v3 v3_l v3_u) (vx_cwSW 5 hts gL_law_L_cut rfl rfl rfl (by decide +kernel) ⟨Nat.le_of_ble_eq_true rfl, Nat.le_of_ble_eq_true rfl⟩) ⟨fun a U g mk q => by obtain ⟨q0, q1, qP, qK, qD, qG⟩ := q; exact ⟨q0, q1, qP, va_K.moved (u := U) (U := U.calling g mk a) (Vm.Alike.refl U.vm) qK, qD, gv.fb qG⟩, fun U hU hW => ⟨rfl, by rw [hU], by rw [hU]; exact hPc, va_K.moved hW.alike hKc, hDc.weaken (fun _ _ _ _ => trivial), gv.pass hW hU hS hFc hG⟩⟩ rfl rfl hl.1 rfl (lv_room (Nat.le_of_ble_eq_true rfl)) dL_law_562 ⟨Nat.le_of_ble_eq_true rfl, Nat.le_of_ble_eq_true rfl⟩) hS (fun q _ h => hFc q h) hFc (fun r9 u t H1 locs ht hvm hw hB hz1 hk1 hS => ?_)
  obtain rfl := hw
  obtain ⟨hP1, hK1, hD1⟩ := hB
  rw [ht] at hP1
  have hK1 := va_K.moved hvm.symm hK1
  obtain ⟨hP, hD⟩ := va_join (wr := [(m0, .inr (9, [.int 0, .ref m1, .ref m2, .ref m3, .int 0, .int 0, .int 0])), (m1, .inl (mc0, 4, .inr (.inr (.inr (.inr (va_up (va_up (va_up (va_up (fun _ => none) 0 (some ge5)) 1 (some ge5)) 2 (some ge5)) 3 (some ge5)))))))]) (w1 := [(x0, .inr (7, [.ref x1, .ref x2, .ref x45, .ref x53, .ref x55, .ref x57, .int 0, .int 0, .int 0])), (x1, .inl (xc0, 4, .inr (.inr (.inr (.inr (va_up (va_up (va_up (va_up (fun _ => none) 0 (some x59)) 1 (some x61)) 2 (some x63)) 3 (some x65))))))), (x59, .inr (6, [.ref x60, .int 0])), (x61, .inr (6, [.ref x62, .int 0])), (x63, .inr (6, [.ref x64, .int 0])), (x65, .inr (6, [.ref x66, .int 0]))]) hP hD [0, 1, 2, 3, 4, 5] [6, 7] rfl rfl (by decide) (by decide) hk1 hFc hP1 hD1
  generalize H1 = H at hP hS ⊢
  have hP : va_P (dC, dI) vwCl [(m0, .inr (9, [.int 0, .ref m1, .ref m2, .ref m3, .int 0, .int 0, .int 0])), (m1, .inl (mc0, 4, .inr (.inr (.inr (.inr (va_up (va_up (va_up (va_up (fun _ => none) 0 (some ge5)) 1 (some ge5)) 2 (some ge5)) 3 (some ge5))))))), (x0, .inr (7, [.ref x1, .ref x2, .ref x45, .ref x53, .ref x55, .ref x57, .int 0, .int 0, .int 0])), (x1, .inl (xc0, 4, .inr (.inr (.inr (.inr (va_up (va_up (va_up (va_up (fun _ => none) 0 (some x59)) 1 (some x61)) 2 (some x63)) 3 (some x65))))))), (x59, .inr (6, [.ref x60, .int 0])), (x61, .inr (6, [.ref x62, .int 0])), (x63, .inr (6, [.ref x64, .int 0])), (x65, .inr (6, [.ref x66, .int 0]))] H := hP
  have hD : va_D A [(m0, .inr (9, [.int 0, .ref m1, .ref m2, .ref m3, .int 0, .int 0, .int 0])), (m1, .inl (mc0, 4, .inr (.inr (.inr (.inr (va_up (va_up (va_up (va_up (fun _ => none) 0 (some ge5)) 1 (some ge5)) 2 (some ge5)) 3 (some ge5))))))), (x0, .inr (7, [.ref x1, .ref x2, .ref x45, .ref x53, .ref x55, .ref x57, .int 0, .int 0, .int 0])), (x1, .inl (xc0, 4, .inr (.inr (.inr (.inr (va_up (va_up (va_up (va_up (fun _ => none) 0 (some x59)) 1 (some x61)) 2 (some x63)) 3 (some x65))))))), (x59, .inr (6, [.ref x60, .int 0])), (x61, .inr (6, [.ref x62, .int 0])), (x63, .inr (6, [.ref x64, .int 0])), (x65, .inr (6, [.ref x66, .int 0]))] := hD
  refine W.widen (k := 73) (n := 2754) (by omega) (by omega) ?_
  refine lv_istore (lv' := [(5, .int 1), (4, .int 0), (3, .ref o0), (2, .ref m0), (1, .ref x0), (0, .ref b)]) hx hb dL_law_565 hl (by decide) rfl (fun ls hl => ?_)
  refine lv_aload_n hx hb dL_law_567 rfl (lv_at hl 3 rfl) ?_
  refine lv_aload_n hx hb dL_law_568 rfl (lv_at hl 5 rfl) ?_
  refine lv_iload hx hb dL_law_569 (lv_at hl 1 rfl) ?_
  refine lv_iconst (v := 1) hx hb dL_law_571 (by decide) ?_
  refine lv_iadd hx hb dL_law_572 ?_
  refine lv_topi (fun y4 ey4 => ?_)
  obtain rfl : y4 = 1 := ey4.trans (by decide)
  refine va_sld hx hb hX hbl hbA hS (by unfold vp_in; decide) dL_law_573 ?_
  rw [show xs (Int32.toNatClampNeg 1) = v1 from hx1]
  refine lv_aload_n hx hb dL_law_574 rfl (lv_at hl 5 rfl) ?_
  refine lv_iload hx hb dL_law_575 (lv_at hl 1 rfl) ?_
  refine lv_iconst (v := 2) hx hb dL_law_577 (by decide) ?_
  refine lv_iadd hx hb dL_law_578 ?_
  refine lv_topi (fun y5 ey5 => ?_)
  obtain rfl : y5 = 2 := ey5.trans (by decide)
  refine va_sld hx hb hX hbl hbA hS (by unfold vp_in; decide) dL_law_579 ?_
  rw [show xs (Int32.toNatClampNeg 2) = v2 from hx2]
  refine lv_aload_n hx hb dL_law_580 rfl (lv_at hl 5 rfl) ?_
  refine lv_iload hx hb dL_law_581 (lv_at hl 1 rfl) ?_
  refine lv_iconst (v := 3) hx hb dL_law_583 (by decide) ?_
  refine lv_iadd hx hb dL_law_584 ?_
  refine lv_topi (fun y6 ey6 => ?_)
  obtain rfl : y6 = 3 := ey6.trans (by decide)
  refine va_sld hx hb hX hbl hbA hS (by unfold vp_in; decide) dL_law_585 ?_
  rw [show xs (Int32.toNatClampNeg 3) = v3 from hx3]
  have hPc := hP.sub (ws' := [(m0, .inr (9, [.int 0, .ref m1, .ref m2, .ref m3, .int 0, .int 0, .int 0])), (m1, .inl (mc0, 4, .inr (.inr (.inr (.inr (va_up (va_up (va_up (va_up (fun _ => none) 0 (some ge5)) 1 (some ge5)) 2 (some ge5)) 3 (some ge5)))))))]) [0, 1] rfl
  have hDc := hD.sub (ws' := [(m0, .inr (9, [.int 0, .ref m1, .ref m2, .ref m3, .int 0, .int 0, .int 0])), (m1, .inl (mc0, 4, .inr (.inr (.inr (.inr (va_up (va_up (va_up (va_up (fun _ => none) 0 (some ge5)) 1 (some ge5)) 2 (some ge5)) 3 (some ge5)))))))]) [0, 1] (by decide) rfl
  have hKc := hK.sub (tys' := [(mc0, .object "java/lang/String")]) [1] rfl
  have hFc := va_free (wc := [(m0, .inr (9, [.int 0, .ref m1, .ref m2, .ref m3, .int 0, .int 0, .int 0])), (m1, .inl (mc0, 4, .inr (.inr (.inr (.inr (va_up (va_up (va_up (va_up (fun _ => none) 0 (some ge5)) 1 (some ge5)) 2 (some ge5)) 3 (some ge5)))))))]) hD hS hA [0, 1] rfl
  refine va_calli (va_runV (As := [.int v1, .int v2, .int v3]) (rest := []) ⟨hx, hb, hml, hown, hts⟩ (kx_X5_cut_3 l dC dI ge5 gea gv5 gva gde gic gi0 m0 m1 m2 m3 mc0 H.size v1 v1_l v1_u v2 v2_l v2_u v3 v3_l v3_u) (cwV 3 hts gL_law_X5_cut rfl rfl rfl (by decide +kernel) ⟨Nat.le_of_ble_eq_true rfl, Nat.le_of_ble_eq_true rfl⟩) ⟨fun a U g mk q => by obtain ⟨q0, q1, qP, qK, qD, qG⟩ := q; exact ⟨q0, q1, qP, va_K.moved (u := U) (U := U.calling g mk a) (Vm.Alike.refl U.vm) qK, qD, gv.fb qG⟩, va_recv hKc hPc (ci := 9) (q0 := 0) rfl rfl, fun U hU hW => ⟨rfl, by rw [hU], by rw [hU]; exact hPc, va_K.moved hW.alike hKc, hDc.weaken (fun _ _ _ _ => trivial), gv.pass hW hU hS hFc hG⟩⟩ rfl rfl hl.1 rfl (lv_room (Nat.le_of_ble_eq_true rfl)) dL_law_586 ⟨Nat.le_of_ble_eq_true rfl, Nat.le_of_ble_eq_true rfl⟩) hS (fun q _ h => hFc q h) hFc (fun r9 u t H1 locs ht hvm hw hB hz1 hk1 hS => ?_)
  obtain rfl := hw
  obtain ⟨hP1, hK1, hD1⟩ := hB
  rw [ht] at hP1
  have hK1 := va_K.moved hvm.symm hK1
  obtain ⟨hP, hD⟩ := va_join (wr := [(x0, .inr (7, [.ref x1, .ref x2, .ref x45, .ref x53, .ref x55, .ref x57, .int 0, .int 0, .int 0])), (x1, .inl (xc0, 4, .inr (.inr (.inr (.inr (va_up (va_up (va_up (va_up (fun _ => none) 0 (some x59)) 1 (some x61)) 2 (some x63)) 3 (some x65))))))), (x59, .inr (6, [.ref x60, .int 0])), (x61, .inr (6, [.ref x62, .int 0])), (x63, .inr (6, [.ref x64, .int 0])), (x65, .inr (6, [.ref x66, .int 0]))]) (w1 := [(m0, .inr (9, [.int 1, .ref m1, .ref m2, .ref m3, .int 0, .int 0, .int 0]))]) hP hD [0, 1] [2, 3, 4, 5, 6, 7] rfl rfl (by decide) (by decide) hk1 hFc hP1 hD1
  generalize H1 = H at hP hS ⊢
  have hP : va_P (dC, dI) vwCl [(x0, .inr (7, [.ref x1, .ref x2, .ref x45, .ref x53, .ref x55, .ref x57, .int 0, .int 0, .int 0])), (x1, .inl (xc0, 4, .inr (.inr (.inr (.inr (va_up (va_up (va_up (va_up (fun _ => none) 0 (some x59)) 1 (some x61)) 2 (some x63)) 3 (some x65))))))), (x59, .inr (6, [.ref x60, .int 0])), (x61, .inr (6, [.ref x62, .int 0])), (x63, .inr (6, [.ref x64, .int 0])), (x65, .inr (6, [.ref x66, .int 0])), (m0, .inr (9, [.int 1, .ref m1, .ref m2, .ref m3, .int 0, .int 0, .int 0]))] H := hP
  have hD : va_D A [(x0, .inr (7, [.ref x1, .ref x2, .ref x45, .ref x53, .ref x55, .ref x57, .int 0, .int 0, .int 0])), (x1, .inl (xc0, 4, .inr (.inr (.inr (.inr (va_up (va_up (va_up (va_up (fun _ => none) 0 (some x59)) 1 (some x61)) 2 (some x63)) 3 (some x65))))))), (x59, .inr (6, [.ref x60, .int 0])), (x61, .inr (6, [.ref x62, .int 0])), (x63, .inr (6, [.ref x64, .int 0])), (x65, .inr (6, [.ref x66, .int 0])), (m0, .inr (9, [.int 1, .ref m1, .ref m2, .ref m3, .int 0, .int 0, .int 0]))] := hD
  refine lv_istore (lv' := [(6, .int 0), (5, .int 1), (4, .int 0), (3, .ref o0), (2, .ref m0), (1, .ref x0), (0, .ref b)]) hx hb dL_law_589 hl (by decide) rfl (fun ls hl => ?_)
  refine lv_aload_n hx hb dL_law_591 rfl (lv_at hl 4 rfl) ?_
  have hPc := hP.sub (ws' := [(m0, .inr (9, [.int 1, .ref m1, .ref m2, .ref m3, .int 0, .int 0, .int 0]))]) [6] rfl
  have hDc := hD.sub (ws' := [(m0, .inr (9, [.int 1, .ref m1, .ref m2, .ref m3, .int 0, .int 0, .int 0]))]) [6] (by decide) rfl
  have hKc := hK.sub (tys' := []) [] rfl
  have hFc := va_free (wc := [(m0, .inr (9, [.int 1, .ref m1, .ref m2, .ref m3, .int 0, .int 0, .int 0]))]) hD hS hA [6] rfl
  refine va_calli (va_runV (As := []) (rest := []) ⟨hx, hb, hml, hown, hts⟩ (kx_X5_thrown_0 l dC dI m0 m1 m2 m3 H.size) (cwV 0 hts gL_law_X5_thrown rfl rfl rfl (by decide +kernel) ⟨Nat.le_of_ble_eq_true rfl, Nat.le_of_ble_eq_true rfl⟩) ⟨fun a U g mk q => by obtain ⟨q0, q1, qP, qK, qD⟩ := q; exact ⟨q0, q1, qP, va_K.moved (u := U) (U := U.calling g mk a) (Vm.Alike.refl U.vm) qK, qD⟩, va_recv hKc hPc (ci := 9) (q0 := 0) rfl rfl, fun U hU hW => ⟨rfl, by rw [hU], by rw [hU]; exact hPc, va_K.moved hW.alike hKc, hDc.weaken (fun _ _ _ _ => trivial)⟩⟩ rfl rfl hl.1 rfl (lv_room (Nat.le_of_ble_eq_true rfl)) dL_law_592 ⟨Nat.le_of_ble_eq_true rfl, Nat.le_of_ble_eq_true rfl⟩) hS (fun q _ h => hFc q h) hFc (fun r9 u t H1 locs ht hvm hw hB hz1 hk1 hS => ?_)
  obtain rfl := hw
  obtain ⟨hP1, hK1, hD1⟩ := hB
  rw [ht] at hP1
  have hK1 := va_K.moved hvm.symm hK1
  obtain ⟨hP, hD⟩ := va_join (wr := [(x0, .inr (7, [.ref x1, .ref x2, .ref x45, .ref x53, .ref x55, .ref x57, .int 0, .int 0, .int 0])), (x1, .inl (xc0, 4, .inr (.inr (.inr (.inr (va_up (va_up (va_up (va_up (fun _ => none) 0 (some x59)) 1 (some x61)) 2 (some x63)) 3 (some x65))))))), (x59, .inr (6, [.ref x60, .int 0])), (x61, .inr (6, [.ref x62, .int 0])), (x63, .inr (6, [.ref x64, .int 0])), (x65, .inr (6, [.ref x66, .int 0]))]) (w1 := [(m0, .inr (9, [.int 1, .ref m1, .ref m2, .ref m3, .int 0, .int 0, .int 0]))]) hP hD [6] [0, 1, 2, 3, 4, 5] rfl rfl (by decide) (by decide) hk1 hFc hP1 hD1
  generalize H1 = H at hP hS ⊢
  have hP : va_P (dC, dI) vwCl [(x0, .inr (7, [.ref x1, .ref x2, .ref x45, .ref x53, .ref x55, .ref x57, .int 0, .int 0, .int 0])), (x1, .inl (xc0, 4, .inr (.inr (.inr (.inr (va_up (va_up (va_up (va_up (fun _ => none) 0 (some x59)) 1 (some x61)) 2 (some x63)) 3 (some x65))))))), (x59, .inr (6, [.ref x60, .int 0])), (x61, .inr (6, [.ref x62, .int 0])), (x63, .inr (6, [.ref x64, .int 0])), (x65, .inr (6, [.ref x66, .int 0])), (m0, .inr (9, [.int 1, .ref m1, .ref m2, .ref m3, .int 0, .int 0, .int 0]))] H := hP
  have hD : va_D A [(x0, .inr (7, [.ref x1, .ref x2, .ref x45, .ref x53, .ref x55, .ref x57, .int 0, .int 0, .int 0])), (x1, .inl (xc0, 4, .inr (.inr (.inr (.inr (va_up (va_up (va_up (va_up (fun _ => none) 0 (some x59)) 1 (some x61)) 2 (some x63)) 3 (some x65))))))), (x59, .inr (6, [.ref x60, .int 0])), (x61, .inr (6, [.ref x62, .int 0])), (x63, .inr (6, [.ref x64, .int 0])), (x65, .inr (6, [.ref x66, .int 0])), (m0, .inr (9, [.int 1, .ref m1, .ref m2, .ref m3, .int 0, .int 0, .int 0]))] := hD
  refine lv_iload hx hb dL_law_595 (lv_at hl 1 rfl) ?_
  refine lv_icmp_eq (tgt := 602) hx hb dL_law_597 (by decide) (fun _ => ?_) (fun c9 => absurd (by decide) c9)
  refine lv_iload hx hb dL_law_602 (lv_at hl 1 rfl) ?_
  refine lv_if_ne (tgt := 620) hx hb dL_law_604 (by decide) (fun _ => ?_) (fun c9 => absurd c9 (by decide))
  refine lv_goto (tgt := 2342) hx hb dL_law_620 (by decide) ?_
  refine lv_iinc (v := 7) (lv' := [(4, .int 7), (6, .int 0), (5, .int 1), (3, .ref o0), (2, .ref m0), (1, .ref x0), (0, .ref b)]) hx hb dL_law_2342 hl (k := 2) rfl (by decide) (by decide) rfl (fun ls hl => ?_)
  refine lv_goto (tgt := 27) hx hb dL_law_2345 (by decide) ?_
  refine lv_iload hx hb dL_law_27 (lv_at hl 0 rfl) ?_
  refine lv_aload_n hx hb dL_law_29 rfl (lv_at hl 6 rfl) ?_
  refine va_slen hx hb hX hbl hbA hS dL_law_30 ?_
  refine lv_topi (fun y7 ey7 => ?_)
  obtain rfl : y7 = 7 := ey7.trans (by decide)
  refine lv_bipush (v := 7) hx hb dL_law_31 (by decide) ?_
  refine lv_isub hx hb dL_law_33 ?_
  refine lv_topi (fun y8 ey8 => ?_)
  obtain rfl : y8 = 0 := ey8.trans (by decide)
  refine lv_icmp_gt (tgt := 2348) hx hb dL_law_34 (by decide) (fun _ => ?_) (fun c9 => absurd (by decide) c9)
  refine lv_iconst (v := 1) hx hb dL_law_2348 (by decide) ?_
  refine va_forget (fun q hq => (by have h := hS.2.2 q hq; rw [hAe] at h; exact h)) ?_
  refine W.widen (k := 600002) (n := 7302232) (Nat.le_of_ble_eq_true rfl) (Nat.le_of_ble_eq_true rfl) ?_
  exact lw_ret hx hb hr hlocks dL_law_2349
