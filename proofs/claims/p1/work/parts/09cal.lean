set_option maxHeartbeats 4000000 in
set_option maxRecDepth 100000 in
theorem lc_side_2 {p : Program} {e : Env} {s : State} {m : MethodId} {below : List Frame} {meth : Method} {c : Code} {l : Launch} (hst : l.stackTraces = false) {b : Nat} {xs : Nat → Int32} (C9 : lx_At p s m meth c b xs) {dC : Nat → ClassId} {dI : Nat → Nat → Nat} {ge5 gea gv5 gva gde gic gi0 : Nat} {x0 m0 x1 x2 x45 x53 x55 x57 m1 m2 m3 o0 : Nat} (hG : gv ge5 gea gv5 gva gde gic gi0 (fun q => s.heap.size ≤ q) s s.heap) {v1 : Int32} (v1_l : ((-2147483648) : Int) ≤ v1.toInt) (v1_u : v1.toInt ≤ ((-1) : Int)) {v2 : Int32} (v2_l : ((-2147483648) : Int) ≤ v2.toInt) (v2_u : v2.toInt ≤ (2147483647 : Int)) {v3 : Int32} (v3_l : ((-2147483648) : Int) ≤ v3.toInt) (v3_u : v3.toInt ≤ ((-1) : Int)) (hx1 : xs 1 = v1) (hx2 : xs 2 = v2) (hx3 : xs 3 = v3) {H : Heap} {locs : List Loc} (hK : va_K (dC, dI) vwCl [] s) (hP : va_P (dC, dI) vwCl [(x0, .inr (7, [.ref x1, .ref x2, .ref x45, .ref x53, .ref x55, .ref x57, .int 0, .int 0, .int 0])), (m0, .inr (9, [.int 0, .ref m1, .ref m2, .ref m3, .int 0, .int 0, .int 0]))] H) (hD : va_D (fun q => s.heap.size ≤ q) [(x0, .inr (7, [.ref x1, .ref x2, .ref x45, .ref x53, .ref x55, .ref x57, .int 0, .int 0, .int 0])), (m0, .inr (9, [.int 0, .ref m1, .ref m2, .ref m3, .int 0, .int 0, .int 0]))]) (hS : va_S (fun q => s.heap.size ≤ q) s.heap H locs) {ls : Array Slot} (hl : lv_has ls 7 [(4, .int 0), (3, .ref o0), (2, .ref m0), (1, .ref x0), (0, .ref b)]) : W p l e room_1 s m #[Value.ref b] below meth c H locs 72 2748 (lw_Z below #[Value.ref b] s) (F0 m 1238 ls []) := by
  obtain ⟨hx, hb, hr, hml, hown, hts, hX, hbl, hlocks⟩ := id C9
  have hA : ∀ q : Nat, s.heap.size ≤ q → (fun q : Nat => s.heap.size ≤ q) q := fun _ h => h
  have hbA : ¬ (fun q : Nat => s.heap.size ≤ q) b := Nat.not_le.mpr hbl
  obtain ⟨A, hAe⟩ : ∃ A : Nat → Prop, A = (fun q : Nat => s.heap.size ≤ q) := ⟨_, rfl⟩
  rw [← hAe] at hG hD hS hA hbA
  obtain ⟨⟨g_AO_Text, g_AO_String, g_AO_Object, g_nm_RX1_20, g_nm_RX0_17, g_nm_RX3_31, g_nm_RX2_44, g_nm_RL_121, g_nf_RL_13, g_nf_RL_47, g_ca_IO, g_ca_IA, g_ca_IS, g_ca_IntObj, g_ca_StrObj, g_de_RT, g_de_EX, g_de_TH, g_nc_IA_IO, g_nc_IS_IO, g_nc_IS_IA⟩, ⟨g_s3, g_s5, g_sa, g_x278, g_x280, g_x282, g_x284, g_x286, g_x180, g_x238, g_x250⟩, ⟨g_o5, g_c5, g_v5, g_t5, g_oa, g_ca, g_va, g_ta, g_zc, g_zd, g_td, g_zf, g_zU, g_zN, g_zh, g_zk, g_tk, g_oi, g_vi⟩⟩ := id hG
  refine lv_aload_n hx hb dL_law_1238 rfl (lv_at hl 3 rfl) ?_
  refine lv_aload_n hx hb dL_law_1239 rfl (lv_at hl 4 rfl) ?_
  refine lv_iload hx hb dL_law_1240 (lv_at hl 0 rfl) ?_
  refine lv_iconst (v := 1) hx hb dL_law_1242 (by decide) ?_
  refine lv_iadd hx hb dL_law_1243 ?_
  refine lv_topi (fun y1 ey1 => ?_)
  obtain rfl : y1 = 1 := ey1.trans (by decide)
  refine va_sld hx hb hX hbl hbA hS (by unfold vp_in; decide) dL_law_1244 ?_
  rw [show xs (Int32.toNatClampNeg 1) = v1 from hx1]
  refine lv_aload_n hx hb dL_law_1245 rfl (lv_at hl 4 rfl) ?_
  refine lv_iload hx hb dL_law_1246 (lv_at hl 0 rfl) ?_
  refine lv_iconst (v := 2) hx hb dL_law_1248 (by decide) ?_
  refine lv_iadd hx hb dL_law_1249 ?_
  refine lv_topi (fun y2 ey2 => ?_)
  obtain rfl : y2 = 2 := ey2.trans (by decide)
  refine va_sld hx hb hX hbl hbA hS (by unfold vp_in; decide) dL_law_1250 ?_
  rw [show xs (Int32.toNatClampNeg 2) = v2 from hx2]
  refine lv_aload_n hx hb dL_law_1251 rfl (lv_at hl 4 rfl) ?_
  refine lv_iload hx hb dL_law_1252 (lv_at hl 0 rfl) ?_
  refine lv_iconst (v := 3) hx hb dL_law_1254 (by decide) ?_
  refine lv_iadd hx hb dL_law_1255 ?_
  refine lv_topi (fun y3 ey3 => ?_)
  obtain rfl : y3 = 3 := ey3.trans (by decide)
  refine va_sld hx hb hX hbl hbA hS (by unfold vp_in; decide) dL_law_1256 ?_
  rw [show xs (Int32.toNatClampNeg 3) = v3 from hx3]
  refine lv_if_eq (tgt := 1264) hx hb dL_law_1257 (by decide) (fun c9 => absurd c9 (fun c8 => absurd (congrArg Int32.toInt c8) (by rw [show (0 : Int32).toInt = 0 from by decide]; omega))) (fun _ => ?_)
  refine lv_iconst (v := 1) hx hb dL_law_1260 (by decide) ?_
  refine lv_goto (tgt := 1265) hx hb dL_law_1261 (by decide) ?_
  refine lv_aload_n hx hb dL_law_1265 rfl (lv_at hl 1 rfl) ?_
  have hPc := hP.sub (ws' := [(x0, .inr (7, [.ref x1, .ref x2, .ref x45, .ref x53, .ref x55, .ref x57, .int 0, .int 0, .int 0]))]) [0] rfl
  have hDc := hD.sub (ws' := [(x0, .inr (7, [.ref x1, .ref x2, .ref x45, .ref x53, .ref x55, .ref x57, .int 0, .int 0, .int 0]))]) [0] (by decide) rfl
  have hKc := hK.sub (tys' := []) [] rfl
  have hFc := va_free (wc := [(x0, .inr (7, [.ref x1, .ref x2, .ref x45, .ref x53, .ref x55, .ref x57, .int 0, .int 0, .int 0]))]) hD hS hA [0] rfl
  refine va_calli (vx_runSW (As := [.ref x0, .int v1, .int v2, .int 1, .ref o0]) (rest := []) ⟨hx, hb, hml, hown, hts⟩ (kx_L_side_2 l hst dC dI ge5 gea gv5 gva gde gic gi0 x0 o0 x1 x2 x45 x53 x55 x57 H.size v1 v1_l v1_u v2 v2_l v2_u) (vx_cwSW 5 hts gL_law_L_side rfl rfl rfl (by decide +kernel) ⟨Nat.le_of_ble_eq_true rfl, Nat.le_of_ble_eq_true rfl⟩) ⟨fun a U g mk q => by obtain ⟨q0, q1, qP, qK, qD, qG⟩ := q; exact ⟨q0, q1, qP, va_K.moved (u := U) (U := U.calling g mk a) (Vm.Alike.refl U.vm) qK, qD, gv.fb qG⟩, fun U hU hW => ⟨rfl, by rw [hU], by rw [hU]; exact hPc, va_K.moved hW.alike hKc, hDc.weaken (fun _ _ _ _ => trivial), gv.pass hW hU hS hFc hG⟩⟩ rfl rfl hl.1 rfl (lv_room (Nat.le_of_ble_eq_true rfl)) dL_law_1266 ⟨Nat.le_of_ble_eq_true rfl, Nat.le_of_ble_eq_true rfl⟩) hS (fun q _ h => hFc q h) hFc (fun r9 u t H1 locs ht hvm hw hB hz1 hk1 hS => ?_)
  obtain rfl := hw
  obtain ⟨hP1, hK1, hD1⟩ := hB
  rw [ht] at hP1
  have hK1 := va_K.moved hvm.symm hK1
  obtain ⟨hP, hD⟩ := va_join (wr := [(m0, .inr (9, [.int 0, .ref m1, .ref m2, .ref m3, .int 0, .int 0, .int 0]))]) (w1 := [(x0, .inr (7, [.ref x1, .ref x2, .ref x45, .ref x53, .ref x55, .ref x57, .int 0, .int 0, .int 0]))]) hP hD [0] [1] rfl rfl (by decide) (by decide) hk1 hFc hP1 hD1
  generalize H1 = H at hP hS ⊢
  have hP : va_P (dC, dI) vwCl [(m0, .inr (9, [.int 0, .ref m1, .ref m2, .ref m3, .int 0, .int 0, .int 0])), (x0, .inr (7, [.ref x1, .ref x2, .ref x45, .ref x53, .ref x55, .ref x57, .int 0, .int 0, .int 0]))] H := hP
  have hD : va_D A [(m0, .inr (9, [.int 0, .ref m1, .ref m2, .ref m3, .int 0, .int 0, .int 0])), (x0, .inr (7, [.ref x1, .ref x2, .ref x45, .ref x53, .ref x55, .ref x57, .int 0, .int 0, .int 0]))] := hD
  refine W.widen (k := 73) (n := 2754) (by omega) (by omega) ?_
  refine lv_istore (lv' := [(5, .int 1), (4, .int 0), (3, .ref o0), (2, .ref m0), (1, .ref x0), (0, .ref b)]) hx hb dL_law_1269 hl (by decide) rfl (fun ls hl => ?_)
  refine lv_aload_n hx hb dL_law_1271 rfl (lv_at hl 3 rfl) ?_
  refine lv_aload_n hx hb dL_law_1272 rfl (lv_at hl 5 rfl) ?_
  refine lv_iload hx hb dL_law_1273 (lv_at hl 1 rfl) ?_
  refine lv_iconst (v := 1) hx hb dL_law_1275 (by decide) ?_
  refine lv_iadd hx hb dL_law_1276 ?_
  refine lv_topi (fun y4 ey4 => ?_)
  obtain rfl : y4 = 1 := ey4.trans (by decide)
  refine va_sld hx hb hX hbl hbA hS (by unfold vp_in; decide) dL_law_1277 ?_
  rw [show xs (Int32.toNatClampNeg 1) = v1 from hx1]
  refine lv_aload_n hx hb dL_law_1278 rfl (lv_at hl 5 rfl) ?_
  refine lv_iload hx hb dL_law_1279 (lv_at hl 1 rfl) ?_
  refine lv_iconst (v := 2) hx hb dL_law_1281 (by decide) ?_
  refine lv_iadd hx hb dL_law_1282 ?_
  refine lv_topi (fun y5 ey5 => ?_)
  obtain rfl : y5 = 2 := ey5.trans (by decide)
  refine va_sld hx hb hX hbl hbA hS (by unfold vp_in; decide) dL_law_1283 ?_
  rw [show xs (Int32.toNatClampNeg 2) = v2 from hx2]
  refine lv_aload_n hx hb dL_law_1284 rfl (lv_at hl 5 rfl) ?_
  refine lv_iload hx hb dL_law_1285 (lv_at hl 1 rfl) ?_
  refine lv_iconst (v := 3) hx hb dL_law_1287 (by decide) ?_
  refine lv_iadd hx hb dL_law_1288 ?_
  refine lv_topi (fun y6 ey6 => ?_)
  obtain rfl : y6 = 3 := ey6.trans (by decide)
  refine va_sld hx hb hX hbl hbA hS (by unfold vp_in; decide) dL_law_1289 ?_
  rw [show xs (Int32.toNatClampNeg 3) = v3 from hx3]
  refine lv_if_eq (tgt := 1297) hx hb dL_law_1290 (by decide) (fun c9 => absurd c9 (fun c8 => absurd (congrArg Int32.toInt c8) (by rw [show (0 : Int32).toInt = 0 from by decide]; omega))) (fun _ => ?_)
  refine lv_iconst (v := 1) hx hb dL_law_1293 (by decide) ?_
  refine lv_goto (tgt := 1298) hx hb dL_law_1294 (by decide) ?_
  have hPc := hP.sub (ws' := [(m0, .inr (9, [.int 0, .ref m1, .ref m2, .ref m3, .int 0, .int 0, .int 0]))]) [0] rfl
  have hDc := hD.sub (ws' := [(m0, .inr (9, [.int 0, .ref m1, .ref m2, .ref m3, .int 0, .int 0, .int 0]))]) [0] (by decide) rfl
  have hKc := hK.sub (tys' := []) [] rfl
  have hFc := va_free (wc := [(m0, .inr (9, [.int 0, .ref m1, .ref m2, .ref m3, .int 0, .int 0, .int 0]))]) hD hS hA [0] rfl
  refine va_calli (va_runV (As := [.int v1, .int v2, .int 1]) (rest := []) ⟨hx, hb, hml, hown, hts⟩ (kx_X5_side_2 l dC dI m0 m1 m2 m3 H.size v1 v1_l v1_u v2 v2_l v2_u) (cwV 3 hts gL_law_X5_side rfl rfl rfl (by decide +kernel) ⟨Nat.le_of_ble_eq_true rfl, Nat.le_of_ble_eq_true rfl⟩) ⟨fun a U g mk q => by obtain ⟨q0, q1, qP, qK, qD⟩ := q; exact ⟨q0, q1, qP, va_K.moved (u := U) (U := U.calling g mk a) (Vm.Alike.refl U.vm) qK, qD⟩, va_recv hKc hPc (ci := 9) (q0 := 0) rfl rfl, fun U hU hW => ⟨rfl, by rw [hU], by rw [hU]; exact hPc, va_K.moved hW.alike hKc, hDc.weaken (fun _ _ _ _ => trivial)⟩⟩ rfl rfl hl.1 rfl (lv_room (Nat.le_of_ble_eq_true rfl)) dL_law_1298 ⟨Nat.le_of_ble_eq_true rfl, Nat.le_of_ble_eq_true rfl⟩) hS (fun q _ h => hFc q h) hFc (fun r9 u t H1 locs ht hvm hw hB hz1 hk1 hS => ?_)
  obtain rfl := hw
  obtain ⟨hP1, hK1, hD1⟩ := hB
  rw [ht] at hP1
  have hK1 := va_K.moved hvm.symm hK1
  obtain ⟨hP, hD⟩ := va_join (wr := [(x0, .inr (7, [.ref x1, .ref x2, .ref x45, .ref x53, .ref x55, .ref x57, .int 0, .int 0, .int 0]))]) (w1 := [(m0, .inr (9, [.int 1, .ref m1, .ref m2, .ref m3, .int 0, .int 0, .int 0]))]) hP hD [0] [1] rfl rfl (by decide) (by decide) hk1 hFc hP1 hD1
  generalize H1 = H at hP hS ⊢
  have hP : va_P (dC, dI) vwCl [(x0, .inr (7, [.ref x1, .ref x2, .ref x45, .ref x53, .ref x55, .ref x57, .int 0, .int 0, .int 0])), (m0, .inr (9, [.int 1, .ref m1, .ref m2, .ref m3, .int 0, .int 0, .int 0]))] H := hP
  have hD : va_D A [(x0, .inr (7, [.ref x1, .ref x2, .ref x45, .ref x53, .ref x55, .ref x57, .int 0, .int 0, .int 0])), (m0, .inr (9, [.int 1, .ref m1, .ref m2, .ref m3, .int 0, .int 0, .int 0]))] := hD
  refine lv_istore (lv' := [(6, .int 0), (5, .int 1), (4, .int 0), (3, .ref o0), (2, .ref m0), (1, .ref x0), (0, .ref b)]) hx hb dL_law_1301 hl (by decide) rfl (fun ls hl => ?_)
  refine lv_aload_n hx hb dL_law_1303 rfl (lv_at hl 4 rfl) ?_
  have hPc := hP.sub (ws' := [(m0, .inr (9, [.int 1, .ref m1, .ref m2, .ref m3, .int 0, .int 0, .int 0]))]) [1] rfl
  have hDc := hD.sub (ws' := [(m0, .inr (9, [.int 1, .ref m1, .ref m2, .ref m3, .int 0, .int 0, .int 0]))]) [1] (by decide) rfl
  have hKc := hK.sub (tys' := []) [] rfl
  have hFc := va_free (wc := [(m0, .inr (9, [.int 1, .ref m1, .ref m2, .ref m3, .int 0, .int 0, .int 0]))]) hD hS hA [1] rfl
  refine va_calli (va_runV (As := []) (rest := []) ⟨hx, hb, hml, hown, hts⟩ (kx_X5_thrown_0 l dC dI m0 m1 m2 m3 H.size) (cwV 0 hts gL_law_X5_thrown rfl rfl rfl (by decide +kernel) ⟨Nat.le_of_ble_eq_true rfl, Nat.le_of_ble_eq_true rfl⟩) ⟨fun a U g mk q => by obtain ⟨q0, q1, qP, qK, qD⟩ := q; exact ⟨q0, q1, qP, va_K.moved (u := U) (U := U.calling g mk a) (Vm.Alike.refl U.vm) qK, qD⟩, va_recv hKc hPc (ci := 9) (q0 := 0) rfl rfl, fun U hU hW => ⟨rfl, by rw [hU], by rw [hU]; exact hPc, va_K.moved hW.alike hKc, hDc.weaken (fun _ _ _ _ => trivial)⟩⟩ rfl rfl hl.1 rfl (lv_room (Nat.le_of_ble_eq_true rfl)) dL_law_1304 ⟨Nat.le_of_ble_eq_true rfl, Nat.le_of_ble_eq_true rfl⟩) hS (fun q _ h => hFc q h) hFc (fun r9 u t H1 locs ht hvm hw hB hz1 hk1 hS => ?_)
  obtain rfl := hw
  obtain ⟨hP1, hK1, hD1⟩ := hB
  rw [ht] at hP1
  have hK1 := va_K.moved hvm.symm hK1
  obtain ⟨hP, hD⟩ := va_join (wr := [(x0, .inr (7, [.ref x1, .ref x2, .ref x45, .ref x53, .ref x55, .ref x57, .int 0, .int 0, .int 0]))]) (w1 := [(m0, .inr (9, [.int 1, .ref m1, .ref m2, .ref m3, .int 0, .int 0, .int 0]))]) hP hD [1] [0] rfl rfl (by decide) (by decide) hk1 hFc hP1 hD1
  generalize H1 = H at hP hS ⊢
  have hP : va_P (dC, dI) vwCl [(x0, .inr (7, [.ref x1, .ref x2, .ref x45, .ref x53, .ref x55, .ref x57, .int 0, .int 0, .int 0])), (m0, .inr (9, [.int 1, .ref m1, .ref m2, .ref m3, .int 0, .int 0, .int 0]))] H := hP
  have hD : va_D A [(x0, .inr (7, [.ref x1, .ref x2, .ref x45, .ref x53, .ref x55, .ref x57, .int 0, .int 0, .int 0])), (m0, .inr (9, [.int 1, .ref m1, .ref m2, .ref m3, .int 0, .int 0, .int 0]))] := hD
  refine lv_iload hx hb dL_law_1307 (lv_at hl 1 rfl) ?_
  refine lv_icmp_eq (tgt := 1314) hx hb dL_law_1309 (by decide) (fun _ => ?_) (fun c9 => absurd (by decide) c9)
  refine lv_iload hx hb dL_law_1314 (lv_at hl 1 rfl) ?_
  refine lv_if_ne (tgt := 1332) hx hb dL_law_1316 (by decide) (fun _ => ?_) (fun c9 => absurd c9 (by decide))
  refine lv_goto (tgt := 2342) hx hb dL_law_1332 (by decide) ?_
  refine lv_iinc (v := 7) (lv' := [(4, .int 7), (6, .int 0), (5, .int 1), (3, .ref o0), (2, .ref m0), (1, .ref x0), (0, .ref b)]) hx hb dL_law_2342 hl (k := 2) rfl (by decide) (by decide) rfl (fun ls hl => ?_)
  refine lv_goto (tgt := 27) hx hb dL_law_2345 (by decide) ?_
  refine lv_iload hx hb dL_law_27 (lv_at hl 0 rfl) ?_
  refine lv_aload_n hx hb dL_law_29 rfl (lv_at hl 6 rfl) ?_
  refine va_slen hx hb hX hbl hbA hS dL_law_30 ?_
  refine lv_topi (fun y7 ey7 => ?_)
  obtain rfl : y7 = 7 := ey7.trans (by decide)
  refine lv_bipush (v := 7) hx hb dL_law_31 (by decide) ?_
  refine lv_isub hx hb dL_law_33 ?_
  refine lv_topi (fun y8 ey8 => ?_)
  obtain rfl : y8 = 0 := ey8.trans (by decide)
  refine lv_icmp_gt (tgt := 2348) hx hb dL_law_34 (by decide) (fun _ => ?_) (fun c9 => absurd (by decide) c9)
  refine lv_iconst (v := 1) hx hb dL_law_2348 (by decide) ?_
  refine va_forget (fun q hq => (by have h := hS.2.2 q hq; rw [hAe] at h; exact h)) ?_
  refine W.widen (k := 600002) (n := 7302232) (Nat.le_of_ble_eq_true rfl) (Nat.le_of_ble_eq_true rfl) ?_
  exact lw_ret hx hb hr hlocks dL_law_2349
set_option maxHeartbeats 4000000 in
set_option maxRecDepth 100000 in
theorem lc_side_3 {p : Program} {e : Env} {s : State} {m : MethodId} {below : List Frame} {meth : Method} {c : Code} {l : Launch} (hst : l.stackTraces = false) {b : Nat} {xs : Nat → Int32} (C9 : lx_At p s m meth c b xs) {dC : Nat → ClassId} {dI : Nat → Nat → Nat} {ge5 gea gv5 gva gde gic gi0 : Nat} {x0 m0 x1 x2 x45 x53 x55 x57 m1 m2 m3 o0 : Nat} (hG : gv ge5 gea gv5 gva gde gic gi0 (fun q => s.heap.size ≤ q) s s.heap) {v1 : Int32} (v1_l : ((-2147483648) : Int) ≤ v1.toInt) (v1_u : v1.toInt ≤ ((-1) : Int)) {v2 : Int32} (v2_l : ((-2147483648) : Int) ≤ v2.toInt) (v2_u : v2.toInt ≤ (2147483647 : Int)) {v3 : Int32} (v3_l : (1 : Int) ≤ v3.toInt) (v3_u : v3.toInt ≤ (2147483647 : Int)) (hx1 : xs 1 = v1) (hx2 : xs 2 = v2) (hx3 : xs 3 = v3) {H : Heap} {locs : List Loc} (hK : va_K (dC, dI) vwCl [] s) (hP : va_P (dC, dI) vwCl [(x0, .inr (7, [.ref x1, .ref x2, .ref x45, .ref x53, .ref x55, .ref x57, .int 0, .int 0, .int 0])), (m0, .inr (9, [.int 0, .ref m1, .ref m2, .ref m3, .int 0, .int 0, .int 0]))] H) (hD : va_D (fun q => s.heap.size ≤ q) [(x0, .inr (7, [.ref x1, .ref x2, .ref x45, .ref x53, .ref x55, .ref x57, .int 0, .int 0, .int 0])), (m0, .inr (9, [.int 0, .ref m1, .ref m2, .ref m3, .int 0, .int 0, .int 0]))]) (hS : va_S (fun q => s.heap.size ≤ q) s.heap H locs) {ls : Array Slot} (hl : lv_has ls 7 [(4, .int 0), (3, .ref o0), (2, .ref m0), (1, .ref x0), (0, .ref b)]) : W p l e room_1 s m #[Value.ref b] below meth c H locs 72 2748 (lw_Z below #[Value.ref b] s) (F0 m 1238 ls []) := by
  obtain ⟨hx, hb, hr, hml, hown, hts, hX, hbl, hlocks⟩ := id C9
  have hA : ∀ q : Nat, s.heap.size ≤ q → (fun q : Nat => s.heap.size ≤ q) q := fun _ h => h
  have hbA : ¬ (fun q : Nat => s.heap.size ≤ q) b := Nat.not_le.mpr hbl
  obtain ⟨A, hAe⟩ : ∃ A : Nat → Prop, A = (fun q : Nat => s.heap.size ≤ q) := ⟨_, rfl⟩
  rw [← hAe] at hG hD hS hA hbA
  obtain ⟨⟨g_AO_Text, g_AO_String, g_AO_Object, g_nm_RX1_20, g_nm_RX0_17, g_nm_RX3_31, g_nm_RX2_44, g_nm_RL_121, g_nf_RL_13, g_nf_RL_47, g_ca_IO, g_ca_IA, g_ca_IS, g_ca_IntObj, g_ca_StrObj, g_de_RT, g_de_EX, g_de_TH, g_nc_IA_IO, g_nc_IS_IO, g_nc_IS_IA⟩, ⟨g_s3, g_s5, g_sa, g_x278, g_x280, g_x282, g_x284, g_x286, g_x180, g_x238, g_x250⟩, ⟨g_o5, g_c5, g_v5, g_t5, g_oa, g_ca, g_va, g_ta, g_zc, g_zd, g_td, g_zf, g_zU, g_zN, g_zh, g_zk, g_tk, g_oi, g_vi⟩⟩ := id hG
  refine lv_aload_n hx hb dL_law_1238 rfl (lv_at hl 3 rfl) ?_
  refine lv_aload_n hx hb dL_law_1239 rfl (lv_at hl 4 rfl) ?_
  refine lv_iload hx hb dL_law_1240 (lv_at hl 0 rfl) ?_
  refine lv_iconst (v := 1) hx hb dL_law_1242 (by decide) ?_
  refine lv_iadd hx hb dL_law_1243 ?_
  refine lv_topi (fun y1 ey1 => ?_)
  obtain rfl : y1 = 1 := ey1.trans (by decide)
  refine va_sld hx hb hX hbl hbA hS (by unfold vp_in; decide) dL_law_1244 ?_
  rw [show xs (Int32.toNatClampNeg 1) = v1 from hx1]
  refine lv_aload_n hx hb dL_law_1245 rfl (lv_at hl 4 rfl) ?_
  refine lv_iload hx hb dL_law_1246 (lv_at hl 0 rfl) ?_
  refine lv_iconst (v := 2) hx hb dL_law_1248 (by decide) ?_
  refine lv_iadd hx hb dL_law_1249 ?_
  refine lv_topi (fun y2 ey2 => ?_)
  obtain rfl : y2 = 2 := ey2.trans (by decide)
  refine va_sld hx hb hX hbl hbA hS (by unfold vp_in; decide) dL_law_1250 ?_
  rw [show xs (Int32.toNatClampNeg 2) = v2 from hx2]
  refine lv_aload_n hx hb dL_law_1251 rfl (lv_at hl 4 rfl) ?_
  refine lv_iload hx hb dL_law_1252 (lv_at hl 0 rfl) ?_
  refine lv_iconst (v := 3) hx hb dL_law_1254 (by decide) ?_
  refine lv_iadd hx hb dL_law_1255 ?_
  refine lv_topi (fun y3 ey3 => ?_)
  obtain rfl : y3 = 3 := ey3.trans (by decide)
  refine va_sld hx hb hX hbl hbA hS (by unfold vp_in; decide) dL_law_1256 ?_
  rw [show xs (Int32.toNatClampNeg 3) = v3 from hx3]
  refine lv_if_eq (tgt := 1264) hx hb dL_law_1257 (by decide) (fun c9 => absurd c9 (fun c8 => absurd (congrArg Int32.toInt c8) (by rw [show (0 : Int32).toInt = 0 from by decide]; omega))) (fun _ => ?_)
  refine lv_iconst (v := 1) hx hb dL_law_1260 (by decide) ?_
  refine lv_goto (tgt := 1265) hx hb dL_law_1261 (by decide) ?_
  refine lv_aload_n hx hb dL_law_1265 rfl (lv_at hl 1 rfl) ?_
  have hPc := hP.sub (ws' := [(x0, .inr (7, [.ref x1, .ref x2, .ref x45, .ref x53, .ref x55, .ref x57, .int 0, .int 0, .int 0]))]) [0] rfl
  have hDc := hD.sub (ws' := [(x0, .inr (7, [.ref x1, .ref x2, .ref x45, .ref x53, .ref x55, .ref x57, .int 0, .int 0, .int 0]))]) [0] (by decide) rfl
  have hKc := hK.sub (tys' := []) [] rfl
  have hFc := va_free (wc := [(x0, .inr (7, [.ref x1, .ref x2, .ref x45, .ref x53, .ref x55, .ref x57, .int 0, .int 0, .int 0]))]) hD hS hA [0] rfl
  refine va_calli (vx_runSW (As := [.ref x0, .int v1, .int v2, .int 1, .ref o0]) (rest := []) ⟨hx, hb, hml, hown, hts⟩ (kx_L_side_2 l hst dC dI ge5 gea gv5 gva gde gic gi0 x0 o0 x1 x2 x45 x53 x55 x57 H.size v1 v1_l v1_u v2 v2_l v2_u) (vx_cwSW 5 hts gL_law_L_side rfl rfl rfl (by decide +kernel) ⟨Nat.le_of_ble_eq_true rfl, Nat.le_of_ble_eq_true rfl⟩) ⟨fun a U g mk q => by obtain ⟨q0, q1, qP, qK, qD, qG⟩ := q; exact ⟨q0, q1, qP, va_K.moved (u := U) (U := U.calling g mk a) (Vm.Alike.refl U.vm) qK, qD, gv.fb qG⟩, fun U hU hW => ⟨rfl, by rw [hU], by rw [hU]; exact hPc, va_K.moved hW.alike hKc, hDc.weaken (fun _ _ _ _ => trivial), gv.pass hW hU hS hFc hG⟩⟩ rfl rfl hl.1 rfl (lv_room (Nat.le_of_ble_eq_true rfl)) dL_law_1266 ⟨Nat.le_of_ble_eq_true rfl, Nat.le_of_ble_eq_true rfl⟩) hS (fun q _ h => hFc q h) hFc (fun r9 u t H1 locs ht hvm hw hB hz1 hk1 hS => ?_)
  obtain rfl := hw
  obtain ⟨hP1, hK1, hD1⟩ := hB
  rw [ht] at hP1
  have hK1 := va_K.moved hvm.symm hK1
  obtain ⟨hP, hD⟩ := va_join (wr := [(m0, .inr (9, [.int 0, .ref m1, .ref m2, .ref m3, .int 0, .int 0, .int 0]))]) (w1 := [(x0, .inr (7, [.ref x1, .ref x2, .ref x45, .ref x53, .ref x55, .ref x57, .int 0, .int 0, .int 0]))]) hP hD [0] [1] rfl rfl (by decide) (by decide) hk1 hFc hP1 hD1
  generalize H1 = H at hP hS ⊢
  have hP : va_P (dC, dI) vwCl [(m0, .inr (9, [.int 0, .ref m1, .ref m2, .ref m3, .int 0, .int 0, .int 0])), (x0, .inr (7, [.ref x1, .ref x2, .ref x45, .ref x53, .ref x55, .ref x57, .int 0, .int 0, .int 0]))] H := hP
  have hD : va_D A [(m0, .inr (9, [.int 0, .ref m1, .ref m2, .ref m3, .int 0, .int 0, .int 0])), (x0, .inr (7, [.ref x1, .ref x2, .ref x45, .ref x53, .ref x55, .ref x57, .int 0, .int 0, .int 0]))] := hD
  refine W.widen (k := 73) (n := 2754) (by omega) (by omega) ?_
  refine lv_istore (lv' := [(5, .int 1), (4, .int 0), (3, .ref o0), (2, .ref m0), (1, .ref x0), (0, .ref b)]) hx hb dL_law_1269 hl (by decide) rfl (fun ls hl => ?_)
  refine lv_aload_n hx hb dL_law_1271 rfl (lv_at hl 3 rfl) ?_
  refine lv_aload_n hx hb dL_law_1272 rfl (lv_at hl 5 rfl) ?_
  refine lv_iload hx hb dL_law_1273 (lv_at hl 1 rfl) ?_
  refine lv_iconst (v := 1) hx hb dL_law_1275 (by decide) ?_
  refine lv_iadd hx hb dL_law_1276 ?_
  refine lv_topi (fun y4 ey4 => ?_)
  obtain rfl : y4 = 1 := ey4.trans (by decide)
  refine va_sld hx hb hX hbl hbA hS (by unfold vp_in; decide) dL_law_1277 ?_
  rw [show xs (Int32.toNatClampNeg 1) = v1 from hx1]
  refine lv_aload_n hx hb dL_law_1278 rfl (lv_at hl 5 rfl) ?_
  refine lv_iload hx hb dL_law_1279 (lv_at hl 1 rfl) ?_
  refine lv_iconst (v := 2) hx hb dL_law_1281 (by decide) ?_
  refine lv_iadd hx hb dL_law_1282 ?_
  refine lv_topi (fun y5 ey5 => ?_)
  obtain rfl : y5 = 2 := ey5.trans (by decide)
  refine va_sld hx hb hX hbl hbA hS (by unfold vp_in; decide) dL_law_1283 ?_
  rw [show xs (Int32.toNatClampNeg 2) = v2 from hx2]
  refine lv_aload_n hx hb dL_law_1284 rfl (lv_at hl 5 rfl) ?_
  refine lv_iload hx hb dL_law_1285 (lv_at hl 1 rfl) ?_
  refine lv_iconst (v := 3) hx hb dL_law_1287 (by decide) ?_
  refine lv_iadd hx hb dL_law_1288 ?_
  refine lv_topi (fun y6 ey6 => ?_)
  obtain rfl : y6 = 3 := ey6.trans (by decide)
  refine va_sld hx hb hX hbl hbA hS (by unfold vp_in; decide) dL_law_1289 ?_
  rw [show xs (Int32.toNatClampNeg 3) = v3 from hx3]
  refine lv_if_eq (tgt := 1297) hx hb dL_law_1290 (by decide) (fun c9 => absurd c9 (fun c8 => absurd (congrArg Int32.toInt c8) (by rw [show (0 : Int32).toInt = 0 from by decide]; omega))) (fun _ => ?_)
  refine lv_iconst (v := 1) hx hb dL_law_1293 (by decide) ?_
  refine lv_goto (tgt := 1298) hx hb dL_law_1294 (by decide) ?_
  have hPc := hP.sub (ws' := [(m0, .inr (9, [.int 0, .ref m1, .ref m2, .ref m3, .int 0, .int 0, .int 0]))]) [0] rfl
  have hDc := hD.sub (ws' := [(m0, .inr (9, [.int 0, .ref m1, .ref m2, .ref m3, .int 0, .int 0, .int 0]))]) [0] (by decide) rfl
  have hKc := hK.sub (tys' := []) [] rfl
  have hFc := va_free (wc := [(m0, .inr (9, [.int 0, .ref m1, .ref m2, .ref m3, .int 0, .int 0, .int 0]))]) hD hS hA [0] rfl
  refine va_calli (va_runV (As := [.int v1, .int v2, .int 1]) (rest := []) ⟨hx, hb, hml, hown, hts⟩ (kx_X5_side_2 l dC dI m0 m1 m2 m3 H.size v1 v1_l v1_u v2 v2_l v2_u) (cwV 3 hts gL_law_X5_side rfl rfl rfl (by decide +kernel) ⟨Nat.le_of_ble_eq_true rfl, Nat.le_of_ble_eq_true rfl⟩) ⟨fun a U g mk q => by obtain ⟨q0, q1, qP, qK, qD⟩ := q; exact ⟨q0, q1, qP, va_K.moved (u := U) (U := U.calling g mk a) (Vm.Alike.refl U.vm) qK, qD⟩, va_recv hKc hPc (ci := 9) (q0 := 0) rfl rfl, fun U hU hW => ⟨rfl, by rw [hU], by rw [hU]; exact hPc, va_K.moved hW.alike hKc, hDc.weaken (fun _ _ _ _ => trivial)⟩⟩ rfl rfl hl.1 rfl (lv_room (Nat.le_of_ble_eq_true rfl)) dL_law_1298 ⟨Nat.le_of_ble_eq_true rfl, Nat.le_of_ble_eq_true rfl⟩) hS (fun q _ h => hFc q h) hFc (fun r9 u t H1 locs ht hvm hw hB hz1 hk1 hS => ?_)
  obtain rfl := hw
  obtain ⟨hP1, hK1, hD1⟩ := hB
  rw [ht] at hP1
  have hK1 := va_K.moved hvm.symm hK1
  obtain ⟨hP, hD⟩ := va_join (wr := [(x0, .inr (7, [.ref x1, .ref x2, .ref x45, .ref x53, .ref x55, .ref x57, .int 0, .int 0, .int 0]))]) (w1 := [(m0, .inr (9, [.int 1, .ref m1, .ref m2, .ref m3, .int 0, .int 0, .int 0]))]) hP hD [0] [1] rfl rfl (by decide) (by decide) hk1 hFc hP1 hD1
  generalize H1 = H at hP hS ⊢
  have hP : va_P (dC, dI) vwCl [(x0, .inr (7, [.ref x1, .ref x2, .ref x45, .ref x53, .ref x55, .ref x57, .int 0, .int 0, .int 0])), (m0, .inr (9, [.int 1, .ref m1, .ref m2, .ref m3, .int 0, .int 0, .int 0]))] H := hP
  have hD : va_D A [(x0, .inr (7, [.ref x1, .ref x2, .ref x45, .ref x53, .ref x55, .ref x57, .int 0, .int 0, .int 0])), (m0, .inr (9, [.int 1, .ref m1, .ref m2, .ref m3, .int 0, .int 0, .int 0]))] := hD
  refine lv_istore (lv' := [(6, .int 0), (5, .int 1), (4, .int 0), (3, .ref o0), (2, .ref m0), (1, .ref x0), (0, .ref b)]) hx hb dL_law_1301 hl (by decide) rfl (fun ls hl => ?_)
  refine lv_aload_n hx hb dL_law_1303 rfl (lv_at hl 4 rfl) ?_
  have hPc := hP.sub (ws' := [(m0, .inr (9, [.int 1, .ref m1, .ref m2, .ref m3, .int 0, .int 0, .int 0]))]) [1] rfl
  have hDc := hD.sub (ws' := [(m0, .inr (9, [.int 1, .ref m1, .ref m2, .ref m3, .int 0, .int 0, .int 0]))]) [1] (by decide) rfl
  have hKc := hK.sub (tys' := []) [] rfl
  have hFc := va_free (wc := [(m0, .inr (9, [.int 1, .ref m1, .ref m2, .ref m3, .int 0, .int 0, .int 0]))]) hD hS hA [1] rfl
  refine va_calli (va_runV (As := []) (rest := []) ⟨hx, hb, hml, hown, hts⟩ (kx_X5_thrown_0 l dC dI m0 m1 m2 m3 H.size) (cwV 0 hts gL_law_X5_thrown rfl rfl rfl (by decide +kernel) ⟨Nat.le_of_ble_eq_true rfl, Nat.le_of_ble_eq_true rfl⟩) ⟨fun a U g mk q => by obtain ⟨q0, q1, qP, qK, qD⟩ := q; exact ⟨q0, q1, qP, va_K.moved (u := U) (U := U.calling g mk a) (Vm.Alike.refl U.vm) qK, qD⟩, va_recv hKc hPc (ci := 9) (q0 := 0) rfl rfl, fun U hU hW => ⟨rfl, by rw [hU], by rw [hU]; exact hPc, va_K.moved hW.alike hKc, hDc.weaken (fun _ _ _ _ => trivial)⟩⟩ rfl rfl hl.1 rfl (lv_room (Nat.le_of_ble_eq_true rfl)) dL_law_1304 ⟨Nat.le_of_ble_eq_true rfl, Nat.le_of_ble_eq_true rfl⟩) hS (fun q _ h => hFc q h) hFc (fun r9 u t H1 locs ht hvm hw hB hz1 hk1 hS => ?_)
  obtain rfl := hw
  obtain ⟨hP1, hK1, hD1⟩ := hB
  rw [ht] at hP1
  have hK1 := va_K.moved hvm.symm hK1
  obtain ⟨hP, hD⟩ := va_join (wr := [(x0, .inr (7, [.ref x1, .ref x2, .ref x45, .ref x53, .ref x55, .ref x57, .int 0, .int 0, .int 0]))]) (w1 := [(m0, .inr (9, [.int 1, .ref m1, .ref m2, .ref m3, .int 0, .int 0, .int 0]))]) hP hD [1] [0] rfl rfl (by decide) (by decide) hk1 hFc hP1 hD1
  generalize H1 = H at hP hS ⊢
  have hP : va_P (dC, dI) vwCl [(x0, .inr (7, [.ref x1, .ref x2, .ref x45, .ref x53, .ref x55, .ref x57, .int 0, .int 0, .int 0])), (m0, .inr (9, [.int 1, .ref m1, .ref m2, .ref m3, .int 0, .int 0, .int 0]))] H := hP
  have hD : va_D A [(x0, .inr (7, [.ref x1, .ref x2, .ref x45, .ref x53, .ref x55, .ref x57, .int 0, .int 0, .int 0])), (m0, .inr (9, [.int 1, .ref m1, .ref m2, .ref m3, .int 0, .int 0, .int 0]))] := hD
  refine lv_iload hx hb dL_law_1307 (lv_at hl 1 rfl) ?_
  refine lv_icmp_eq (tgt := 1314) hx hb dL_law_1309 (by decide) (fun _ => ?_) (fun c9 => absurd (by decide) c9)
  refine lv_iload hx hb dL_law_1314 (lv_at hl 1 rfl) ?_
  refine lv_if_ne (tgt := 1332) hx hb dL_law_1316 (by decide) (fun _ => ?_) (fun c9 => absurd c9 (by decide))
  refine lv_goto (tgt := 2342) hx hb dL_law_1332 (by decide) ?_
  refine lv_iinc (v := 7) (lv' := [(4, .int 7), (6, .int 0), (5, .int 1), (3, .ref o0), (2, .ref m0), (1, .ref x0), (0, .ref b)]) hx hb dL_law_2342 hl (k := 2) rfl (by decide) (by decide) rfl (fun ls hl => ?_)
  refine lv_goto (tgt := 27) hx hb dL_law_2345 (by decide) ?_
  refine lv_iload hx hb dL_law_27 (lv_at hl 0 rfl) ?_
  refine lv_aload_n hx hb dL_law_29 rfl (lv_at hl 6 rfl) ?_
  refine va_slen hx hb hX hbl hbA hS dL_law_30 ?_
  refine lv_topi (fun y7 ey7 => ?_)
  obtain rfl : y7 = 7 := ey7.trans (by decide)
  refine lv_bipush (v := 7) hx hb dL_law_31 (by decide) ?_
  refine lv_isub hx hb dL_law_33 ?_
  refine lv_topi (fun y8 ey8 => ?_)
  obtain rfl : y8 = 0 := ey8.trans (by decide)
  refine lv_icmp_gt (tgt := 2348) hx hb dL_law_34 (by decide) (fun _ => ?_) (fun c9 => absurd (by decide) c9)
  refine lv_iconst (v := 1) hx hb dL_law_2348 (by decide) ?_
  refine va_forget (fun q hq => (by have h := hS.2.2 q hq; rw [hAe] at h; exact h)) ?_
  refine W.widen (k := 600002) (n := 7302232) (Nat.le_of_ble_eq_true rfl) (Nat.le_of_ble_eq_true rfl) ?_
  exact lw_ret hx hb hr hlocks dL_law_2349
set_option maxHeartbeats 4000000 in
set_option maxRecDepth 100000 in
theorem lc_side_4 {p : Program} {e : Env} {s : State} {m : MethodId} {below : List Frame} {meth : Method} {c : Code} {l : Launch} (hst : l.stackTraces = false) {b : Nat} {xs : Nat → Int32} (C9 : lx_At p s m meth c b xs) {dC : Nat → ClassId} {dI : Nat → Nat → Nat} {ge5 gea gv5 gva gde gic gi0 : Nat} {x0 m0 x1 x2 x45 x53 x55 x57 m1 m2 m3 o0 : Nat} (hG : gv ge5 gea gv5 gva gde gic gi0 (fun q => s.heap.size ≤ q) s s.heap) {v1 : Int32} (v1_l : (4 : Int) ≤ v1.toInt) (v1_u : v1.toInt ≤ (2147483647 : Int)) {v2 : Int32} (v2_l : ((-2147483648) : Int) ≤ v2.toInt) (v2_u : v2.toInt ≤ (2147483647 : Int)) {v3 : Int32} (v3_l : ((-2147483648) : Int) ≤ v3.toInt) (v3_u : v3.toInt ≤ ((-1) : Int)) (hx1 : xs 1 = v1) (hx2 : xs 2 = v2) (hx3 : xs 3 = v3) {H : Heap} {locs : List Loc} (hK : va_K (dC, dI) vwCl [] s) (hP : va_P (dC, dI) vwCl [(x0, .inr (7, [.ref x1, .ref x2, .ref x45, .ref x53, .ref x55, .ref x57, .int 0, .int 0, .int 0])), (m0, .inr (9, [.int 0, .ref m1, .ref m2, .ref m3, .int 0, .int 0, .int 0]))] H) (hD : va_D (fun q => s.heap.size ≤ q) [(x0, .inr (7, [.ref x1, .ref x2, .ref x45, .ref x53, .ref x55, .ref x57, .int 0, .int 0, .int 0])), (m0, .inr (9, [.int 0, .ref m1, .ref m2, .ref m3, .int 0, .int 0, .int 0]))]) (hS : va_S (fun q => s.heap.size ≤ q) s.heap H locs) {ls : Array Slot} (hl : lv_has ls 7 [(4, .int 0), (3, .ref o0), (2, .ref m0), (1, .ref x0), (0, .ref b)]) : W p l e room_1 s m #[Value.ref b] below meth c H locs 72 2748 (lw_Z below #[Value.ref b] s) (F0 m 1238 ls []) := by
  obtain ⟨hx, hb, hr, hml, hown, hts, hX, hbl, hlocks⟩ := id C9
  have hA : ∀ q : Nat, s.heap.size ≤ q → (fun q : Nat => s.heap.size ≤ q) q := fun _ h => h
  have hbA : ¬ (fun q : Nat => s.heap.size ≤ q) b := Nat.not_le.mpr hbl
  obtain ⟨A, hAe⟩ : ∃ A : Nat → Prop, A = (fun q : Nat => s.heap.size ≤ q) := ⟨_, rfl⟩
  rw [← hAe] at hG hD hS hA hbA
  obtain ⟨⟨g_AO_Text, g_AO_String, g_AO_Object, g_nm_RX1_20, g_nm_RX0_17, g_nm_RX3_31, g_nm_RX2_44, g_nm_RL_121, g_nf_RL_13, g_nf_RL_47, g_ca_IO, g_ca_IA, g_ca_IS, g_ca_IntObj, g_ca_StrObj, g_de_RT, g_de_EX, g_de_TH, g_nc_IA_IO, g_nc_IS_IO, g_nc_IS_IA⟩, ⟨g_s3, g_s5, g_sa, g_x278, g_x280, g_x282, g_x284, g_x286, g_x180, g_x238, g_x250⟩, ⟨g_o5, g_c5, g_v5, g_t5, g_oa, g_ca, g_va, g_ta, g_zc, g_zd, g_td, g_zf, g_zU, g_zN, g_zh, g_zk, g_tk, g_oi, g_vi⟩⟩ := id hG
  refine lv_aload_n hx hb dL_law_1238 rfl (lv_at hl 3 rfl) ?_
  refine lv_aload_n hx hb dL_law_1239 rfl (lv_at hl 4 rfl) ?_
  refine lv_iload hx hb dL_law_1240 (lv_at hl 0 rfl) ?_
  refine lv_iconst (v := 1) hx hb dL_law_1242 (by decide) ?_
  refine lv_iadd hx hb dL_law_1243 ?_
  refine lv_topi (fun y1 ey1 => ?_)
  obtain rfl : y1 = 1 := ey1.trans (by decide)
  refine va_sld hx hb hX hbl hbA hS (by unfold vp_in; decide) dL_law_1244 ?_
  rw [show xs (Int32.toNatClampNeg 1) = v1 from hx1]
  refine lv_aload_n hx hb dL_law_1245 rfl (lv_at hl 4 rfl) ?_
  refine lv_iload hx hb dL_law_1246 (lv_at hl 0 rfl) ?_
  refine lv_iconst (v := 2) hx hb dL_law_1248 (by decide) ?_
  refine lv_iadd hx hb dL_law_1249 ?_
  refine lv_topi (fun y2 ey2 => ?_)
  obtain rfl : y2 = 2 := ey2.trans (by decide)
  refine va_sld hx hb hX hbl hbA hS (by unfold vp_in; decide) dL_law_1250 ?_
  rw [show xs (Int32.toNatClampNeg 2) = v2 from hx2]
  refine lv_aload_n hx hb dL_law_1251 rfl (lv_at hl 4 rfl) ?_
  refine lv_iload hx hb dL_law_1252 (lv_at hl 0 rfl) ?_
  refine lv_iconst (v := 3) hx hb dL_law_1254 (by decide) ?_
  refine lv_iadd hx hb dL_law_1255 ?_
  refine lv_topi (fun y3 ey3 => ?_)
  obtain rfl : y3 = 3 := ey3.trans (by decide)
  refine va_sld hx hb hX hbl hbA hS (by unfold vp_in; decide) dL_law_1256 ?_
  rw [show xs (Int32.toNatClampNeg 3) = v3 from hx3]
  refine lv_if_eq (tgt := 1264) hx hb dL_law_1257 (by decide) (fun c9 => absurd c9 (fun c8 => absurd (congrArg Int32.toInt c8) (by rw [show (0 : Int32).toInt = 0 from by decide]; omega))) (fun _ => ?_)
  refine lv_iconst (v := 1) hx hb dL_law_1260 (by decide) ?_
  refine lv_goto (tgt := 1265) hx hb dL_law_1261 (by decide) ?_
  refine lv_aload_n hx hb dL_law_1265 rfl (lv_at hl 1 rfl) ?_
  have hPc := hP.sub (ws' := [(x0, .inr (7, [.ref x1, .ref x2, .ref x45, .ref x53, .ref x55, .ref x57, .int 0, .int 0, .int 0]))]) [0] rfl
  have hDc := hD.sub (ws' := [(x0, .inr (7, [.ref x1, .ref x2, .ref x45, .ref x53, .ref x55, .ref x57, .int 0, .int 0, .int 0]))]) [0] (by decide) rfl
  have hKc := hK.sub (tys' := []) [] rfl
  have hFc := va_free (wc := [(x0, .inr (7, [.ref x1, .ref x2, .ref x45, .ref x53, .ref x55, .ref x57, .int 0, .int 0, .int 0]))]) hD hS hA [0] rfl
  refine va_calli (vx_runSW (As := [.ref x0, .int v1, .int v2, .int 1, .ref o0]) (rest := []) ⟨hx, hb, hml, hown, hts⟩ (kx_L_side_3 l hst dC dI ge5 gea gv5 gva gde gic gi0 x0 o0 x1 x2 x45 x53 x55 x57 H.size v1 v1_l v1_u v2 v2_l v2_u) (vx_cwSW 5 hts gL_law_L_side rfl rfl rfl (by decide +kernel) ⟨Nat.le_of_ble_eq_true rfl, Nat.le_of_ble_eq_true rfl⟩) ⟨fun a U g mk q => by obtain ⟨q0, q1, qP, qK, qD, qG⟩ := q; exact ⟨q0, q1, qP, va_K.moved (u := U) (U := U.calling g mk a) (Vm.Alike.refl U.vm) qK, qD, gv.fb qG⟩, fun U hU hW => ⟨rfl, by rw [hU], by rw [hU]; exact hPc, va_K.moved hW.alike hKc, hDc.weaken (fun _ _ _ _ => trivial), gv.pass hW hU hS hFc hG⟩⟩ rfl rfl hl.1 rfl (lv_room (Nat.le_of_ble_eq_true rfl)) dL_law_1266 ⟨Nat.le_of_ble_eq_true rfl, Nat.le_of_ble_eq_true rfl⟩) hS (fun q _ h => hFc q h) hFc (fun r9 u t H1 locs ht hvm hw hB hz1 hk1 hS => ?_)
  obtain rfl := hw
  obtain ⟨hP1, hK1, hD1⟩ := hB
  rw [ht] at hP1
  have hK1 := va_K.moved hvm.symm hK1
  obtain ⟨hP, hD⟩ := va_join (wr := [(m0, .inr (9, [.int 0, .ref m1, .ref m2, .ref m3, .int 0, .int 0, .int 0]))]) (w1 := [(x0, .inr (7, [.ref x1, .ref x2, .ref x45, .ref x53, .ref x55, .ref x57, .int 0, .int 0, .int 0]))]) hP hD [0] [1] rfl rfl (by decide) (by decide) hk1 hFc hP1 hD1
  generalize H1 = H at hP hS ⊢
  have hP : va_P (dC, dI) vwCl [(m0, .inr (9, [.int 0, .ref m1, .ref m2, .ref m3, .int 0, .int 0, .int 0])), (x0, .inr (7, [.ref x1, .ref x2, .ref x45, .ref x53, .ref x55, .ref x57, .int 0, .int 0, .int 0]))] H := hP
  have hD : va_D A [(m0, .inr (9, [.int 0, .ref m1, .ref m2, .ref m3, .int 0, .int 0, .int 0])), (x0, .inr (7, [.ref x1, .ref x2, .ref x45, .ref x53, .ref x55, .ref x57, .int 0, .int 0, .int 0]))] := hD
  refine W.widen (k := 73) (n := 2754) (by omega) (by omega) ?_
  refine lv_istore (lv' := [(5, .int 1), (4, .int 0), (3, .ref o0), (2, .ref m0), (1, .ref x0), (0, .ref b)]) hx hb dL_law_1269 hl (by decide) rfl (fun ls hl => ?_)
  refine lv_aload_n hx hb dL_law_1271 rfl (lv_at hl 3 rfl) ?_
  refine lv_aload_n hx hb dL_law_1272 rfl (lv_at hl 5 rfl) ?_
  refine lv_iload hx hb dL_law_1273 (lv_at hl 1 rfl) ?_
  refine lv_iconst (v := 1) hx hb dL_law_1275 (by decide) ?_
  refine lv_iadd hx hb dL_law_1276 ?_
  refine lv_topi (fun y4 ey4 => ?_)
  obtain rfl : y4 = 1 := ey4.trans (by decide)
  refine va_sld hx hb hX hbl hbA hS (by unfold vp_in; decide) dL_law_1277 ?_
  rw [show xs (Int32.toNatClampNeg 1) = v1 from hx1]
  refine lv_aload_n hx hb dL_law_1278 rfl (lv_at hl 5 rfl) ?_
  refine lv_iload hx hb dL_law_1279 (lv_at hl 1 rfl) ?_
  refine lv_iconst (v := 2) hx hb dL_law_1281 (by decide) ?_
  refine lv_iadd hx hb dL_law_1282 ?_
  refine lv_topi (fun y5 ey5 => ?_)
  obtain rfl : y5 = 2 := ey5.trans (by decide)
  refine va_sld hx hb hX hbl hbA hS (by unfold vp_in; decide) dL_law_1283 ?_
  rw [show xs (Int32.toNatClampNeg 2) = v2 from hx2]
  refine lv_aload_n hx hb dL_law_1284 rfl (lv_at hl 5 rfl) ?_
  refine lv_iload hx hb dL_law_1285 (lv_at hl 1 rfl) ?_
  refine lv_iconst (v := 3) hx hb dL_law_1287 (by decide) ?_
  refine lv_iadd hx hb dL_law_1288 ?_
  refine lv_topi (fun y6 ey6 => ?_)
  obtain rfl : y6 = 3 := ey6.trans (by decide)
  refine va_sld hx hb hX hbl hbA hS (by unfold vp_in; decide) dL_law_1289 ?_
  rw [show xs (Int32.toNatClampNeg 3) = v3 from hx3]
  refine lv_if_eq (tgt := 1297) hx hb dL_law_1290 (by decide) (fun c9 => absurd c9 (fun c8 => absurd (congrArg Int32.toInt c8) (by rw [show (0 : Int32).toInt = 0 from by decide]; omega))) (fun _ => ?_)
  refine lv_iconst (v := 1) hx hb dL_law_1293 (by decide) ?_
  refine lv_goto (tgt := 1298) hx hb dL_law_1294 (by decide) ?_
  have hPc := hP.sub (ws' := [(m0, .inr (9, [.int 0, .ref m1, .ref m2, .ref m3, .int 0, .int 0, .int 0]))]) [0] rfl
  have hDc := hD.sub (ws' := [(m0, .inr (9, [.int 0, .ref m1, .ref m2, .ref m3, .int 0, .int 0, .int 0]))]) [0] (by decide) rfl
  have hKc := hK.sub (tys' := []) [] rfl
  have hFc := va_free (wc := [(m0, .inr (9, [.int 0, .ref m1, .ref m2, .ref m3, .int 0, .int 0, .int 0]))]) hD hS hA [0] rfl
  refine va_calli (va_runV (As := [.int v1, .int v2, .int 1]) (rest := []) ⟨hx, hb, hml, hown, hts⟩ (kx_X5_side_3 l dC dI m0 m1 m2 m3 H.size v1 v1_l v1_u v2 v2_l v2_u) (cwV 3 hts gL_law_X5_side rfl rfl rfl (by decide +kernel) ⟨Nat.le_of_ble_eq_true rfl, Nat.le_of_ble_eq_true rfl⟩) ⟨fun a U g mk q => by obtain ⟨q0, q1, qP, qK, qD⟩ := q; exact ⟨q0, q1, qP, va_K.moved (u := U) (U := U.calling g mk a) (Vm.Alike.refl U.vm) qK, qD⟩, va_recv hKc hPc (ci := 9) (q0 := 0) rfl rfl, fun U hU hW => ⟨rfl, by rw [hU], by rw [hU]; exact hPc, va_K.moved hW.alike hKc, hDc.weaken (fun _ _ _ _ => trivial)⟩⟩ rfl rfl hl.1 rfl (lv_room (Nat.le_of_ble_eq_true rfl)) dL_law_1298 ⟨Nat.le_of_ble_eq_true rfl, Nat.le_of_ble_eq_true rfl⟩) hS (fun q _ h => hFc q h) hFc (fun r9 u t H1 locs ht hvm hw hB hz1 hk1 hS => ?_)
  obtain rfl := hw
  obtain ⟨hP1, hK1, hD1⟩ := hB
  rw [ht] at hP1
  have hK1 := va_K.moved hvm.symm hK1
  obtain ⟨hP, hD⟩ := va_join (wr := [(x0, .inr (7, [.ref x1, .ref x2, .ref x45, .ref x53, .ref x55, .ref x57, .int 0, .int 0, .int 0]))]) (w1 := [(m0, .inr (9, [.int 1, .ref m1, .ref m2, .ref m3, .int 0, .int 0, .int 0]))]) hP hD [0] [1] rfl rfl (by decide) (by decide) hk1 hFc hP1 hD1
  generalize H1 = H at hP hS ⊢
  have hP : va_P (dC, dI) vwCl [(x0, .inr (7, [.ref x1, .ref x2, .ref x45, .ref x53, .ref x55, .ref x57, .int 0, .int 0, .int 0])), (m0, .inr (9, [.int 1, .ref m1, .ref m2, .ref m3, .int 0, .int 0, .int 0]))] H := hP
  have hD : va_D A [(x0, .inr (7, [.ref x1, .ref x2, .ref x45, .ref x53, .ref x55, .ref x57, .int 0, .int 0, .int 0])), (m0, .inr (9, [.int 1, .ref m1, .ref m2, .ref m3, .int 0, .int 0, .int 0]))] := hD
  refine lv_istore (lv' := [(6, .int 0), (5, .int 1), (4, .int 0), (3, .ref o0), (2, .ref m0), (1, .ref x0), (0, .ref b)]) hx hb dL_law_1301 hl (by decide) rfl (fun ls hl => ?_)
  refine lv_aload_n hx hb dL_law_1303 rfl (lv_at hl 4 rfl) ?_
  have hPc := hP.sub (ws' := [(m0, .inr (9, [.int 1, .ref m1, .ref m2, .ref m3, .int 0, .int 0, .int 0]))]) [1] rfl
  have hDc := hD.sub (ws' := [(m0, .inr (9, [.int 1, .ref m1, .ref m2, .ref m3, .int 0, .int 0, .int 0]))]) [1] (by decide) rfl
  have hKc := hK.sub (tys' := []) [] rfl
  have hFc := va_free (wc := [(m0, .inr (9, [.int 1, .ref m1, .ref m2, .ref m3, .int 0, .int 0, .int 0]))]) hD hS hA [1] rfl
  refine va_calli (va_runV (As := []) (rest := []) ⟨hx, hb, hml, hown, hts⟩ (kx_X5_thrown_0 l dC dI m0 m1 m2 m3 H.size) (cwV 0 hts gL_law_X5_thrown rfl rfl rfl (by decide +kernel) ⟨Nat.le_of_ble_eq_true rfl, Nat.le_of_ble_eq_true rfl⟩) ⟨fun a U g mk q => by obtain ⟨q0, q1, qP, qK, qD⟩ := q; exact ⟨q0, q1, qP, va_K.moved (u := U) (U := U.calling g mk a) (Vm.Alike.refl U.vm) qK, qD⟩, va_recv hKc hPc (ci := 9) (q0 := 0) rfl rfl, fun U hU hW => ⟨rfl, by rw [hU], by rw [hU]; exact hPc, va_K.moved hW.alike hKc, hDc.weaken (fun _ _ _ _ => trivial)⟩⟩ rfl rfl hl.1 rfl (lv_room (Nat.le_of_ble_eq_true rfl)) dL_law_1304 ⟨Nat.le_of_ble_eq_true rfl, Nat.le_of_ble_eq_true rfl⟩) hS (fun q _ h => hFc q h) hFc (fun r9 u t H1 locs ht hvm hw hB hz1 hk1 hS => ?_)
  obtain rfl := hw
  obtain ⟨hP1, hK1, hD1⟩ := hB
  rw [ht] at hP1
  have hK1 := va_K.moved hvm.symm hK1
  obtain ⟨hP, hD⟩ := va_join (wr := [(x0, .inr (7, [.ref x1, .ref x2, .ref x45, .ref x53, .ref x55, .ref x57, .int 0, .int 0, .int 0]))]) (w1 := [(m0, .inr (9, [.int 1, .ref m1, .ref m2, .ref m3, .int 0, .int 0, .int 0]))]) hP hD [1] [0] rfl rfl (by decide) (by decide) hk1 hFc hP1 hD1
  generalize H1 = H at hP hS ⊢
  have hP : va_P (dC, dI) vwCl [(x0, .inr (7, [.ref x1, .ref x2, .ref x45, .ref x53, .ref x55, .ref x57, .int 0, .int 0, .int 0])), (m0, .inr (9, [.int 1, .ref m1, .ref m2, .ref m3, .int 0, .int 0, .int 0]))] H := hP
  have hD : va_D A [(x0, .inr (7, [.ref x1, .ref x2, .ref x45, .ref x53, .ref x55, .ref x57, .int 0, .int 0, .int 0])), (m0, .inr (9, [.int 1, .ref m1, .ref m2, .ref m3, .int 0, .int 0, .int 0]))] := hD
  refine lv_iload hx hb dL_law_1307 (lv_at hl 1 rfl) ?_
  refine lv_icmp_eq (tgt := 1314) hx hb dL_law_1309 (by decide) (fun _ => ?_) (fun c9 => absurd (by decide) c9)
  refine lv_iload hx hb dL_law_1314 (lv_at hl 1 rfl) ?_
  refine lv_if_ne (tgt := 1332) hx hb dL_law_1316 (by decide) (fun _ => ?_) (fun c9 => absurd c9 (by decide))
  refine lv_goto (tgt := 2342) hx hb dL_law_1332 (by decide) ?_
  refine lv_iinc (v := 7) (lv' := [(4, .int 7), (6, .int 0), (5, .int 1), (3, .ref o0), (2, .ref m0), (1, .ref x0), (0, .ref b)]) hx hb dL_law_2342 hl (k := 2) rfl (by decide) (by decide) rfl (fun ls hl => ?_)
  refine lv_goto (tgt := 27) hx hb dL_law_2345 (by decide) ?_
  refine lv_iload hx hb dL_law_27 (lv_at hl 0 rfl) ?_
  refine lv_aload_n hx hb dL_law_29 rfl (lv_at hl 6 rfl) ?_
  refine va_slen hx hb hX hbl hbA hS dL_law_30 ?_
  refine lv_topi (fun y7 ey7 => ?_)
  obtain rfl : y7 = 7 := ey7.trans (by decide)
  refine lv_bipush (v := 7) hx hb dL_law_31 (by decide) ?_
  refine lv_isub hx hb dL_law_33 ?_
  refine lv_topi (fun y8 ey8 => ?_)
  obtain rfl : y8 = 0 := ey8.trans (by decide)
  refine lv_icmp_gt (tgt := 2348) hx hb dL_law_34 (by decide) (fun _ => ?_) (fun c9 => absurd (by decide) c9)
  refine lv_iconst (v := 1) hx hb dL_law_2348 (by decide) ?_
  refine va_forget (fun q hq => (by have h := hS.2.2 q hq; rw [hAe] at h; exact h)) ?_
  refine W.widen (k := 600002) (n := 7302232) (Nat.le_of_ble_eq_true rfl) (Nat.le_of_ble_eq_true rfl) ?_
  exact lw_ret hx hb hr hlocks dL_law_2349
set_option maxHeartbeats 4000000 in
set_option maxRecDepth 100000 in
theorem lc_side_5 {p : Program} {e : Env} {s : State} {m : MethodId} {below : List Frame} {meth : Method} {c : Code} {l : Launch} (hst : l.stackTraces = false) {b : Nat} {xs : Nat → Int32} (C9 : lx_At p s m meth c b xs) {dC : Nat → ClassId} {dI : Nat → Nat → Nat} {ge5 gea gv5 gva gde gic gi0 : Nat} {x0 m0 x1 x2 x45 x53 x55 x57 m1 m2 m3 o0 : Nat} (hG : gv ge5 gea gv5 gva gde gic gi0 (fun q => s.heap.size ≤ q) s s.heap) {v1 : Int32} (v1_l : (4 : Int) ≤ v1.toInt) (v1_u : v1.toInt ≤ (2147483647 : Int)) {v2 : Int32} (v2_l : ((-2147483648) : Int) ≤ v2.toInt) (v2_u : v2.toInt ≤ (2147483647 : Int)) {v3 : Int32} (v3_l : (1 : Int) ≤ v3.toInt) (v3_u : v3.toInt ≤ (2147483647 : Int)) (hx1 : xs 1 = v1) (hx2 : xs 2 = v2) (hx3 : xs 3 = v3) {H : Heap} {locs : List Loc} (hK : va_K (dC, dI) vwCl [] s) (hP : va_P (dC, dI) vwCl [(x0, .inr (7, [.ref x1, .ref x2, .ref x45, .ref x53, .ref x55, .ref x57, .int 0, .int 0, .int 0])), (m0, .inr (9, [.int 0, .ref m1, .ref m2, .ref m3, .int 0, .int 0, .int 0]))] H) (hD : va_D (fun q => s.heap.size ≤ q) [(x0, .inr (7, [.ref x1, .ref x2, .ref x45, .ref x53, .ref x55, .ref x57, .int 0, .int 0, .int 0])), (m0, .inr (9, [.int 0, .ref m1, .ref m2, .ref m3, .int 0, .int 0, .int 0]))]) (hS : va_S (fun q => s.heap.size ≤ q) s.heap H locs) {ls : Array Slot} (hl : lv_has ls 7 [(4, .int 0), (3, .ref o0), (2, .ref m0), (1, .ref x0), (0, .ref b)]) : W p l e room_1 s m #[Value.ref b] below meth c H locs 72 2748 (lw_Z below #[Value.ref b] s) (F0 m 1238 ls []) := by
  obtain ⟨hx, hb, hr, hml, hown, hts, hX, hbl, hlocks⟩ := id C9
  have hA : ∀ q : Nat, s.heap.size ≤ q → (fun q : Nat => s.heap.size ≤ q) q := fun _ h => h
  have hbA : ¬ (fun q : Nat => s.heap.size ≤ q) b := Nat.not_le.mpr hbl
  obtain ⟨A, hAe⟩ : ∃ A : Nat → Prop, A = (fun q : Nat => s.heap.size ≤ q) := ⟨_, rfl⟩
  rw [← hAe] at hG hD hS hA hbA
  obtain ⟨⟨g_AO_Text, g_AO_String, g_AO_Object, g_nm_RX1_20, g_nm_RX0_17, g_nm_RX3_31, g_nm_RX2_44, g_nm_RL_121, g_nf_RL_13, g_nf_RL_47, g_ca_IO, g_ca_IA, g_ca_IS, g_ca_IntObj, g_ca_StrObj, g_de_RT, g_de_EX, g_de_TH, g_nc_IA_IO, g_nc_IS_IO, g_nc_IS_IA⟩, ⟨g_s3, g_s5, g_sa, g_x278, g_x280, g_x282, g_x284, g_x286, g_x180, g_x238, g_x250⟩, ⟨g_o5, g_c5, g_v5, g_t5, g_oa, g_ca, g_va, g_ta, g_zc, g_zd, g_td, g_zf, g_zU, g_zN, g_zh, g_zk, g_tk, g_oi, g_vi⟩⟩ := id hG
  refine lv_aload_n hx hb dL_law_1238 rfl (lv_at hl 3 rfl) ?_
  refine lv_aload_n hx hb dL_law_1239 rfl (lv_at hl 4 rfl) ?_
  refine lv_iload hx hb dL_law_1240 (lv_at hl 0 rfl) ?_
  refine lv_iconst (v := 1) hx hb dL_law_1242 (by decide) ?_
  refine lv_iadd hx hb dL_law_1243 ?_
  refine lv_topi (fun y1 ey1 => ?_)
  obtain rfl : y1 = 1 := ey1.trans (by decide)
  refine va_sld hx hb hX hbl hbA hS (by unfold vp_in; decide) dL_law_1244 ?_
  rw [show xs (Int32.toNatClampNeg 1) = v1 from hx1]
  refine lv_aload_n hx hb dL_law_1245 rfl (lv_at hl 4 rfl) ?_
  refine lv_iload hx hb dL_law_1246 (lv_at hl 0 rfl) ?_
  refine lv_iconst (v := 2) hx hb dL_law_1248 (by decide) ?_
  refine lv_iadd hx hb dL_law_1249 ?_
  refine lv_topi (fun y2 ey2 => ?_)
  obtain rfl : y2 = 2 := ey2.trans (by decide)
  refine va_sld hx hb hX hbl hbA hS (by unfold vp_in; decide) dL_law_1250 ?_
  rw [show xs (Int32.toNatClampNeg 2) = v2 from hx2]
  refine lv_aload_n hx hb dL_law_1251 rfl (lv_at hl 4 rfl) ?_
  refine lv_iload hx hb dL_law_1252 (lv_at hl 0 rfl) ?_
  refine lv_iconst (v := 3) hx hb dL_law_1254 (by decide) ?_
  refine lv_iadd hx hb dL_law_1255 ?_
  refine lv_topi (fun y3 ey3 => ?_)
  obtain rfl : y3 = 3 := ey3.trans (by decide)
  refine va_sld hx hb hX hbl hbA hS (by unfold vp_in; decide) dL_law_1256 ?_
  rw [show xs (Int32.toNatClampNeg 3) = v3 from hx3]
  refine lv_if_eq (tgt := 1264) hx hb dL_law_1257 (by decide) (fun c9 => absurd c9 (fun c8 => absurd (congrArg Int32.toInt c8) (by rw [show (0 : Int32).toInt = 0 from by decide]; omega))) (fun _ => ?_)
  refine lv_iconst (v := 1) hx hb dL_law_1260 (by decide) ?_
  refine lv_goto (tgt := 1265) hx hb dL_law_1261 (by decide) ?_
  refine lv_aload_n hx hb dL_law_1265 rfl (lv_at hl 1 rfl) ?_
  have hPc := hP.sub (ws' := [(x0, .inr (7, [.ref x1, .ref x2, .ref x45, .ref x53, .ref x55, .ref x57, .int 0, .int 0, .int 0]))]) [0] rfl
  have hDc := hD.sub (ws' := [(x0, .inr (7, [.ref x1, .ref x2, .ref x45, .ref x53, .ref x55, .ref x57, .int 0, .int 0, .int 0]))]) [0] (by decide) rfl
  have hKc := hK.sub (tys' := []) [] rfl
  have hFc := va_free (wc := [(x0, .inr (7, [.ref x1, .ref x2, .ref x45, .ref x53, .ref x55, .ref x57, .int 0, .int 0, .int 0]))]) hD hS hA [0] rfl
  refine va_calli (vx_runSW (As := [.ref x0, .int v1, .int v2, .int 1, .ref o0]) (rest := []) ⟨hx, hb, hml, hown, hts⟩ (kx_L_side_3 l hst dC dI ge5 gea gv5 gva gde gic gi0 x0 o0 x1 x2 x45 x53 x55 x57 H.size v1 v1_l v1_u v2 v2_l v2_u) (vx_cwSW 5 hts gL_law_L_side rfl rfl rfl (by decide +kernel) ⟨Nat.le_of_ble_eq_true rfl, Nat.le_of_ble_eq_true rfl⟩) ⟨fun a U g mk q => by obtain ⟨q0, q1, qP, qK, qD, qG⟩ := q; exact ⟨q0, q1, qP, va_K.moved (u := U) (U := U.calling g mk a) (Vm.Alike.refl U.vm) qK, qD, gv.fb qG⟩, fun U hU hW => ⟨rfl, by rw [hU], by rw [hU]; exact hPc, va_K.moved hW.alike hKc, hDc.weaken (fun _ _ _ _ => trivial), gv.pass hW hU hS hFc hG⟩⟩ rfl rfl hl.1 rfl (lv_room (Nat.le_of_ble_eq_true rfl)) dL_law_1266 ⟨Nat.le_of_ble_eq_true rfl, Nat.le_of_ble_eq_true rfl⟩) hS (fun q _ h => hFc q h) hFc (fun r9 u t H1 locs ht hvm hw hB hz1 hk1 hS => ?_)
  obtain rfl := hw
  obtain ⟨hP1, hK1, hD1⟩ := hB
  rw [ht] at hP1
  have hK1 := va_K.moved hvm.symm hK1
  obtain ⟨hP, hD⟩ := va_join (wr := [(m0, .inr (9, [.int 0, .ref m1, .ref m2, .ref m3, .int 0, .int 0, .int 0]))]) (w1 := [(x0, .inr (7, [.ref x1, .ref x2, .ref x45, .ref x53, .ref x55, .ref x57, .int 0, .int 0, .int 0]))]) hP hD [0] [1] rfl rfl (by decide) (by decide) hk1 hFc hP1 hD1
  generalize H1 = H at hP hS ⊢
  have hP : va_P (dC, dI) vwCl [(m0, .inr (9, [.int 0, .ref m1, .ref m2, .ref m3, .int 0, .int 0, .int 0])), (x0, .inr (7, [.ref x1, .ref x2, .ref x45, .ref x53, .ref x55, .ref x57, .int 0, .int 0, .int 0]))] H := hP
  have hD : va_D A [(m0, .inr (9, [.int 0, .ref m1, .ref m2, .ref m3, .int 0, .int 0, .int 0])), (x0, .inr (7, [.ref x1, .ref x2, .ref x45, .ref x53, .ref x55, .ref x57, .int 0, .int 0, .int 0]))] := hD
  refine W.widen (k := 73) (n := 2754) (by omega) (by omega) ?_
  refine lv_istore (lv' := [(5, .int 1), (4, .int 0), (3, .ref o0), (2, .ref m0), (1, .ref x0), (0, .ref b)]) hx hb dL_law_1269 hl (by decide) rfl (fun ls hl => ?_)
  refine lv_aload_n hx hb dL_law_1271 rfl (lv_at hl 3 rfl) ?_
  refine lv_aload_n hx hb dL_law_1272 rfl (lv_at hl 5 rfl) ?_
  refine lv_iload hx hb dL_law_1273 (lv_at hl 1 rfl) ?_
  refine lv_iconst (v := 1) hx hb dL_law_1275 (by decide) ?_
  refine lv_iadd hx hb dL_law_1276 ?_
  refine lv_topi (fun y4 ey4 => ?_)
  obtain rfl : y4 = 1 := ey4.trans (by decide)
  refine va_sld hx hb hX hbl hbA hS (by unfold vp_in; decide) dL_law_1277 ?_
  rw [show xs (Int32.toNatClampNeg 1) = v1 from hx1]
  refine lv_aload_n hx hb dL_law_1278 rfl (lv_at hl 5 rfl) ?_
  refine lv_iload hx hb dL_law_1279 (lv_at hl 1 rfl) ?_
  refine lv_iconst (v := 2) hx hb dL_law_1281 (by decide) ?_
  refine lv_iadd hx hb dL_law_1282 ?_
  refine lv_topi (fun y5 ey5 => ?_)
  obtain rfl : y5 = 2 := ey5.trans (by decide)
  refine va_sld hx hb hX hbl hbA hS (by unfold vp_in; decide) dL_law_1283 ?_
  rw [show xs (Int32.toNatClampNeg 2) = v2 from hx2]
  refine lv_aload_n hx hb dL_law_1284 rfl (lv_at hl 5 rfl) ?_
  refine lv_iload hx hb dL_law_1285 (lv_at hl 1 rfl) ?_
  refine lv_iconst (v := 3) hx hb dL_law_1287 (by decide) ?_
  refine lv_iadd hx hb dL_law_1288 ?_
  refine lv_topi (fun y6 ey6 => ?_)
  obtain rfl : y6 = 3 := ey6.trans (by decide)
  refine va_sld hx hb hX hbl hbA hS (by unfold vp_in; decide) dL_law_1289 ?_
  rw [show xs (Int32.toNatClampNeg 3) = v3 from hx3]
  refine lv_if_eq (tgt := 1297) hx hb dL_law_1290 (by decide) (fun c9 => absurd c9 (fun c8 => absurd (congrArg Int32.toInt c8) (by rw [show (0 : Int32).toInt = 0 from by decide]; omega))) (fun _ => ?_)
  refine lv_iconst (v := 1) hx hb dL_law_1293 (by decide) ?_
  refine lv_goto (tgt := 1298) hx hb dL_law_1294 (by decide) ?_
  have hPc := hP.sub (ws' := [(m0, .inr (9, [.int 0, .ref m1, .ref m2, .ref m3, .int 0, .int 0, .int 0]))]) [0] rfl
  have hDc := hD.sub (ws' := [(m0, .inr (9, [.int 0, .ref m1, .ref m2, .ref m3, .int 0, .int 0, .int 0]))]) [0] (by decide) rfl
  have hKc := hK.sub (tys' := []) [] rfl
  have hFc := va_free (wc := [(m0, .inr (9, [.int 0, .ref m1, .ref m2, .ref m3, .int 0, .int 0, .int 0]))]) hD hS hA [0] rfl
  refine va_calli (va_runV (As := [.int v1, .int v2, .int 1]) (rest := []) ⟨hx, hb, hml, hown, hts⟩ (kx_X5_side_3 l dC dI m0 m1 m2 m3 H.size v1 v1_l v1_u v2 v2_l v2_u) (cwV 3 hts gL_law_X5_side rfl rfl rfl (by decide +kernel) ⟨Nat.le_of_ble_eq_true rfl, Nat.le_of_ble_eq_true rfl⟩) ⟨fun a U g mk q => by obtain ⟨q0, q1, qP, qK, qD⟩ := q; exact ⟨q0, q1, qP, va_K.moved (u := U) (U := U.calling g mk a) (Vm.Alike.refl U.vm) qK, qD⟩, va_recv hKc hPc (ci := 9) (q0 := 0) rfl rfl, fun U hU hW => ⟨rfl, by rw [hU], by rw [hU]; exact hPc, va_K.moved hW.alike hKc, hDc.weaken (fun _ _ _ _ => trivial)⟩⟩ rfl rfl hl.1 rfl (lv_room (Nat.le_of_ble_eq_true rfl)) dL_law_1298 ⟨Nat.le_of_ble_eq_true rfl, Nat.le_of_ble_eq_true rfl⟩) hS (fun q _ h => hFc q h) hFc (fun r9 u t H1 locs ht hvm hw hB hz1 hk1 hS => ?_)
  obtain rfl := hw
  obtain ⟨hP1, hK1, hD1⟩ := hB
  rw [ht] at hP1
  have hK1 := va_K.moved hvm.symm hK1
  obtain ⟨hP, hD⟩ := va_join (wr := [(x0, .inr (7, [.ref x1, .ref x2, .ref x45, .ref x53, .ref x55, .ref x57, .int 0, .int 0, .int 0]))]) (w1 := [(m0, .inr (9, [.int 1, .ref m1, .ref m2, .ref m3, .int 0, .int 0, .int 0]))]) hP hD [0] [1] rfl rfl (by decide) (by decide) hk1 hFc hP1 hD1
  generalize H1 = H at hP hS ⊢
  have hP : va_P (dC, dI) vwCl [(x0, .inr (7, [.ref x1, .ref x2, .ref x45, .ref x53, .ref x55, .ref x57, .int 0, .int 0, .int 0])), (m0, .inr (9, [.int 1, .ref m1, .ref m2, .ref m3, .int 0, .int 0, .int 0]))] H := hP
  have hD : va_D A [(x0, .inr (7, [.ref x1, .ref x2, .ref x45, .ref x53, .ref x55, .ref x57, .int 0, .int 0, .int 0])), (m0, .inr (9, [.int 1, .ref m1, .ref m2, .ref m3, .int 0, .int 0, .int 0]))] := hD
  refine lv_istore (lv' := [(6, .int 0), (5, .int 1), (4, .int 0), (3, .ref o0), (2, .ref m0), (1, .ref x0), (0, .ref b)]) hx hb dL_law_1301 hl (by decide) rfl (fun ls hl => ?_)
  refine lv_aload_n hx hb dL_law_1303 rfl (lv_at hl 4 rfl) ?_
  have hPc := hP.sub (ws' := [(m0, .inr (9, [.int 1, .ref m1, .ref m2, .ref m3, .int 0, .int 0, .int 0]))]) [1] rfl
  have hDc := hD.sub (ws' := [(m0, .inr (9, [.int 1, .ref m1, .ref m2, .ref m3, .int 0, .int 0, .int 0]))]) [1] (by decide) rfl
  have hKc := hK.sub (tys' := []) [] rfl
  have hFc := va_free (wc := [(m0, .inr (9, [.int 1, .ref m1, .ref m2, .ref m3, .int 0, .int 0, .int 0]))]) hD hS hA [1] rfl
  refine va_calli (va_runV (As := []) (rest := []) ⟨hx, hb, hml, hown, hts⟩ (kx_X5_thrown_0 l dC dI m0 m1 m2 m3 H.size) (cwV 0 hts gL_law_X5_thrown rfl rfl rfl (by decide +kernel) ⟨Nat.le_of_ble_eq_true rfl, Nat.le_of_ble_eq_true rfl⟩) ⟨fun a U g mk q => by obtain ⟨q0, q1, qP, qK, qD⟩ := q; exact ⟨q0, q1, qP, va_K.moved (u := U) (U := U.calling g mk a) (Vm.Alike.refl U.vm) qK, qD⟩, va_recv hKc hPc (ci := 9) (q0 := 0) rfl rfl, fun U hU hW => ⟨rfl, by rw [hU], by rw [hU]; exact hPc, va_K.moved hW.alike hKc, hDc.weaken (fun _ _ _ _ => trivial)⟩⟩ rfl rfl hl.1 rfl (lv_room (Nat.le_of_ble_eq_true rfl)) dL_law_1304 ⟨Nat.le_of_ble_eq_true rfl, Nat.le_of_ble_eq_true rfl⟩) hS (fun q _ h => hFc q h) hFc (fun r9 u t H1 locs ht hvm hw hB hz1 hk1 hS => ?_)
  obtain rfl := hw
  obtain ⟨hP1, hK1, hD1⟩ := hB
  rw [ht] at hP1
  have hK1 := va_K.moved hvm.symm hK1
  obtain ⟨hP, hD⟩ := va_join (wr := [(x0, .inr (7, [.ref x1, .ref x2, .ref x45, .ref x53, .ref x55, .ref x57, .int 0, .int 0, .int 0]))]) (w1 := [(m0, .inr (9, [.int 1, .ref m1, .ref m2, .ref m3, .int 0, .int 0, .int 0]))]) hP hD [1] [0] rfl rfl (by decide) (by decide) hk1 hFc hP1 hD1
  generalize H1 = H at hP hS ⊢
  have hP : va_P (dC, dI) vwCl [(x0, .inr (7, [.ref x1, .ref x2, .ref x45, .ref x53, .ref x55, .ref x57, .int 0, .int 0, .int 0])), (m0, .inr (9, [.int 1, .ref m1, .ref m2, .ref m3, .int 0, .int 0, .int 0]))] H := hP
  have hD : va_D A [(x0, .inr (7, [.ref x1, .ref x2, .ref x45, .ref x53, .ref x55, .ref x57, .int 0, .int 0, .int 0])), (m0, .inr (9, [.int 1, .ref m1, .ref m2, .ref m3, .int 0, .int 0, .int 0]))] := hD
  refine lv_iload hx hb dL_law_1307 (lv_at hl 1 rfl) ?_
  refine lv_icmp_eq (tgt := 1314) hx hb dL_law_1309 (by decide) (fun _ => ?_) (fun c9 => absurd (by decide) c9)
  refine lv_iload hx hb dL_law_1314 (lv_at hl 1 rfl) ?_
  refine lv_if_ne (tgt := 1332) hx hb dL_law_1316 (by decide) (fun _ => ?_) (fun c9 => absurd c9 (by decide))
  refine lv_goto (tgt := 2342) hx hb dL_law_1332 (by decide) ?_
  refine lv_iinc (v := 7) (lv' := [(4, .int 7), (6, .int 0), (5, .int 1), (3, .ref o0), (2, .ref m0), (1, .ref x0), (0, .ref b)]) hx hb dL_law_2342 hl (k := 2) rfl (by decide) (by decide) rfl (fun ls hl => ?_)
  refine lv_goto (tgt := 27) hx hb dL_law_2345 (by decide) ?_
  refine lv_iload hx hb dL_law_27 (lv_at hl 0 rfl) ?_
  refine lv_aload_n hx hb dL_law_29 rfl (lv_at hl 6 rfl) ?_
  refine va_slen hx hb hX hbl hbA hS dL_law_30 ?_
  refine lv_topi (fun y7 ey7 => ?_)
  obtain rfl : y7 = 7 := ey7.trans (by decide)
  refine lv_bipush (v := 7) hx hb dL_law_31 (by decide) ?_
  refine lv_isub hx hb dL_law_33 ?_
  refine lv_topi (fun y8 ey8 => ?_)
  obtain rfl : y8 = 0 := ey8.trans (by decide)
  refine lv_icmp_gt (tgt := 2348) hx hb dL_law_34 (by decide) (fun _ => ?_) (fun c9 => absurd (by decide) c9)
  refine lv_iconst (v := 1) hx hb dL_law_2348 (by decide) ?_
  refine va_forget (fun q hq => (by have h := hS.2.2 q hq; rw [hAe] at h; exact h)) ?_
  refine W.widen (k := 600002) (n := 7302232) (Nat.le_of_ble_eq_true rfl) (Nat.le_of_ble_eq_true rfl) ?_
  exact lw_ret hx hb hr hlocks dL_law_2349
set_option maxHeartbeats 4000000 in
set_option maxRecDepth 100000 in
theorem lc_side_6 {p : Program} {e : Env} {s : State} {m : MethodId} {below : List Frame} {meth : Method} {c : Code} {l : Launch} (hst : l.stackTraces = false) {b : Nat} {xs : Nat → Int32} (C9 : lx_At p s m meth c b xs) {dC : Nat → ClassId} {dI : Nat → Nat → Nat} {ge5 gea gv5 gva gde gic gi0 : Nat} {x0 m0 m2 x1 x2 x45 x53 x55 x57 m1 m3 o0 : Nat} (hG : gv ge5 gea gv5 gva gde gic gi0 (fun q => s.heap.size ≤ q) s s.heap) {v1 : Int32} (v1_l : (0 : Int) ≤ v1.toInt) (v1_u : v1.toInt ≤ (3 : Int)) {v2 : Int32} (v2_l : ((-2147483648) : Int) ≤ v2.toInt) (v2_u : v2.toInt ≤ ((-1) : Int)) (hx1 : xs 1 = v1) (hx2 : xs 2 = v2) (hx3 : xs 3 = 0) {H : Heap} {locs : List Loc} (hK : va_K (dC, dI) vwCl [] s) (hP : va_P (dC, dI) vwCl [(x0, .inr (7, [.ref x1, .ref x2, .ref x45, .ref x53, .ref x55, .ref x57, .int 0, .int 0, .int 0])), (m0, .inr (9, [.int 0, .ref m1, .ref m2, .ref m3, .int 0, .int 0, .int 0])), (m2, .inr (3, [.int 0, .ref gde, .int 0]))] H) (hD : va_D (fun q => s.heap.size ≤ q) [(x0, .inr (7, [.ref x1, .ref x2, .ref x45, .ref x53, .ref x55, .ref x57, .int 0, .int 0, .int 0])), (m0, .inr (9, [.int 0, .ref m1, .ref m2, .ref m3, .int 0, .int 0, .int 0])), (m2, .inr (3, [.int 0, .ref gde, .int 0]))]) (hS : va_S (fun q => s.heap.size ≤ q) s.heap H locs) {ls : Array Slot} (hl : lv_has ls 7 [(4, .int 0), (3, .ref o0), (2, .ref m0), (1, .ref x0), (0, .ref b)]) : W p l e room_1 s m #[Value.ref b] below meth c H locs 72 2748 (lw_Z below #[Value.ref b] s) (F0 m 1238 ls []) := by
  obtain ⟨hx, hb, hr, hml, hown, hts, hX, hbl, hlocks⟩ := id C9
  have hA : ∀ q : Nat, s.heap.size ≤ q → (fun q : Nat => s.heap.size ≤ q) q := fun _ h => h
  have hbA : ¬ (fun q : Nat => s.heap.size ≤ q) b := Nat.not_le.mpr hbl
  obtain ⟨A, hAe⟩ : ∃ A : Nat → Prop, A = (fun q : Nat => s.heap.size ≤ q) := ⟨_, rfl⟩
  rw [← hAe] at hG hD hS hA hbA
  obtain ⟨⟨g_AO_Text, g_AO_String, g_AO_Object, g_nm_RX1_20, g_nm_RX0_17, g_nm_RX3_31, g_nm_RX2_44, g_nm_RL_121, g_nf_RL_13, g_nf_RL_47, g_ca_IO, g_ca_IA, g_ca_IS, g_ca_IntObj, g_ca_StrObj, g_de_RT, g_de_EX, g_de_TH, g_nc_IA_IO, g_nc_IS_IO, g_nc_IS_IA⟩, ⟨g_s3, g_s5, g_sa, g_x278, g_x280, g_x282, g_x284, g_x286, g_x180, g_x238, g_x250⟩, ⟨g_o5, g_c5, g_v5, g_t5, g_oa, g_ca, g_va, g_ta, g_zc, g_zd, g_td, g_zf, g_zU, g_zN, g_zh, g_zk, g_tk, g_oi, g_vi⟩⟩ := id hG
  refine lv_aload_n hx hb dL_law_1238 rfl (lv_at hl 3 rfl) ?_
  refine lv_aload_n hx hb dL_law_1239 rfl (lv_at hl 4 rfl) ?_
  refine lv_iload hx hb dL_law_1240 (lv_at hl 0 rfl) ?_
  refine lv_iconst (v := 1) hx hb dL_law_1242 (by decide) ?_
  refine lv_iadd hx hb dL_law_1243 ?_
  refine lv_topi (fun y1 ey1 => ?_)
  obtain rfl : y1 = 1 := ey1.trans (by decide)
  refine va_sld hx hb hX hbl hbA hS (by unfold vp_in; decide) dL_law_1244 ?_
  rw [show xs (Int32.toNatClampNeg 1) = v1 from hx1]
  refine lv_aload_n hx hb dL_law_1245 rfl (lv_at hl 4 rfl) ?_
  refine lv_iload hx hb dL_law_1246 (lv_at hl 0 rfl) ?_
  refine lv_iconst (v := 2) hx hb dL_law_1248 (by decide) ?_
  refine lv_iadd hx hb dL_law_1249 ?_
  refine lv_topi (fun y2 ey2 => ?_)
  obtain rfl : y2 = 2 := ey2.trans (by decide)
  refine va_sld hx hb hX hbl hbA hS (by unfold vp_in; decide) dL_law_1250 ?_
  rw [show xs (Int32.toNatClampNeg 2) = v2 from hx2]
  refine lv_aload_n hx hb dL_law_1251 rfl (lv_at hl 4 rfl) ?_
  refine lv_iload hx hb dL_law_1252 (lv_at hl 0 rfl) ?_
  refine lv_iconst (v := 3) hx hb dL_law_1254 (by decide) ?_
  refine lv_iadd hx hb dL_law_1255 ?_
  refine lv_topi (fun y3 ey3 => ?_)
  obtain rfl : y3 = 3 := ey3.trans (by decide)
  refine va_sld hx hb hX hbl hbA hS (by unfold vp_in; decide) dL_law_1256 ?_
  rw [show xs (Int32.toNatClampNeg 3) = 0 from hx3]
  refine lv_if_eq (tgt := 1264) hx hb dL_law_1257 (by decide) (fun _ => ?_) (fun c9 => absurd (by decide) c9)
  refine lv_iconst (v := 0) hx hb dL_law_1264 (by decide) ?_
  refine lv_aload_n hx hb dL_law_1265 rfl (lv_at hl 1 rfl) ?_
  have hPc := hP.sub (ws' := [(x0, .inr (7, [.ref x1, .ref x2, .ref x45, .ref x53, .ref x55, .ref x57, .int 0, .int 0, .int 0]))]) [0] rfl
  have hDc := hD.sub (ws' := [(x0, .inr (7, [.ref x1, .ref x2, .ref x45, .ref x53, .ref x55, .ref x57, .int 0, .int 0, .int 0]))]) [0] (by decide) rfl
  have hKc := hK.sub (tys' := []) [] rfl
  have hFc := va_free (wc := [(x0, .inr (7, [.ref x1, .ref x2, .ref x45, .ref x53, .ref x55, .ref x57, .int 0, .int 0, .int 0]))]) hD hS hA [0] rfl
  refine va_calli (vx_runSW (As := [.ref x0, .int v1, .int v2, .int 0, .ref o0]) (rest := []) ⟨hx, hb, hml, hown, hts⟩ (kx_L_side_4 l hst dC dI ge5 gea gv5 gva gde gic gi0 x0 o0 x1 x2 x45 x53 x55 x57 H.size v1 v1_l v1_u v2 v2_l v2_u) (vx_cwSW 5 hts gL_law_L_side rfl rfl rfl (by decide +kernel) ⟨Nat.le_of_ble_eq_true rfl, Nat.le_of_ble_eq_true rfl⟩) ⟨fun a U g mk q => by obtain ⟨q0, q1, qP, qK, qD, qG⟩ := q; exact ⟨q0, q1, qP, va_K.moved (u := U) (U := U.calling g mk a) (Vm.Alike.refl U.vm) qK, qD, gv.fb qG⟩, fun U hU hW => ⟨rfl, by rw [hU], by rw [hU]; exact hPc, va_K.moved hW.alike hKc, hDc.weaken (fun _ _ _ _ => trivial), gv.pass hW hU hS hFc hG⟩⟩ rfl rfl hl.1 rfl (lv_room (Nat.le_of_ble_eq_true rfl)) dL_law_1266 ⟨Nat.le_of_ble_eq_true rfl, Nat.le_of_ble_eq_true rfl⟩) hS (fun q _ h => hFc q h) hFc (fun r9 u t H1 locs ht hvm hw hB hz1 hk1 hS => ?_)
  obtain rfl := hw
  obtain ⟨hP1, hK1, hD1⟩ := hB
  rw [ht] at hP1
  have hK1 := va_K.moved hvm.symm hK1
  obtain ⟨hP, hD⟩ := va_join (wr := [(m0, .inr (9, [.int 0, .ref m1, .ref m2, .ref m3, .int 0, .int 0, .int 0])), (m2, .inr (3, [.int 0, .ref gde, .int 0]))]) (w1 := [(x0, .inr (7, [.ref x1, .ref x2, .ref x45, .ref x53, .ref x55, .ref x57, .int 0, .int 0, .int 0]))]) hP hD [0] [1, 2] rfl rfl (by decide) (by decide) hk1 hFc hP1 hD1
  generalize H1 = H at hP hS ⊢
  have hP : va_P (dC, dI) vwCl [(m0, .inr (9, [.int 0, .ref m1, .ref m2, .ref m3, .int 0, .int 0, .int 0])), (m2, .inr (3, [.int 0, .ref gde, .int 0])), (x0, .inr (7, [.ref x1, .ref x2, .ref x45, .ref x53, .ref x55, .ref x57, .int 0, .int 0, .int 0]))] H := hP
  have hD : va_D A [(m0, .inr (9, [.int 0, .ref m1, .ref m2, .ref m3, .int 0, .int 0, .int 0])), (m2, .inr (3, [.int 0, .ref gde, .int 0])), (x0, .inr (7, [.ref x1, .ref x2, .ref x45, .ref x53, .ref x55, .ref x57, .int 0, .int 0, .int 0]))] := hD
  refine W.widen (k := 73) (n := 2754) (by omega) (by omega) ?_
  refine lv_istore (lv' := [(5, .int 1), (4, .int 0), (3, .ref o0), (2, .ref m0), (1, .ref x0), (0, .ref b)]) hx hb dL_law_1269 hl (by decide) rfl (fun ls hl => ?_)
  refine lv_aload_n hx hb dL_law_1271 rfl (lv_at hl 3 rfl) ?_
  refine lv_aload_n hx hb dL_law_1272 rfl (lv_at hl 5 rfl) ?_
  refine lv_iload hx hb dL_law_1273 (lv_at hl 1 rfl) ?_
  refine lv_iconst (v := 1) hx hb dL_law_1275 (by decide) ?_
  refine lv_iadd hx hb dL_law_1276 ?_
  refine lv_topi (fun y4 ey4 => ?_)
  obtain rfl : y4 = 1 := ey4.trans (by decide)
  refine va_sld hx hb hX hbl hbA hS (by unfold vp_in; decide) dL_law_1277 ?_
  rw [show xs (Int32.toNatClampNeg 1) = v1 from hx1]
  refine lv_aload_n hx hb dL_law_1278 rfl (lv_at hl 5 rfl) ?_
  refine lv_iload hx hb dL_law_1279 (lv_at hl 1 rfl) ?_
  refine lv_iconst (v := 2) hx hb dL_law_1281 (by decide) ?_
  refine lv_iadd hx hb dL_law_1282 ?_
  refine lv_topi (fun y5 ey5 => ?_)
  obtain rfl : y5 = 2 := ey5.trans (by decide)
  refine va_sld hx hb hX hbl hbA hS (by unfold vp_in; decide) dL_law_1283 ?_
  rw [show xs (Int32.toNatClampNeg 2) = v2 from hx2]
  refine lv_aload_n hx hb dL_law_1284 rfl (lv_at hl 5 rfl) ?_
  refine lv_iload hx hb dL_law_1285 (lv_at hl 1 rfl) ?_
  refine lv_iconst (v := 3) hx hb dL_law_1287 (by decide) ?_
  refine lv_iadd hx hb dL_law_1288 ?_
  refine lv_topi (fun y6 ey6 => ?_)
  obtain rfl : y6 = 3 := ey6.trans (by decide)
  refine va_sld hx hb hX hbl hbA hS (by unfold vp_in; decide) dL_law_1289 ?_
  rw [show xs (Int32.toNatClampNeg 3) = 0 from hx3]
  refine lv_if_eq (tgt := 1297) hx hb dL_law_1290 (by decide) (fun _ => ?_) (fun c9 => absurd (by decide) c9)
  refine lv_iconst (v := 0) hx hb dL_law_1297 (by decide) ?_
  have hPc := hP.sub (ws' := [(m0, .inr (9, [.int 0, .ref m1, .ref m2, .ref m3, .int 0, .int 0, .int 0])), (m2, .inr (3, [.int 0, .ref gde, .int 0]))]) [0, 1] rfl
  have hDc := hD.sub (ws' := [(m0, .inr (9, [.int 0, .ref m1, .ref m2, .ref m3, .int 0, .int 0, .int 0])), (m2, .inr (3, [.int 0, .ref gde, .int 0]))]) [0, 1] (by decide) rfl
  have hKc := hK.sub (tys' := []) [] rfl
  have hFc := va_free (wc := [(m0, .inr (9, [.int 0, .ref m1, .ref m2, .ref m3, .int 0, .int 0, .int 0])), (m2, .inr (3, [.int 0, .ref gde, .int 0]))]) hD hS hA [0, 1] rfl
  refine va_calli (va_runV (As := [.int v1, .int v2, .int 0]) (rest := []) ⟨hx, hb, hml, hown, hts⟩ (kx_X5_side_4 l dC dI ge5 gea gv5 gva gde gic gi0 m0 m2 m1 m3 H.size v1 v1_l v1_u v2 v2_l v2_u) (cwV 3 hts gL_law_X5_side rfl rfl rfl (by decide +kernel) ⟨Nat.le_of_ble_eq_true rfl, Nat.le_of_ble_eq_true rfl⟩) ⟨fun a U g mk q => by obtain ⟨q0, q1, qP, qK, qD, qG⟩ := q; exact ⟨q0, q1, qP, va_K.moved (u := U) (U := U.calling g mk a) (Vm.Alike.refl U.vm) qK, qD, gv.fb qG⟩, va_recv hKc hPc (ci := 9) (q0 := 0) rfl rfl, fun U hU hW => ⟨rfl, by rw [hU], by rw [hU]; exact hPc, va_K.moved hW.alike hKc, hDc.weaken (fun _ _ _ _ => trivial), gv.pass hW hU hS hFc hG⟩⟩ rfl rfl hl.1 rfl (lv_room (Nat.le_of_ble_eq_true rfl)) dL_law_1298 ⟨Nat.le_of_ble_eq_true rfl, Nat.le_of_ble_eq_true rfl⟩) hS (fun q _ h => hFc q h) hFc (fun r9 u t H1 locs ht hvm hw hB hz1 hk1 hS => ?_)
  obtain rfl := hw
  obtain ⟨hP1, hK1, hD1⟩ := hB
  rw [ht] at hP1
  have hK1 := va_K.moved hvm.symm hK1
  obtain ⟨hP, hD⟩ := va_join (wr := [(x0, .inr (7, [.ref x1, .ref x2, .ref x45, .ref x53, .ref x55, .ref x57, .int 0, .int 0, .int 0]))]) (w1 := [(m0, .inr (9, [.int 1, .ref m1, .ref m2, .ref m3, .int 0, .int 0, .int 0]))]) hP hD [0, 1] [2] rfl rfl (by decide) (by decide) hk1 hFc hP1 hD1
  generalize H1 = H at hP hS ⊢
  have hP : va_P (dC, dI) vwCl [(x0, .inr (7, [.ref x1, .ref x2, .ref x45, .ref x53, .ref x55, .ref x57, .int 0, .int 0, .int 0])), (m0, .inr (9, [.int 1, .ref m1, .ref m2, .ref m3, .int 0, .int 0, .int 0]))] H := hP
  have hD : va_D A [(x0, .inr (7, [.ref x1, .ref x2, .ref x45, .ref x53, .ref x55, .ref x57, .int 0, .int 0, .int 0])), (m0, .inr (9, [.int 1, .ref m1, .ref m2, .ref m3, .int 0, .int 0, .int 0]))] := hD
  refine lv_istore (lv' := [(6, .int 0), (5, .int 1), (4, .int 0), (3, .ref o0), (2, .ref m0), (1, .ref x0), (0, .ref b)]) hx hb dL_law_1301 hl (by decide) rfl (fun ls hl => ?_)
  refine lv_aload_n hx hb dL_law_1303 rfl (lv_at hl 4 rfl) ?_
  have hPc := hP.sub (ws' := [(m0, .inr (9, [.int 1, .ref m1, .ref m2, .ref m3, .int 0, .int 0, .int 0]))]) [1] rfl
  have hDc := hD.sub (ws' := [(m0, .inr (9, [.int 1, .ref m1, .ref m2, .ref m3, .int 0, .int 0, .int 0]))]) [1] (by decide) rfl
  have hKc := hK.sub (tys' := []) [] rfl
  have hFc := va_free (wc := [(m0, .inr (9, [.int 1, .ref m1, .ref m2, .ref m3, .int 0, .int 0, .int 0]))]) hD hS hA [1] rfl
  refine va_calli (va_runV (As := []) (rest := []) ⟨hx, hb, hml, hown, hts⟩ (kx_X5_thrown_0 l dC dI m0 m1 m2 m3 H.size) (cwV 0 hts gL_law_X5_thrown rfl rfl rfl (by decide +kernel) ⟨Nat.le_of_ble_eq_true rfl, Nat.le_of_ble_eq_true rfl⟩) ⟨fun a U g mk q => by obtain ⟨q0, q1, qP, qK, qD⟩ := q; exact ⟨q0, q1, qP, va_K.moved (u := U) (U := U.calling g mk a) (Vm.Alike.refl U.vm) qK, qD⟩, va_recv hKc hPc (ci := 9) (q0 := 0) rfl rfl, fun U hU hW => ⟨rfl, by rw [hU], by rw [hU]; exact hPc, va_K.moved hW.alike hKc, hDc.weaken (fun _ _ _ _ => trivial)⟩⟩ rfl rfl hl.1 rfl (lv_room (Nat.le_of_ble_eq_true rfl)) dL_law_1304 ⟨Nat.le_of_ble_eq_true rfl, Nat.le_of_ble_eq_true rfl⟩) hS (fun q _ h => hFc q h) hFc (fun r9 u t H1 locs ht hvm hw hB hz1 hk1 hS => ?_)
  obtain rfl := hw
  obtain ⟨hP1, hK1, hD1⟩ := hB
  rw [ht] at hP1
  have hK1 := va_K.moved hvm.symm hK1
  obtain ⟨hP, hD⟩ := va_join (wr := [(x0, .inr (7, [.ref x1, .ref x2, .ref x45, .ref x53, .ref x55, .ref x57, .int 0, .int 0, .int 0]))]) (w1 := [(m0, .inr (9, [.int 1, .ref m1, .ref m2, .ref m3, .int 0, .int 0, .int 0]))]) hP hD [1] [0] rfl rfl (by decide) (by decide) hk1 hFc hP1 hD1
  generalize H1 = H at hP hS ⊢
  have hP : va_P (dC, dI) vwCl [(x0, .inr (7, [.ref x1, .ref x2, .ref x45, .ref x53, .ref x55, .ref x57, .int 0, .int 0, .int 0])), (m0, .inr (9, [.int 1, .ref m1, .ref m2, .ref m3, .int 0, .int 0, .int 0]))] H := hP
  have hD : va_D A [(x0, .inr (7, [.ref x1, .ref x2, .ref x45, .ref x53, .ref x55, .ref x57, .int 0, .int 0, .int 0])), (m0, .inr (9, [.int 1, .ref m1, .ref m2, .ref m3, .int 0, .int 0, .int 0]))] := hD
  refine lv_iload hx hb dL_law_1307 (lv_at hl 1 rfl) ?_
  refine lv_icmp_eq (tgt := 1314) hx hb dL_law_1309 (by decide) (fun _ => ?_) (fun c9 => absurd (by decide) c9)
  refine lv_iload hx hb dL_law_1314 (lv_at hl 1 rfl) ?_
  refine lv_if_ne (tgt := 1332) hx hb dL_law_1316 (by decide) (fun _ => ?_) (fun c9 => absurd c9 (by decide))
  refine lv_goto (tgt := 2342) hx hb dL_law_1332 (by decide) ?_
  refine lv_iinc (v := 7) (lv' := [(4, .int 7), (6, .int 0), (5, .int 1), (3, .ref o0), (2, .ref m0), (1, .ref x0), (0, .ref b)]) hx hb dL_law_2342 hl (k := 2) rfl (by decide) (by decide) rfl (fun ls hl => ?_)
  refine lv_goto (tgt := 27) hx hb dL_law_2345 (by decide) ?_
  refine lv_iload hx hb dL_law_27 (lv_at hl 0 rfl) ?_
  refine lv_aload_n hx hb dL_law_29 rfl (lv_at hl 6 rfl) ?_
  refine va_slen hx hb hX hbl hbA hS dL_law_30 ?_
  refine lv_topi (fun y7 ey7 => ?_)
  obtain rfl : y7 = 7 := ey7.trans (by decide)
  refine lv_bipush (v := 7) hx hb dL_law_31 (by decide) ?_
  refine lv_isub hx hb dL_law_33 ?_
  refine lv_topi (fun y8 ey8 => ?_)
  obtain rfl : y8 = 0 := ey8.trans (by decide)
  refine lv_icmp_gt (tgt := 2348) hx hb dL_law_34 (by decide) (fun _ => ?_) (fun c9 => absurd (by decide) c9)
  refine lv_iconst (v := 1) hx hb dL_law_2348 (by decide) ?_
  refine va_forget (fun q hq => (by have h := hS.2.2 q hq; rw [hAe] at h; exact h)) ?_
  refine W.widen (k := 600002) (n := 7302232) (Nat.le_of_ble_eq_true rfl) (Nat.le_of_ble_eq_true rfl) ?_
  exact lw_ret hx hb hr hlocks dL_law_2349
set_option maxHeartbeats 4000000 in
set_option maxRecDepth 100000 in
theorem lc_side_7 {p : Program} {e : Env} {s : State} {m : MethodId} {below : List Frame} {meth : Method} {c : Code} {l : Launch} (hst : l.stackTraces = false) {b : Nat} {xs : Nat → Int32} (C9 : lx_At p s m meth c b xs) {dC : Nat → ClassId} {dI : Nat → Nat → Nat} {ge5 gea gv5 gva gde gic gi0 : Nat} {x0 x2 m0 m2 x1 x45 x53 x55 x57 x3 x4 x5 x7 x9 x11 m1 m3 o0 : Nat} (hG : gv ge5 gea gv5 gva gde gic gi0 (fun q => s.heap.size ≤ q) s s.heap) {v1 : Int32} (v1_l : (0 : Int) ≤ v1.toInt) (v1_u : v1.toInt ≤ (3 : Int)) {v2 : Int32} (v2_l : (0 : Int) ≤ v2.toInt) (v2_u : v2.toInt ≤ (2147483647 : Int)) (hx1 : xs 1 = v1) (hx2 : xs 2 = v2) (hx3 : xs 3 = 0) {H : Heap} {locs : List Loc} (hK : va_K (dC, dI) vwCl [] s) (hP : va_P (dC, dI) vwCl [(x0, .inr (7, [.ref x1, .ref x2, .ref x45, .ref x53, .ref x55, .ref x57, .int 0, .int 0, .int 0])), (x2, .inr (5, [.ref x3, .ref x4, .ref x5, .ref x7, .ref x9, .ref x11, .int 0, .int 0])), (m0, .inr (9, [.int 0, .ref m1, .ref m2, .ref m3, .int 0, .int 0, .int 0])), (m2, .inr (3, [.int 0, .ref gde, .int 0]))] H) (hD : va_D (fun q => s.heap.size ≤ q) [(x0, .inr (7, [.ref x1, .ref x2, .ref x45, .ref x53, .ref x55, .ref x57, .int 0, .int 0, .int 0])), (x2, .inr (5, [.ref x3, .ref x4, .ref x5, .ref x7, .ref x9, .ref x11, .int 0, .int 0])), (m0, .inr (9, [.int 0, .ref m1, .ref m2, .ref m3, .int 0, .int 0, .int 0])), (m2, .inr (3, [.int 0, .ref gde, .int 0]))]) (hS : va_S (fun q => s.heap.size ≤ q) s.heap H locs) {ls : Array Slot} (hl : lv_has ls 7 [(4, .int 0), (3, .ref o0), (2, .ref m0), (1, .ref x0), (0, .ref b)]) : W p l e room_1 s m #[Value.ref b] below meth c H locs 72 2748 (lw_Z below #[Value.ref b] s) (F0 m 1238 ls []) := by
  obtain ⟨hx, hb, hr, hml, hown, hts, hX, hbl, hlocks⟩ := id C9
  have hA : ∀ q : Nat, s.heap.size ≤ q → (fun q : Nat => s.heap.size ≤ q) q := fun _ h => h
  have hbA : ¬ (fun q : Nat => s.heap.size ≤ q) b := Nat.not_le.mpr hbl
  obtain ⟨A, hAe⟩ : ∃ A : Nat → Prop, A = (fun q : Nat => s.heap.size ≤ q) := ⟨_, rfl⟩
  rw [← hAe] at hG hD hS hA hbA
  obtain ⟨⟨g_AO_Text, g_AO_String, g_AO_Object, g_nm_RX1_20, g_nm_RX0_17, g_nm_RX3_31, g_nm_RX2_44, g_nm_RL_121, g_nf_RL_13, g_nf_RL_47, g_ca_IO, g_ca_IA, g_ca_IS, g_ca_IntObj, g_ca_StrObj, g_de_RT, g_de_EX, g_de_TH, g_nc_IA_IO, g_nc_IS_IO, g_nc_IS_IA⟩, ⟨g_s3, g_s5, g_sa, g_x278, g_x280, g_x282, g_x284, g_x286, g_x180, g_x238, g_x250⟩, ⟨g_o5, g_c5, g_v5, g_t5, g_oa, g_ca, g_va, g_ta, g_zc, g_zd, g_td, g_zf, g_zU, g_zN, g_zh, g_zk, g_tk, g_oi, g_vi⟩⟩ := id hG
  refine lv_aload_n hx hb dL_law_1238 rfl (lv_at hl 3 rfl) ?_
  refine lv_aload_n hx hb dL_law_1239 rfl (lv_at hl 4 rfl) ?_
  refine lv_iload hx hb dL_law_1240 (lv_at hl 0 rfl) ?_
  refine lv_iconst (v := 1) hx hb dL_law_1242 (by decide) ?_
  refine lv_iadd hx hb dL_law_1243 ?_
  refine lv_topi (fun y1 ey1 => ?_)
  obtain rfl : y1 = 1 := ey1.trans (by decide)
  refine va_sld hx hb hX hbl hbA hS (by unfold vp_in; decide) dL_law_1244 ?_
  rw [show xs (Int32.toNatClampNeg 1) = v1 from hx1]
  refine lv_aload_n hx hb dL_law_1245 rfl (lv_at hl 4 rfl) ?_
  refine lv_iload hx hb dL_law_1246 (lv_at hl 0 rfl) ?_
  refine lv_iconst (v := 2) hx hb dL_law_1248 (by decide) ?_
  refine lv_iadd hx hb dL_law_1249 ?_
  refine lv_topi (fun y2 ey2 => ?_)
  obtain rfl : y2 = 2 := ey2.trans (by decide)
  refine va_sld hx hb hX hbl hbA hS (by unfold vp_in; decide) dL_law_1250 ?_
  rw [show xs (Int32.toNatClampNeg 2) = v2 from hx2]
  refine lv_aload_n hx hb dL_law_1251 rfl (lv_at hl 4 rfl) ?_
  refine lv_iload hx hb dL_law_1252 (lv_at hl 0 rfl) ?_
  refine lv_iconst (v := 3) hx hb dL_law_1254 (by decide) ?_
  refine lv_iadd hx hb dL_law_1255 ?_
  refine lv_topi (fun y3 ey3 => ?_)
  obtain rfl : y3 = 3 := ey3.trans (by decide)
  refine va_sld hx hb hX hbl hbA hS (by unfold vp_in; decide) dL_law_1256 ?_
  rw [show xs (Int32.toNatClampNeg 3) = 0 from hx3]
  refine lv_if_eq (tgt := 1264) hx hb dL_law_1257 (by decide) (fun _ => ?_) (fun c9 => absurd (by decide) c9)
  refine lv_iconst (v := 0) hx hb dL_law_1264 (by decide) ?_
  refine lv_aload_n hx hb dL_law_1265 rfl (lv_at hl 1 rfl) ?_
  have hPc := hP.sub (ws' := [(x0, .inr (7, [.ref x1, .ref x2, .ref x45, .ref x53, .ref x55, .ref x57, .int 0, .int 0, .int 0])), (x2, .inr (5, [.ref x3, .ref x4, .ref x5, .ref x7, .ref x9, .ref x11, .int 0, .int 0]))]) [0, 1] rfl
  have hDc := hD.sub (ws' := [(x0, .inr (7, [.ref x1, .ref x2, .ref x45, .ref x53, .ref x55, .ref x57, .int 0, .int 0, .int 0])), (x2, .inr (5, [.ref x3, .ref x4, .ref x5, .ref x7, .ref x9, .ref x11, .int 0, .int 0]))]) [0, 1] (by decide) rfl
  have hKc := hK.sub (tys' := []) [] rfl
  have hFc := va_free (wc := [(x0, .inr (7, [.ref x1, .ref x2, .ref x45, .ref x53, .ref x55, .ref x57, .int 0, .int 0, .int 0])), (x2, .inr (5, [.ref x3, .ref x4, .ref x5, .ref x7, .ref x9, .ref x11, .int 0, .int 0]))]) hD hS hA [0, 1] rfl
  refine va_calli (vx_runSW (As := [.ref x0, .int v1, .int v2, .int 0, .ref o0]) (rest := []) ⟨hx, hb, hml, hown, hts⟩ (kx_L_side_5 l hst dC dI ge5 gea gv5 gva gde gic gi0 x0 x2 o0 x1 x45 x53 x55 x57 x3 x4 x5 x7 x9 x11 H.size v1 v1_l v1_u v2 v2_l v2_u) (vx_cwSW 5 hts gL_law_L_side rfl rfl rfl (by decide +kernel) ⟨Nat.le_of_ble_eq_true rfl, Nat.le_of_ble_eq_true rfl⟩) ⟨fun a U g mk q => by obtain ⟨q0, q1, qP, qK, qD, qG⟩ := q; exact ⟨q0, q1, qP, va_K.moved (u := U) (U := U.calling g mk a) (Vm.Alike.refl U.vm) qK, qD, gv.fb qG⟩, fun U hU hW => ⟨rfl, by rw [hU], by rw [hU]; exact hPc, va_K.moved hW.alike hKc, hDc.weaken (fun _ _ _ _ => trivial), gv.pass hW hU hS hFc hG⟩⟩ rfl rfl hl.1 rfl (lv_room (Nat.le_of_ble_eq_true rfl)) dL_law_1266 ⟨Nat.le_of_ble_eq_true rfl, Nat.le_of_ble_eq_true rfl⟩) hS (fun q _ h => hFc q h) hFc (fun r9 u t H1 locs ht hvm hw hB hz1 hk1 hS => ?_)
  obtain rfl := hw
  obtain ⟨hP1, hK1, hD1⟩ := hB
  rw [ht] at hP1
  have hK1 := va_K.moved hvm.symm hK1
  obtain ⟨hP, hD⟩ := va_join (wr := [(m0, .inr (9, [.int 0, .ref m1, .ref m2, .ref m3, .int 0, .int 0, .int 0])), (m2, .inr (3, [.int 0, .ref gde, .int 0]))]) (w1 := [(x0, .inr (7, [.ref x1, .ref x2, .ref x45, .ref x53, .ref x55, .ref x57, .int 0, .int 0, .int 0])), (x2, .inr (5, [.ref x3, .ref x4, .ref x5, .ref x7, .ref x9, .ref x11, .int 0, .int 0]))]) hP hD [0, 1] [2, 3] rfl rfl (by decide) (by decide) hk1 hFc hP1 hD1
  generalize H1 = H at hP hS ⊢
  have hP : va_P (dC, dI) vwCl [(m0, .inr (9, [.int 0, .ref m1, .ref m2, .ref m3, .int 0, .int 0, .int 0])), (m2, .inr (3, [.int 0, .ref gde, .int 0])), (x0, .inr (7, [.ref x1, .ref x2, .ref x45, .ref x53, .ref x55, .ref x57, .int 0, .int 0, .int 0])), (x2, .inr (5, [.ref x3, .ref x4, .ref x5, .ref x7, .ref x9, .ref x11, .int 0, .int 0]))] H := hP
  have hD : va_D A [(m0, .inr (9, [.int 0, .ref m1, .ref m2, .ref m3, .int 0, .int 0, .int 0])), (m2, .inr (3, [.int 0, .ref gde, .int 0])), (x0, .inr (7, [.ref x1, .ref x2, .ref x45, .ref x53, .ref x55, .ref x57, .int 0, .int 0, .int 0])), (x2, .inr (5, [.ref x3, .ref x4, .ref x5, .ref x7, .ref x9, .ref x11, .int 0, .int 0]))] := hD
  refine W.widen (k := 73) (n := 2754) (by omega) (by omega) ?_
  refine lv_istore (lv' := [(5, .int 1), (4, .int 0), (3, .ref o0), (2, .ref m0), (1, .ref x0), (0, .ref b)]) hx hb dL_law_1269 hl (by decide) rfl (fun ls hl => ?_)
  refine lv_aload_n hx hb dL_law_1271 rfl (lv_at hl 3 rfl) ?_
  refine lv_aload_n hx hb dL_law_1272 rfl (lv_at hl 5 rfl) ?_
  refine lv_iload hx hb dL_law_1273 (lv_at hl 1 rfl) ?_
  refine lv_iconst (v := 1) hx hb dL_law_1275 (by decide) ?_
  refine lv_iadd hx hb dL_law_1276 ?_
  refine lv_topi (fun y4 ey4 => ?_)
  obtain rfl : y4 = 1 := ey4.trans (by decide)
  refine va_sld hx hb hX hbl hbA hS (by unfold vp_in; decide) dL_law_1277 ?_
  rw [show xs (Int32.toNatClampNeg 1) = v1 from hx1]
  refine lv_aload_n hx hb dL_law_1278 rfl (lv_at hl 5 rfl) ?_
  refine lv_iload hx hb dL_law_1279 (lv_at hl 1 rfl) ?_
  refine lv_iconst (v := 2) hx hb dL_law_1281 (by decide) ?_
  refine lv_iadd hx hb dL_law_1282 ?_
  refine lv_topi (fun y5 ey5 => ?_)
  obtain rfl : y5 = 2 := ey5.trans (by decide)
  refine va_sld hx hb hX hbl hbA hS (by unfold vp_in; decide) dL_law_1283 ?_
  rw [show xs (Int32.toNatClampNeg 2) = v2 from hx2]
  refine lv_aload_n hx hb dL_law_1284 rfl (lv_at hl 5 rfl) ?_
  refine lv_iload hx hb dL_law_1285 (lv_at hl 1 rfl) ?_
  refine lv_iconst (v := 3) hx hb dL_law_1287 (by decide) ?_
  refine lv_iadd hx hb dL_law_1288 ?_
  refine lv_topi (fun y6 ey6 => ?_)
  obtain rfl : y6 = 3 := ey6.trans (by decide)
  refine va_sld hx hb hX hbl hbA hS (by unfold vp_in; decide) dL_law_1289 ?_
  rw [show xs (Int32.toNatClampNeg 3) = 0 from hx3]
  refine lv_if_eq (tgt := 1297) hx hb dL_law_1290 (by decide) (fun _ => ?_) (fun c9 => absurd (by decide) c9)
  refine lv_iconst (v := 0) hx hb dL_law_1297 (by decide) ?_
  have hPc := hP.sub (ws' := [(m0, .inr (9, [.int 0, .ref m1, .ref m2, .ref m3, .int 0, .int 0, .int 0])), (m2, .inr (3, [.int 0, .ref gde, .int 0]))]) [0, 1] rfl
  have hDc := hD.sub (ws' := [(m0, .inr (9, [.int 0, .ref m1, .ref m2, .ref m3, .int 0, .int 0, .int 0])), (m2, .inr (3, [.int 0, .ref gde, .int 0]))]) [0, 1] (by decide) rfl
  have hKc := hK.sub (tys' := []) [] rfl
  have hFc := va_free (wc := [(m0, .inr (9, [.int 0, .ref m1, .ref m2, .ref m3, .int 0, .int 0, .int 0])), (m2, .inr (3, [.int 0, .ref gde, .int 0]))]) hD hS hA [0, 1] rfl
  refine va_calli (va_runV (As := [.int v1, .int v2, .int 0]) (rest := []) ⟨hx, hb, hml, hown, hts⟩ (kx_X5_side_5 l dC dI ge5 gea gv5 gva gde gic gi0 m0 m2 m1 m3 H.size v1 v1_l v1_u v2 v2_l v2_u) (cwV 3 hts gL_law_X5_side rfl rfl rfl (by decide +kernel) ⟨Nat.le_of_ble_eq_true rfl, Nat.le_of_ble_eq_true rfl⟩) ⟨fun a U g mk q => by obtain ⟨q0, q1, qP, qK, qD, qG⟩ := q; exact ⟨q0, q1, qP, va_K.moved (u := U) (U := U.calling g mk a) (Vm.Alike.refl U.vm) qK, qD, gv.fb qG⟩, va_recv hKc hPc (ci := 9) (q0 := 0) rfl rfl, fun U hU hW => ⟨rfl, by rw [hU], by rw [hU]; exact hPc, va_K.moved hW.alike hKc, hDc.weaken (fun _ _ _ _ => trivial), gv.pass hW hU hS hFc hG⟩⟩ rfl rfl hl.1 rfl (lv_room (Nat.le_of_ble_eq_true rfl)) dL_law_1298 ⟨Nat.le_of_ble_eq_true rfl, Nat.le_of_ble_eq_true rfl⟩) hS (fun q _ h => hFc q h) hFc (fun r9 u t H1 locs ht hvm hw hB hz1 hk1 hS => ?_)
  obtain rfl := hw
  obtain ⟨hP1, hK1, hD1⟩ := hB
  rw [ht] at hP1
  have hK1 := va_K.moved hvm.symm hK1
  obtain ⟨hP, hD⟩ := va_join (wr := [(x0, .inr (7, [.ref x1, .ref x2, .ref x45, .ref x53, .ref x55, .ref x57, .int 0, .int 0, .int 0])), (x2, .inr (5, [.ref x3, .ref x4, .ref x5, .ref x7, .ref x9, .ref x11, .int 0, .int 0]))]) (w1 := [(m0, .inr (9, [.int 1, .ref m1, .ref m2, .ref m3, .int 0, .int 0, .int 0]))]) hP hD [0, 1] [2, 3] rfl rfl (by decide) (by decide) hk1 hFc hP1 hD1
  generalize H1 = H at hP hS ⊢
  have hP : va_P (dC, dI) vwCl [(x0, .inr (7, [.ref x1, .ref x2, .ref x45, .ref x53, .ref x55, .ref x57, .int 0, .int 0, .int 0])), (x2, .inr (5, [.ref x3, .ref x4, .ref x5, .ref x7, .ref x9, .ref x11, .int 0, .int 0])), (m0, .inr (9, [.int 1, .ref m1, .ref m2, .ref m3, .int 0, .int 0, .int 0]))] H := hP
  have hD : va_D A [(x0, .inr (7, [.ref x1, .ref x2, .ref x45, .ref x53, .ref x55, .ref x57, .int 0, .int 0, .int 0])), (x2, .inr (5, [.ref x3, .ref x4, .ref x5, .ref x7, .ref x9, .ref x11, .int 0, .int 0])), (m0, .inr (9, [.int 1, .ref m1, .ref m2, .ref m3, .int 0, .int 0, .int 0]))] := hD
  refine lv_istore (lv' := [(6, .int 0), (5, .int 1), (4, .int 0), (3, .ref o0), (2, .ref m0), (1, .ref x0), (0, .ref b)]) hx hb dL_law_1301 hl (by decide) rfl (fun ls hl => ?_)
  refine lv_aload_n hx hb dL_law_1303 rfl (lv_at hl 4 rfl) ?_
  have hPc := hP.sub (ws' := [(m0, .inr (9, [.int 1, .ref m1, .ref m2, .ref m3, .int 0, .int 0, .int 0]))]) [2] rfl
  have hDc := hD.sub (ws' := [(m0, .inr (9, [.int 1, .ref m1, .ref m2, .ref m3, .int 0, .int 0, .int 0]))]) [2] (by decide) rfl
  have hKc := hK.sub (tys' := []) [] rfl
  have hFc := va_free (wc := [(m0, .inr (9, [.int 1, .ref m1, .ref m2, .ref m3, .int 0, .int 0, .int 0]))]) hD hS hA [2] rfl
  refine va_calli (va_runV (As := []) (rest := []) ⟨hx, hb, hml, hown, hts⟩ (kx_X5_thrown_0 l dC dI m0 m1 m2 m3 H.size) (cwV 0 hts gL_law_X5_thrown rfl rfl rfl (by decide +kernel) ⟨Nat.le_of_ble_eq_true rfl, Nat.le_of_ble_eq_true rfl⟩) ⟨fun a U g mk q => by obtain ⟨q0, q1, qP, qK, qD⟩ := q; exact ⟨q0, q1, qP, va_K.moved (u := U) (U := U.calling g mk a) (Vm.Alike.refl U.vm) qK, qD⟩, va_recv hKc hPc (ci := 9) (q0 := 0) rfl rfl, fun U hU hW => ⟨rfl, by rw [hU], by rw [hU]; exact hPc, va_K.moved hW.alike hKc, hDc.weaken (fun _ _ _ _ => trivial)⟩⟩ rfl rfl hl.1 rfl (lv_room (Nat.le_of_ble_eq_true rfl)) dL_law_1304 ⟨Nat.le_of_ble_eq_true rfl, Nat.le_of_ble_eq_true rfl⟩) hS (fun q _ h => hFc q h) hFc (fun r9 u t H1 locs ht hvm hw hB hz1 hk1 hS => ?_)
  obtain rfl := hw
  obtain ⟨hP1, hK1, hD1⟩ := hB
  rw [ht] at hP1
  have hK1 := va_K.moved hvm.symm hK1
  obtain ⟨hP, hD⟩ := va_join (wr := [(x0, .inr (7, [.ref x1, .ref x2, .ref x45, .ref x53, .ref x55, .ref x57, .int 0, .int 0, .int 0])), (x2, .inr (5, [.ref x3, .ref x4, .ref x5, .ref x7, .ref x9, .ref x11, .int 0, .int 0]))]) (w1 := [(m0, .inr (9, [.int 1, .ref m1, .ref m2, .ref m3, .int 0, .int 0, .int 0]))]) hP hD [2] [0, 1] rfl rfl (by decide) (by decide) hk1 hFc hP1 hD1
  generalize H1 = H at hP hS ⊢
  have hP : va_P (dC, dI) vwCl [(x0, .inr (7, [.ref x1, .ref x2, .ref x45, .ref x53, .ref x55, .ref x57, .int 0, .int 0, .int 0])), (x2, .inr (5, [.ref x3, .ref x4, .ref x5, .ref x7, .ref x9, .ref x11, .int 0, .int 0])), (m0, .inr (9, [.int 1, .ref m1, .ref m2, .ref m3, .int 0, .int 0, .int 0]))] H := hP
  have hD : va_D A [(x0, .inr (7, [.ref x1, .ref x2, .ref x45, .ref x53, .ref x55, .ref x57, .int 0, .int 0, .int 0])), (x2, .inr (5, [.ref x3, .ref x4, .ref x5, .ref x7, .ref x9, .ref x11, .int 0, .int 0])), (m0, .inr (9, [.int 1, .ref m1, .ref m2, .ref m3, .int 0, .int 0, .int 0]))] := hD
  refine lv_iload hx hb dL_law_1307 (lv_at hl 1 rfl) ?_
  refine lv_icmp_eq (tgt := 1314) hx hb dL_law_1309 (by decide) (fun _ => ?_) (fun c9 => absurd (by decide) c9)
  refine lv_iload hx hb dL_law_1314 (lv_at hl 1 rfl) ?_
  refine lv_if_ne (tgt := 1332) hx hb dL_law_1316 (by decide) (fun _ => ?_) (fun c9 => absurd c9 (by decide))
  refine lv_goto (tgt := 2342) hx hb dL_law_1332 (by decide) ?_
  refine lv_iinc (v := 7) (lv' := [(4, .int 7), (6, .int 0), (5, .int 1), (3, .ref o0), (2, .ref m0), (1, .ref x0), (0, .ref b)]) hx hb dL_law_2342 hl (k := 2) rfl (by decide) (by decide) rfl (fun ls hl => ?_)
  refine lv_goto (tgt := 27) hx hb dL_law_2345 (by decide) ?_
  refine lv_iload hx hb dL_law_27 (lv_at hl 0 rfl) ?_
  refine lv_aload_n hx hb dL_law_29 rfl (lv_at hl 6 rfl) ?_
  refine va_slen hx hb hX hbl hbA hS dL_law_30 ?_
  refine lv_topi (fun y7 ey7 => ?_)
  obtain rfl : y7 = 7 := ey7.trans (by decide)
  refine lv_bipush (v := 7) hx hb dL_law_31 (by decide) ?_
  refine lv_isub hx hb dL_law_33 ?_
  refine lv_topi (fun y8 ey8 => ?_)
  obtain rfl : y8 = 0 := ey8.trans (by decide)
  refine lv_icmp_gt (tgt := 2348) hx hb dL_law_34 (by decide) (fun _ => ?_) (fun c9 => absurd (by decide) c9)
  refine lv_iconst (v := 1) hx hb dL_law_2348 (by decide) ?_
  refine va_forget (fun q hq => (by have h := hS.2.2 q hq; rw [hAe] at h; exact h)) ?_
  refine W.widen (k := 600002) (n := 7302232) (Nat.le_of_ble_eq_true rfl) (Nat.le_of_ble_eq_true rfl) ?_
  exact lw_ret hx hb hr hlocks dL_law_2349
set_option maxHeartbeats 4000000 in
set_option maxRecDepth 100000 in
theorem lc_side_8 {p : Program} {e : Env} {s : State} {m : MethodId} {below : List Frame} {meth : Method} {c : Code} {l : Launch} (hst : l.stackTraces = false) {b : Nat} {xs : Nat → Int32} (C9 : lx_At p s m meth c b xs) {dC : Nat → ClassId} {dI : Nat → Nat → Nat} {ge5 gea gv5 gva gde gic gi0 : Nat} {x0 m0 m2 x1 x2 x45 x53 x55 x57 m1 m3 o0 : Nat} (hG : gv ge5 gea gv5 gva gde gic gi0 (fun q => s.heap.size ≤ q) s s.heap) {v1 : Int32} (v1_l : (0 : Int) ≤ v1.toInt) (v1_u : v1.toInt ≤ (3 : Int)) {v2 : Int32} (v2_l : ((-2147483648) : Int) ≤ v2.toInt) (v2_u : v2.toInt ≤ ((-1) : Int)) {v3 : Int32} (v3_l : ((-2147483648) : Int) ≤ v3.toInt) (v3_u : v3.toInt ≤ ((-1) : Int)) (hx1 : xs 1 = v1) (hx2 : xs 2 = v2) (hx3 : xs 3 = v3) {H : Heap} {locs : List Loc} (hK : va_K (dC, dI) vwCl [] s) (hP : va_P (dC, dI) vwCl [(x0, .inr (7, [.ref x1, .ref x2, .ref x45, .ref x53, .ref x55, .ref x57, .int 0, .int 0, .int 0])), (m0, .inr (9, [.int 0, .ref m1, .ref m2, .ref m3, .int 0, .int 0, .int 0])), (m2, .inr (3, [.int 0, .ref gde, .int 0]))] H) (hD : va_D (fun q => s.heap.size ≤ q) [(x0, .inr (7, [.ref x1, .ref x2, .ref x45, .ref x53, .ref x55, .ref x57, .int 0, .int 0, .int 0])), (m0, .inr (9, [.int 0, .ref m1, .ref m2, .ref m3, .int 0, .int 0, .int 0])), (m2, .inr (3, [.int 0, .ref gde, .int 0]))]) (hS : va_S (fun q => s.heap.size ≤ q) s.heap H locs) {ls : Array Slot} (hl : lv_has ls 7 [(4, .int 0), (3, .ref o0), (2, .ref m0), (1, .ref x0), (0, .ref b)]) : W p l e room_1 s m #[Value.ref b] below meth c H locs 72 2748 (lw_Z below #[Value.ref b] s) (F0 m 1238 ls []) := by
  obtain ⟨hx, hb, hr, hml, hown, hts, hX, hbl, hlocks⟩ := id C9
  have hA : ∀ q : Nat, s.heap.size ≤ q → (fun q : Nat => s.heap.size ≤ q) q := fun _ h => h
  have hbA : ¬ (fun q : Nat => s.heap.size ≤ q) b := Nat.not_le.mpr hbl
  obtain ⟨A, hAe⟩ : ∃ A : Nat → Prop, A = (fun q : Nat => s.heap.size ≤ q) := ⟨_, rfl⟩
  rw [← hAe] at hG hD hS hA hbA
  obtain ⟨⟨g_AO_Text, g_AO_String, g_AO_Object, g_nm_RX1_20, g_nm_RX0_17, g_nm_RX3_31, g_nm_RX2_44, g_nm_RL_121, g_nf_RL_13, g_nf_RL_47, g_ca_IO, g_ca_IA, g_ca_IS, g_ca_IntObj, g_ca_StrObj, g_de_RT, g_de_EX, g_de_TH, g_nc_IA_IO, g_nc_IS_IO, g_nc_IS_IA⟩, ⟨g_s3, g_s5, g_sa, g_x278, g_x280, g_x282, g_x284, g_x286, g_x180, g_x238, g_x250⟩, ⟨g_o5, g_c5, g_v5, g_t5, g_oa, g_ca, g_va, g_ta, g_zc, g_zd, g_td, g_zf, g_zU, g_zN, g_zh, g_zk, g_tk, g_oi, g_vi⟩⟩ := id hG
  refine lv_aload_n hx hb dL_law_1238 rfl (lv_at hl 3 rfl) ?_
  refine lv_aload_n hx hb dL_law_1239 rfl (lv_at hl 4 rfl) ?_
  refine lv_iload hx hb dL_law_1240 (lv_at hl 0 rfl) ?_
  refine lv_iconst (v := 1) hx hb dL_law_1242 (by decide) ?_
  refine lv_iadd hx hb dL_law_1243 ?_
  refine lv_topi (fun y1 ey1 => ?_)
  obtain rfl : y1 = 1 := ey1.trans (by decide)
  refine va_sld hx hb hX hbl hbA hS (by unfold vp_in; decide) dL_law_1244 ?_
  rw [show xs (Int32.toNatClampNeg 1) = v1 from hx1]
  refine lv_aload_n hx hb dL_law_1245 rfl (lv_at hl 4 rfl) ?_
  refine lv_iload hx hb dL_law_1246 (lv_at hl 0 rfl) ?_
  refine lv_iconst (v := 2) hx hb dL_law_1248 (by decide) ?_
  refine lv_iadd hx hb dL_law_1249 ?_
  refine lv_topi (fun y2 ey2 => ?_)
  obtain rfl : y2 = 2 := ey2.trans (by decide)
  refine va_sld hx hb hX hbl hbA hS (by unfold vp_in; decide) dL_law_1250 ?_
  rw [show xs (Int32.toNatClampNeg 2) = v2 from hx2]
  refine lv_aload_n hx hb dL_law_1251 rfl (lv_at hl 4 rfl) ?_
  refine lv_iload hx hb dL_law_1252 (lv_at hl 0 rfl) ?_
  refine lv_iconst (v := 3) hx hb dL_law_1254 (by decide) ?_
  refine lv_iadd hx hb dL_law_1255 ?_
  refine lv_topi (fun y3 ey3 => ?_)
  obtain rfl : y3 = 3 := ey3.trans (by decide)
  refine va_sld hx hb hX hbl hbA hS (by unfold vp_in; decide) dL_law_1256 ?_
  rw [show xs (Int32.toNatClampNeg 3) = v3 from hx3]
  refine lv_if_eq (tgt := 1264) hx hb dL_law_1257 (by decide) (fun c9 => absurd c9 (fun c8 => absurd (congrArg Int32.toInt c8) (by rw [show (0 : Int32).toInt = 0 from by decide]; omega))) (fun _ => ?_)
  refine lv_iconst (v := 1) hx hb dL_law_1260 (by decide) ?_
  refine lv_goto (tgt := 1265) hx hb dL_law_1261 (by decide) ?_
  refine lv_aload_n hx hb dL_law_1265 rfl (lv_at hl 1 rfl) ?_
  have hPc := hP.sub (ws' := [(x0, .inr (7, [.ref x1, .ref x2, .ref x45, .ref x53, .ref x55, .ref x57, .int 0, .int 0, .int 0]))]) [0] rfl
  have hDc := hD.sub (ws' := [(x0, .inr (7, [.ref x1, .ref x2, .ref x45, .ref x53, .ref x55, .ref x57, .int 0, .int 0, .int 0]))]) [0] (by decide) rfl
  have hKc := hK.sub (tys' := []) [] rfl
  have hFc := va_free (wc := [(x0, .inr (7, [.ref x1, .ref x2, .ref x45, .ref x53, .ref x55, .ref x57, .int 0, .int 0, .int 0]))]) hD hS hA [0] rfl
  refine va_calli (vx_runSW (As := [.ref x0, .int v1, .int v2, .int 1, .ref o0]) (rest := []) ⟨hx, hb, hml, hown, hts⟩ (kx_L_side_6 l hst dC dI ge5 gea gv5 gva gde gic gi0 x0 o0 x1 x2 x45 x53 x55 x57 H.size v1 v1_l v1_u v2 v2_l v2_u) (vx_cwSW 5 hts gL_law_L_side rfl rfl rfl (by decide +kernel) ⟨Nat.le_of_ble_eq_true rfl, Nat.le_of_ble_eq_true rfl⟩) ⟨fun a U g mk q => by obtain ⟨q0, q1, qP, qK, qD, qG⟩ := q; exact ⟨q0, q1, qP, va_K.moved (u := U) (U := U.calling g mk a) (Vm.Alike.refl U.vm) qK, qD, gv.fb qG⟩, fun U hU hW => ⟨rfl, by rw [hU], by rw [hU]; exact hPc, va_K.moved hW.alike hKc, hDc.weaken (fun _ _ _ _ => trivial), gv.pass hW hU hS hFc hG⟩⟩ rfl rfl hl.1 rfl (lv_room (Nat.le_of_ble_eq_true rfl)) dL_law_1266 ⟨Nat.le_of_ble_eq_true rfl, Nat.le_of_ble_eq_true rfl⟩) hS (fun q _ h => hFc q h) hFc (fun r9 u t H1 locs ht hvm hw hB hz1 hk1 hS => ?_)
  obtain rfl := hw
  obtain ⟨hP1, hK1, hD1⟩ := hB
  rw [ht] at hP1
  have hK1 := va_K.moved hvm.symm hK1
  obtain ⟨hP, hD⟩ := va_join (wr := [(m0, .inr (9, [.int 0, .ref m1, .ref m2, .ref m3, .int 0, .int 0, .int 0])), (m2, .inr (3, [.int 0, .ref gde, .int 0]))]) (w1 := [(x0, .inr (7, [.ref x1, .ref x2, .ref x45, .ref x53, .ref x55, .ref x57, .int 0, .int 0, .int 0]))]) hP hD [0] [1, 2] rfl rfl (by decide) (by decide) hk1 hFc hP1 hD1
  generalize H1 = H at hP hS ⊢
  have hP : va_P (dC, dI) vwCl [(m0, .inr (9, [.int 0, .ref m1, .ref m2, .ref m3, .int 0, .int 0, .int 0])), (m2, .inr (3, [.int 0, .ref gde, .int 0])), (x0, .inr (7, [.ref x1, .ref x2, .ref x45, .ref x53, .ref x55, .ref x57, .int 0, .int 0, .int 0]))] H := hP
  have hD : va_D A [(m0, .inr (9, [.int 0, .ref m1, .ref m2, .ref m3, .int 0, .int 0, .int 0])), (m2, .inr (3, [.int 0, .ref gde, .int 0])), (x0, .inr (7, [.ref x1, .ref x2, .ref x45, .ref x53, .ref x55, .ref x57, .int 0, .int 0, .int 0]))] := hD
  refine W.widen (k := 73) (n := 2754) (by omega) (by omega) ?_
  refine lv_istore (lv' := [(5, .int 1), (4, .int 0), (3, .ref o0), (2, .ref m0), (1, .ref x0), (0, .ref b)]) hx hb dL_law_1269 hl (by decide) rfl (fun ls hl => ?_)
  refine lv_aload_n hx hb dL_law_1271 rfl (lv_at hl 3 rfl) ?_
  refine lv_aload_n hx hb dL_law_1272 rfl (lv_at hl 5 rfl) ?_
  refine lv_iload hx hb dL_law_1273 (lv_at hl 1 rfl) ?_
  refine lv_iconst (v := 1) hx hb dL_law_1275 (by decide) ?_
  refine lv_iadd hx hb dL_law_1276 ?_
  refine lv_topi (fun y4 ey4 => ?_)
  obtain rfl : y4 = 1 := ey4.trans (by decide)
  refine va_sld hx hb hX hbl hbA hS (by unfold vp_in; decide) dL_law_1277 ?_
  rw [show xs (Int32.toNatClampNeg 1) = v1 from hx1]
  refine lv_aload_n hx hb dL_law_1278 rfl (lv_at hl 5 rfl) ?_
  refine lv_iload hx hb dL_law_1279 (lv_at hl 1 rfl) ?_
  refine lv_iconst (v := 2) hx hb dL_law_1281 (by decide) ?_
  refine lv_iadd hx hb dL_law_1282 ?_
  refine lv_topi (fun y5 ey5 => ?_)
  obtain rfl : y5 = 2 := ey5.trans (by decide)
  refine va_sld hx hb hX hbl hbA hS (by unfold vp_in; decide) dL_law_1283 ?_
  rw [show xs (Int32.toNatClampNeg 2) = v2 from hx2]
  refine lv_aload_n hx hb dL_law_1284 rfl (lv_at hl 5 rfl) ?_
  refine lv_iload hx hb dL_law_1285 (lv_at hl 1 rfl) ?_
  refine lv_iconst (v := 3) hx hb dL_law_1287 (by decide) ?_
  refine lv_iadd hx hb dL_law_1288 ?_
  refine lv_topi (fun y6 ey6 => ?_)
  obtain rfl : y6 = 3 := ey6.trans (by decide)
  refine va_sld hx hb hX hbl hbA hS (by unfold vp_in; decide) dL_law_1289 ?_
  rw [show xs (Int32.toNatClampNeg 3) = v3 from hx3]
  refine lv_if_eq (tgt := 1297) hx hb dL_law_1290 (by decide) (fun c9 => absurd c9 (fun c8 => absurd (congrArg Int32.toInt c8) (by rw [show (0 : Int32).toInt = 0 from by decide]; omega))) (fun _ => ?_)
  refine lv_iconst (v := 1) hx hb dL_law_1293 (by decide) ?_
  refine lv_goto (tgt := 1298) hx hb dL_law_1294 (by decide) ?_
  have hPc := hP.sub (ws' := [(m0, .inr (9, [.int 0, .ref m1, .ref m2, .ref m3, .int 0, .int 0, .int 0])), (m2, .inr (3, [.int 0, .ref gde, .int 0]))]) [0, 1] rfl
  have hDc := hD.sub (ws' := [(m0, .inr (9, [.int 0, .ref m1, .ref m2, .ref m3, .int 0, .int 0, .int 0])), (m2, .inr (3, [.int 0, .ref gde, .int 0]))]) [0, 1] (by decide) rfl
  have hKc := hK.sub (tys' := []) [] rfl
  have hFc := va_free (wc := [(m0, .inr (9, [.int 0, .ref m1, .ref m2, .ref m3, .int 0, .int 0, .int 0])), (m2, .inr (3, [.int 0, .ref gde, .int 0]))]) hD hS hA [0, 1] rfl
  refine va_calli (va_runV (As := [.int v1, .int v2, .int 1]) (rest := []) ⟨hx, hb, hml, hown, hts⟩ (kx_X5_side_6 l dC dI ge5 gea gv5 gva gde gic gi0 m0 m2 m1 m3 H.size v1 v1_l v1_u v2 v2_l v2_u) (cwV 3 hts gL_law_X5_side rfl rfl rfl (by decide +kernel) ⟨Nat.le_of_ble_eq_true rfl, Nat.le_of_ble_eq_true rfl⟩) ⟨fun a U g mk q => by obtain ⟨q0, q1, qP, qK, qD, qG⟩ := q; exact ⟨q0, q1, qP, va_K.moved (u := U) (U := U.calling g mk a) (Vm.Alike.refl U.vm) qK, qD, gv.fb qG⟩, va_recv hKc hPc (ci := 9) (q0 := 0) rfl rfl, fun U hU hW => ⟨rfl, by rw [hU], by rw [hU]; exact hPc, va_K.moved hW.alike hKc, hDc.weaken (fun _ _ _ _ => trivial), gv.pass hW hU hS hFc hG⟩⟩ rfl rfl hl.1 rfl (lv_room (Nat.le_of_ble_eq_true rfl)) dL_law_1298 ⟨Nat.le_of_ble_eq_true rfl, Nat.le_of_ble_eq_true rfl⟩) hS (fun q _ h => hFc q h) hFc (fun r9 u t H1 locs ht hvm hw hB hz1 hk1 hS => ?_)
  obtain rfl := hw
  obtain ⟨hP1, hK1, hD1⟩ := hB
  rw [ht] at hP1
  have hK1 := va_K.moved hvm.symm hK1
  obtain ⟨hP, hD⟩ := va_join (wr := [(x0, .inr (7, [.ref x1, .ref x2, .ref x45, .ref x53, .ref x55, .ref x57, .int 0, .int 0, .int 0]))]) (w1 := [(m0, .inr (9, [.int 1, .ref m1, .ref m2, .ref m3, .int 0, .int 0, .int 0]))]) hP hD [0, 1] [2] rfl rfl (by decide) (by decide) hk1 hFc hP1 hD1
  generalize H1 = H at hP hS ⊢
  have hP : va_P (dC, dI) vwCl [(x0, .inr (7, [.ref x1, .ref x2, .ref x45, .ref x53, .ref x55, .ref x57, .int 0, .int 0, .int 0])), (m0, .inr (9, [.int 1, .ref m1, .ref m2, .ref m3, .int 0, .int 0, .int 0]))] H := hP
  have hD : va_D A [(x0, .inr (7, [.ref x1, .ref x2, .ref x45, .ref x53, .ref x55, .ref x57, .int 0, .int 0, .int 0])), (m0, .inr (9, [.int 1, .ref m1, .ref m2, .ref m3, .int 0, .int 0, .int 0]))] := hD
  refine lv_istore (lv' := [(6, .int 0), (5, .int 1), (4, .int 0), (3, .ref o0), (2, .ref m0), (1, .ref x0), (0, .ref b)]) hx hb dL_law_1301 hl (by decide) rfl (fun ls hl => ?_)
  refine lv_aload_n hx hb dL_law_1303 rfl (lv_at hl 4 rfl) ?_
  have hPc := hP.sub (ws' := [(m0, .inr (9, [.int 1, .ref m1, .ref m2, .ref m3, .int 0, .int 0, .int 0]))]) [1] rfl
  have hDc := hD.sub (ws' := [(m0, .inr (9, [.int 1, .ref m1, .ref m2, .ref m3, .int 0, .int 0, .int 0]))]) [1] (by decide) rfl
  have hKc := hK.sub (tys' := []) [] rfl
  have hFc := va_free (wc := [(m0, .inr (9, [.int 1, .ref m1, .ref m2, .ref m3, .int 0, .int 0, .int 0]))]) hD hS hA [1] rfl
  refine va_calli (va_runV (As := []) (rest := []) ⟨hx, hb, hml, hown, hts⟩ (kx_X5_thrown_0 l dC dI m0 m1 m2 m3 H.size) (cwV 0 hts gL_law_X5_thrown rfl rfl rfl (by decide +kernel) ⟨Nat.le_of_ble_eq_true rfl, Nat.le_of_ble_eq_true rfl⟩) ⟨fun a U g mk q => by obtain ⟨q0, q1, qP, qK, qD⟩ := q; exact ⟨q0, q1, qP, va_K.moved (u := U) (U := U.calling g mk a) (Vm.Alike.refl U.vm) qK, qD⟩, va_recv hKc hPc (ci := 9) (q0 := 0) rfl rfl, fun U hU hW => ⟨rfl, by rw [hU], by rw [hU]; exact hPc, va_K.moved hW.alike hKc, hDc.weaken (fun _ _ _ _ => trivial)⟩⟩ rfl rfl hl.1 rfl (lv_room (Nat.le_of_ble_eq_true rfl)) dL_law_1304 ⟨Nat.le_of_ble_eq_true rfl, Nat.le_of_ble_eq_true rfl⟩) hS (fun q _ h => hFc q h) hFc (fun r9 u t H1 locs ht hvm hw hB hz1 hk1 hS => ?_)
  obtain rfl := hw
  obtain ⟨hP1, hK1, hD1⟩ := hB
  rw [ht] at hP1
  have hK1 := va_K.moved hvm.symm hK1
  obtain ⟨hP, hD⟩ := va_join (wr := [(x0, .inr (7, [.ref x1, .ref x2, .ref x45, .ref x53, .ref x55, .ref x57, .int 0, .int 0, .int 0]))]) (w1 := [(m0, .inr (9, [.int 1, .ref m1, .ref m2, .ref m3, .int 0, .int 0, .int 0]))]) hP hD [1] [0] rfl rfl (by decide) (by decide) hk1 hFc hP1 hD1
  generalize H1 = H at hP hS ⊢
  have hP : va_P (dC, dI) vwCl [(x0, .inr (7, [.ref x1, .ref x2, .ref x45, .ref x53, .ref x55, .ref x57, .int 0, .int 0, .int 0])), (m0, .inr (9, [.int 1, .ref m1, .ref m2, .ref m3, .int 0, .int 0, .int 0]))] H := hP
  have hD : va_D A [(x0, .inr (7, [.ref x1, .ref x2, .ref x45, .ref x53, .ref x55, .ref x57, .int 0, .int 0, .int 0])), (m0, .inr (9, [.int 1, .ref m1, .ref m2, .ref m3, .int 0, .int 0, .int 0]))] := hD
  refine lv_iload hx hb dL_law_1307 (lv_at hl 1 rfl) ?_
  refine lv_icmp_eq (tgt := 1314) hx hb dL_law_1309 (by decide) (fun _ => ?_) (fun c9 => absurd (by decide) c9)
  refine lv_iload hx hb dL_law_1314 (lv_at hl 1 rfl) ?_
  refine lv_if_ne (tgt := 1332) hx hb dL_law_1316 (by decide) (fun _ => ?_) (fun c9 => absurd c9 (by decide))
  refine lv_goto (tgt := 2342) hx hb dL_law_1332 (by decide) ?_
  refine lv_iinc (v := 7) (lv' := [(4, .int 7), (6, .int 0), (5, .int 1), (3, .ref o0), (2, .ref m0), (1, .ref x0), (0, .ref b)]) hx hb dL_law_2342 hl (k := 2) rfl (by decide) (by decide) rfl (fun ls hl => ?_)
  refine lv_goto (tgt := 27) hx hb dL_law_2345 (by decide) ?_
  refine lv_iload hx hb dL_law_27 (lv_at hl 0 rfl) ?_
  refine lv_aload_n hx hb dL_law_29 rfl (lv_at hl 6 rfl) ?_
  refine va_slen hx hb hX hbl hbA hS dL_law_30 ?_
  refine lv_topi (fun y7 ey7 => ?_)
  obtain rfl : y7 = 7 := ey7.trans (by decide)
  refine lv_bipush (v := 7) hx hb dL_law_31 (by decide) ?_
  refine lv_isub hx hb dL_law_33 ?_
  refine lv_topi (fun y8 ey8 => ?_)
  obtain rfl : y8 = 0 := ey8.trans (by decide)
  refine lv_icmp_gt (tgt := 2348) hx hb dL_law_34 (by decide) (fun _ => ?_) (fun c9 => absurd (by decide) c9)
  refine lv_iconst (v := 1) hx hb dL_law_2348 (by decide) ?_
  refine va_forget (fun q hq => (by have h := hS.2.2 q hq; rw [hAe] at h; exact h)) ?_
  refine W.widen (k := 600002) (n := 7302232) (Nat.le_of_ble_eq_true rfl) (Nat.le_of_ble_eq_true rfl) ?_
  exact lw_ret hx hb hr hlocks dL_law_2349
set_option maxHeartbeats 4000000 in
set_option maxRecDepth 100000 in
theorem lc_side_9 {p : Program} {e : Env} {s : State} {m : MethodId} {below : List Frame} {meth : Method} {c : Code} {l : Launch} (hst : l.stackTraces = false) {b : Nat} {xs : Nat → Int32} (C9 : lx_At p s m meth c b xs) {dC : Nat → ClassId} {dI : Nat → Nat → Nat} {ge5 gea gv5 gva gde gic gi0 : Nat} {x0 m0 m2 x1 x2 x45 x53 x55 x57 m1 m3 o0 : Nat} (hG : gv ge5 gea gv5 gva gde gic gi0 (fun q => s.heap.size ≤ q) s s.heap) {v1 : Int32} (v1_l : (0 : Int) ≤ v1.toInt) (v1_u : v1.toInt ≤ (3 : Int)) {v2 : Int32} (v2_l : ((-2147483648) : Int) ≤ v2.toInt) (v2_u : v2.toInt ≤ ((-1) : Int)) {v3 : Int32} (v3_l : (1 : Int) ≤ v3.toInt) (v3_u : v3.toInt ≤ (2147483647 : Int)) (hx1 : xs 1 = v1) (hx2 : xs 2 = v2) (hx3 : xs 3 = v3) {H : Heap} {locs : List Loc} (hK : va_K (dC, dI) vwCl [] s) (hP : va_P (dC, dI) vwCl [(x0, .inr (7, [.ref x1, .ref x2, .ref x45, .ref x53, .ref x55, .ref x57, .int 0, .int 0, .int 0])), (m0, .inr (9, [.int 0, .ref m1, .ref m2, .ref m3, .int 0, .int 0, .int 0])), (m2, .inr (3, [.int 0, .ref gde, .int 0]))] H) (hD : va_D (fun q => s.heap.size ≤ q) [(x0, .inr (7, [.ref x1, .ref x2, .ref x45, .ref x53, .ref x55, .ref x57, .int 0, .int 0, .int 0])), (m0, .inr (9, [.int 0, .ref m1, .ref m2, .ref m3, .int 0, .int 0, .int 0])), (m2, .inr (3, [.int 0, .ref gde, .int 0]))]) (hS : va_S (fun q => s.heap.size ≤ q) s.heap H locs) {ls : Array Slot} (hl : lv_has ls 7 [(4, .int 0), (3, .ref o0), (2, .ref m0), (1, .ref x0), (0, .ref b)]) : W p l e room_1 s m #[Value.ref b] below meth c H locs 72 2748 (lw_Z below #[Value.ref b] s) (F0 m 1238 ls []) := by
  obtain ⟨hx, hb, hr, hml, hown, hts, hX, hbl, hlocks⟩ := id C9
  have hA : ∀ q : Nat, s.heap.size ≤ q → (fun q : Nat => s.heap.size ≤ q) q := fun _ h => h
  have hbA : ¬ (fun q : Nat => s.heap.size ≤ q) b := Nat.not_le.mpr hbl
  obtain ⟨A, hAe⟩ : ∃ A : Nat → Prop, A = (fun q : Nat => s.heap.size ≤ q) := ⟨_, rfl⟩
  rw [← hAe] at hG hD hS hA hbA
  obtain ⟨⟨g_AO_Text, g_AO_String, g_AO_Object, g_nm_RX1_20, g_nm_RX0_17, g_nm_RX3_31, g_nm_RX2_44, g_nm_RL_121, g_nf_RL_13, g_nf_RL_47, g_ca_IO, g_ca_IA, g_ca_IS, g_ca_IntObj, g_ca_StrObj, g_de_RT, g_de_EX, g_de_TH, g_nc_IA_IO, g_nc_IS_IO, g_nc_IS_IA⟩, ⟨g_s3, g_s5, g_sa, g_x278, g_x280, g_x282, g_x284, g_x286, g_x180, g_x238, g_x250⟩, ⟨g_o5, g_c5, g_v5, g_t5, g_oa, g_ca, g_va, g_ta, g_zc, g_zd, g_td, g_zf, g_zU, g_zN, g_zh, g_zk, g_tk, g_oi, g_vi⟩⟩ := id hG
  refine lv_aload_n hx hb dL_law_1238 rfl (lv_at hl 3 rfl) ?_
  refine lv_aload_n hx hb dL_law_1239 rfl (lv_at hl 4 rfl) ?_
  refine lv_iload hx hb dL_law_1240 (lv_at hl 0 rfl) ?_
  refine lv_iconst (v := 1) hx hb dL_law_1242 (by decide) ?_
  refine lv_iadd hx hb dL_law_1243 ?_
  refine lv_topi (fun y1 ey1 => ?_)
  obtain rfl : y1 = 1 := ey1.trans (by decide)
  refine va_sld hx hb hX hbl hbA hS (by unfold vp_in; decide) dL_law_1244 ?_
  rw [show xs (Int32.toNatClampNeg 1) = v1 from hx1]
  refine lv_aload_n hx hb dL_law_1245 rfl (lv_at hl 4 rfl) ?_
  refine lv_iload hx hb dL_law_1246 (lv_at hl 0 rfl) ?_
  refine lv_iconst (v := 2) hx hb dL_law_1248 (by decide) ?_
  refine lv_iadd hx hb dL_law_1249 ?_
  refine lv_topi (fun y2 ey2 => ?_)
  obtain rfl : y2 = 2 := ey2.trans (by decide)
  refine va_sld hx hb hX hbl hbA hS (by unfold vp_in; decide) dL_law_1250 ?_
  rw [show xs (Int32.toNatClampNeg 2) = v2 from hx2]
  refine lv_aload_n hx hb dL_law_1251 rfl (lv_at hl 4 rfl) ?_
  refine lv_iload hx hb dL_law_1252 (lv_at hl 0 rfl) ?_
  refine lv_iconst (v := 3) hx hb dL_law_1254 (by decide) ?_
  refine lv_iadd hx hb dL_law_1255 ?_
  refine lv_topi (fun y3 ey3 => ?_)
  obtain rfl : y3 = 3 := ey3.trans (by decide)
  refine va_sld hx hb hX hbl hbA hS (by unfold vp_in; decide) dL_law_1256 ?_
  rw [show xs (Int32.toNatClampNeg 3) = v3 from hx3]
  refine lv_if_eq (tgt := 1264) hx hb dL_law_1257 (by decide) (fun c9 => absurd c9 (fun c8 => absurd (congrArg Int32.toInt c8) (by rw [show (0 : Int32).toInt = 0 from by decide]; omega))) (fun _ => ?_)
  refine lv_iconst (v := 1) hx hb dL_law_1260 (by decide) ?_
  refine lv_goto (tgt := 1265) hx hb dL_law_1261 (by decide) ?_
  refine lv_aload_n hx hb dL_law_1265 rfl (lv_at hl 1 rfl) ?_
  have hPc := hP.sub (ws' := [(x0, .inr (7, [.ref x1, .ref x2, .ref x45, .ref x53, .ref x55, .ref x57, .int 0, .int 0, .int 0]))]) [0] rfl
  have hDc := hD.sub (ws' := [(x0, .inr (7, [.ref x1, .ref x2, .ref x45, .ref x53, .ref x55, .ref x57, .int 0, .int 0, .int 0]))]) [0] (by decide) rfl
  have hKc := hK.sub (tys' := []) [] rfl
  have hFc := va_free (wc := [(x0, .inr (7, [.ref x1, .ref x2, .ref x45, .ref x53, .ref x55, .ref x57, .int 0, .int 0, .int 0]))]) hD hS hA [0] rfl
  refine va_calli (vx_runSW (As := [.ref x0, .int v1, .int v2, .int 1, .ref o0]) (rest := []) ⟨hx, hb, hml, hown, hts⟩ (kx_L_side_6 l hst dC dI ge5 gea gv5 gva gde gic gi0 x0 o0 x1 x2 x45 x53 x55 x57 H.size v1 v1_l v1_u v2 v2_l v2_u) (vx_cwSW 5 hts gL_law_L_side rfl rfl rfl (by decide +kernel) ⟨Nat.le_of_ble_eq_true rfl, Nat.le_of_ble_eq_true rfl⟩) ⟨fun a U g mk q => by obtain ⟨q0, q1, qP, qK, qD, qG⟩ := q; exact ⟨q0, q1, qP, va_K.moved (u := U) (U := U.calling g mk a) (Vm.Alike.refl U.vm) qK, qD, gv.fb qG⟩, fun U hU hW => ⟨rfl, by rw [hU], by rw [hU]; exact hPc, va_K.moved hW.alike hKc, hDc.weaken (fun _ _ _ _ => trivial), gv.pass hW hU hS hFc hG⟩⟩ rfl rfl hl.1 rfl (lv_room (Nat.le_of_ble_eq_true rfl)) dL_law_1266 ⟨Nat.le_of_ble_eq_true rfl, Nat.le_of_ble_eq_true rfl⟩) hS (fun q _ h => hFc q h) hFc (fun r9 u t H1 locs ht hvm hw hB hz1 hk1 hS => ?_)
  obtain rfl := hw
  obtain ⟨hP1, hK1, hD1⟩ := hB
  rw [ht] at hP1
  have hK1 := va_K.moved hvm.symm hK1
  obtain ⟨hP, hD⟩ := va_join (wr := [(m0, .inr (9, [.int 0, .ref m1, .ref m2, .ref m3, .int 0, .int 0, .int 0])), (m2, .inr (3, [.int 0, .ref gde, .int 0]))]) (w1 := [(x0, .inr (7, [.ref x1, .ref x2, .ref x45, .ref x53, .ref x55, .ref x57, .int 0, .int 0, .int 0]))]) hP hD [0] [1, 2] rfl rfl (by decide) (by decide) hk1 hFc hP1 hD1
  generalize H1 = H at hP hS ⊢
  have hP : va_P (dC, dI) vwCl [(m0, .inr (9, [.int 0, .ref m1, .ref m2, .ref m3, .int 0, .int 0, .int 0])), (m2, .inr (3, [.int 0, .ref gde, .int 0])), (x0, .inr (7, [.ref x1, .ref x2, .ref x45, .ref x53, .ref x55, .ref x57, .int 0, .int 0, .int 0]))] H := hP
  have hD : va_D A [(m0, .inr (9, [.int 0, .ref m1, .ref m2, .ref m3, .int 0, .int 0, .int 0])), (m2, .inr (3, [.int 0, .ref gde, .int 0])), (x0, .inr (7, [.ref x1, .ref x2, .ref x45, .ref x53, .ref x55, .ref x57, .int 0, .int 0, .int 0]))] := hD
  refine W.widen (k := 73) (n := 2754) (by omega) (by omega) ?_
  refine lv_istore (lv' := [(5, .int 1), (4, .int 0), (3, .ref o0), (2, .ref m0), (1, .ref x0), (0, .ref b)]) hx hb dL_law_1269 hl (by decide) rfl (fun ls hl => ?_)
  refine lv_aload_n hx hb dL_law_1271 rfl (lv_at hl 3 rfl) ?_
  refine lv_aload_n hx hb dL_law_1272 rfl (lv_at hl 5 rfl) ?_
  refine lv_iload hx hb dL_law_1273 (lv_at hl 1 rfl) ?_
  refine lv_iconst (v := 1) hx hb dL_law_1275 (by decide) ?_
  refine lv_iadd hx hb dL_law_1276 ?_
  refine lv_topi (fun y4 ey4 => ?_)
  obtain rfl : y4 = 1 := ey4.trans (by decide)
  refine va_sld hx hb hX hbl hbA hS (by unfold vp_in; decide) dL_law_1277 ?_
  rw [show xs (Int32.toNatClampNeg 1) = v1 from hx1]
  refine lv_aload_n hx hb dL_law_1278 rfl (lv_at hl 5 rfl) ?_
  refine lv_iload hx hb dL_law_1279 (lv_at hl 1 rfl) ?_
  refine lv_iconst (v := 2) hx hb dL_law_1281 (by decide) ?_
  refine lv_iadd hx hb dL_law_1282 ?_
  refine lv_topi (fun y5 ey5 => ?_)
  obtain rfl : y5 = 2 := ey5.trans (by decide)
  refine va_sld hx hb hX hbl hbA hS (by unfold vp_in; decide) dL_law_1283 ?_
  rw [show xs (Int32.toNatClampNeg 2) = v2 from hx2]
  refine lv_aload_n hx hb dL_law_1284 rfl (lv_at hl 5 rfl) ?_
  refine lv_iload hx hb dL_law_1285 (lv_at hl 1 rfl) ?_
  refine lv_iconst (v := 3) hx hb dL_law_1287 (by decide) ?_
  refine lv_iadd hx hb dL_law_1288 ?_
  refine lv_topi (fun y6 ey6 => ?_)
  obtain rfl : y6 = 3 := ey6.trans (by decide)
  refine va_sld hx hb hX hbl hbA hS (by unfold vp_in; decide) dL_law_1289 ?_
  rw [show xs (Int32.toNatClampNeg 3) = v3 from hx3]
  refine lv_if_eq (tgt := 1297) hx hb dL_law_1290 (by decide) (fun c9 => absurd c9 (fun c8 => absurd (congrArg Int32.toInt c8) (by rw [show (0 : Int32).toInt = 0 from by decide]; omega))) (fun _ => ?_)
  refine lv_iconst (v := 1) hx hb dL_law_1293 (by decide) ?_
  refine lv_goto (tgt := 1298) hx hb dL_law_1294 (by decide) ?_
  have hPc := hP.sub (ws' := [(m0, .inr (9, [.int 0, .ref m1, .ref m2, .ref m3, .int 0, .int 0, .int 0])), (m2, .inr (3, [.int 0, .ref gde, .int 0]))]) [0, 1] rfl
  have hDc := hD.sub (ws' := [(m0, .inr (9, [.int 0, .ref m1, .ref m2, .ref m3, .int 0, .int 0, .int 0])), (m2, .inr (3, [.int 0, .ref gde, .int 0]))]) [0, 1] (by decide) rfl
  have hKc := hK.sub (tys' := []) [] rfl
  have hFc := va_free (wc := [(m0, .inr (9, [.int 0, .ref m1, .ref m2, .ref m3, .int 0, .int 0, .int 0])), (m2, .inr (3, [.int 0, .ref gde, .int 0]))]) hD hS hA [0, 1] rfl
  refine va_calli (va_runV (As := [.int v1, .int v2, .int 1]) (rest := []) ⟨hx, hb, hml, hown, hts⟩ (kx_X5_side_6 l dC dI ge5 gea gv5 gva gde gic gi0 m0 m2 m1 m3 H.size v1 v1_l v1_u v2 v2_l v2_u) (cwV 3 hts gL_law_X5_side rfl rfl rfl (by decide +kernel) ⟨Nat.le_of_ble_eq_true rfl, Nat.le_of_ble_eq_true rfl⟩) ⟨fun a U g mk q => by obtain ⟨q0, q1, qP, qK, qD, qG⟩ := q; exact ⟨q0, q1, qP, va_K.moved (u := U) (U := U.calling g mk a) (Vm.Alike.refl U.vm) qK, qD, gv.fb qG⟩, va_recv hKc hPc (ci := 9) (q0 := 0) rfl rfl, fun U hU hW => ⟨rfl, by rw [hU], by rw [hU]; exact hPc, va_K.moved hW.alike hKc, hDc.weaken (fun _ _ _ _ => trivial), gv.pass hW hU hS hFc hG⟩⟩ rfl rfl hl.1 rfl (lv_room (Nat.le_of_ble_eq_true rfl)) dL_law_1298 ⟨Nat.le_of_ble_eq_true rfl, Nat.le_of_ble_eq_true rfl⟩) hS (fun q _ h => hFc q h) hFc (fun r9 u t H1 locs ht hvm hw hB hz1 hk1 hS => ?_)
  obtain rfl := hw
  obtain ⟨hP1, hK1, hD1⟩ := hB
  rw [ht] at hP1
  have hK1 := va_K.moved hvm.symm hK1
  obtain ⟨hP, hD⟩ := va_join (wr := [(x0, .inr (7, [.ref x1, .ref x2, .ref x45, .ref x53, .ref x55, .ref x57, .int 0, .int 0, .int 0]))]) (w1 := [(m0, .inr (9, [.int 1, .ref m1, .ref m2, .ref m3, .int 0, .int 0, .int 0]))]) hP hD [0, 1] [2] rfl rfl (by decide) (by decide) hk1 hFc hP1 hD1
  generalize H1 = H at hP hS ⊢
  have hP : va_P (dC, dI) vwCl [(x0, .inr (7, [.ref x1, .ref x2, .ref x45, .ref x53, .ref x55, .ref x57, .int 0, .int 0, .int 0])), (m0, .inr (9, [.int 1, .ref m1, .ref m2, .ref m3, .int 0, .int 0, .int 0]))] H := hP
  have hD : va_D A [(x0, .inr (7, [.ref x1, .ref x2, .ref x45, .ref x53, .ref x55, .ref x57, .int 0, .int 0, .int 0])), (m0, .inr (9, [.int 1, .ref m1, .ref m2, .ref m3, .int 0, .int 0, .int 0]))] := hD
  refine lv_istore (lv' := [(6, .int 0), (5, .int 1), (4, .int 0), (3, .ref o0), (2, .ref m0), (1, .ref x0), (0, .ref b)]) hx hb dL_law_1301 hl (by decide) rfl (fun ls hl => ?_)
  refine lv_aload_n hx hb dL_law_1303 rfl (lv_at hl 4 rfl) ?_
  have hPc := hP.sub (ws' := [(m0, .inr (9, [.int 1, .ref m1, .ref m2, .ref m3, .int 0, .int 0, .int 0]))]) [1] rfl
  have hDc := hD.sub (ws' := [(m0, .inr (9, [.int 1, .ref m1, .ref m2, .ref m3, .int 0, .int 0, .int 0]))]) [1] (by decide) rfl
  have hKc := hK.sub (tys' := []) [] rfl
  have hFc := va_free (wc := [(m0, .inr (9, [.int 1, .ref m1, .ref m2, .ref m3, .int 0, .int 0, .int 0]))]) hD hS hA [1] rfl
  refine va_calli (va_runV (As := []) (rest := []) ⟨hx, hb, hml, hown, hts⟩ (kx_X5_thrown_0 l dC dI m0 m1 m2 m3 H.size) (cwV 0 hts gL_law_X5_thrown rfl rfl rfl (by decide +kernel) ⟨Nat.le_of_ble_eq_true rfl, Nat.le_of_ble_eq_true rfl⟩) ⟨fun a U g mk q => by obtain ⟨q0, q1, qP, qK, qD⟩ := q; exact ⟨q0, q1, qP, va_K.moved (u := U) (U := U.calling g mk a) (Vm.Alike.refl U.vm) qK, qD⟩, va_recv hKc hPc (ci := 9) (q0 := 0) rfl rfl, fun U hU hW => ⟨rfl, by rw [hU], by rw [hU]; exact hPc, va_K.moved hW.alike hKc, hDc.weaken (fun _ _ _ _ => trivial)⟩⟩ rfl rfl hl.1 rfl (lv_room (Nat.le_of_ble_eq_true rfl)) dL_law_1304 ⟨Nat.le_of_ble_eq_true rfl, Nat.le_of_ble_eq_true rfl⟩) hS (fun q _ h => hFc q h) hFc (fun r9 u t H1 locs ht hvm hw hB hz1 hk1 hS => ?_)
  obtain rfl := hw
  obtain ⟨hP1, hK1, hD1⟩ := hB
  rw [ht] at hP1
  have hK1 := va_K.moved hvm.symm hK1
  obtain ⟨hP, hD⟩ := va_join (wr := [(x0, .inr (7, [.ref x1, .ref x2, .ref x45, .ref x53, .ref x55, .ref x57, .int 0, .int 0, .int 0]))]) (w1 := [(m0, .inr (9, [.int 1, .ref m1, .ref m2, .ref m3, .int 0, .int 0, .int 0]))]) hP hD [1] [0] rfl rfl (by decide) (by decide) hk1 hFc hP1 hD1
  generalize H1 = H at hP hS ⊢
  have hP : va_P (dC, dI) vwCl [(x0, .inr (7, [.ref x1, .ref x2, .ref x45, .ref x53, .ref x55, .ref x57, .int 0, .int 0, .int 0])), (m0, .inr (9, [.int 1, .ref m1, .ref m2, .ref m3, .int 0, .int 0, .int 0]))] H := hP
  have hD : va_D A [(x0, .inr (7, [.ref x1, .ref x2, .ref x45, .ref x53, .ref x55, .ref x57, .int 0, .int 0, .int 0])), (m0, .inr (9, [.int 1, .ref m1, .ref m2, .ref m3, .int 0, .int 0, .int 0]))] := hD
  refine lv_iload hx hb dL_law_1307 (lv_at hl 1 rfl) ?_
  refine lv_icmp_eq (tgt := 1314) hx hb dL_law_1309 (by decide) (fun _ => ?_) (fun c9 => absurd (by decide) c9)
  refine lv_iload hx hb dL_law_1314 (lv_at hl 1 rfl) ?_
  refine lv_if_ne (tgt := 1332) hx hb dL_law_1316 (by decide) (fun _ => ?_) (fun c9 => absurd c9 (by decide))
  refine lv_goto (tgt := 2342) hx hb dL_law_1332 (by decide) ?_
  refine lv_iinc (v := 7) (lv' := [(4, .int 7), (6, .int 0), (5, .int 1), (3, .ref o0), (2, .ref m0), (1, .ref x0), (0, .ref b)]) hx hb dL_law_2342 hl (k := 2) rfl (by decide) (by decide) rfl (fun ls hl => ?_)
  refine lv_goto (tgt := 27) hx hb dL_law_2345 (by decide) ?_
  refine lv_iload hx hb dL_law_27 (lv_at hl 0 rfl) ?_
  refine lv_aload_n hx hb dL_law_29 rfl (lv_at hl 6 rfl) ?_
  refine va_slen hx hb hX hbl hbA hS dL_law_30 ?_
  refine lv_topi (fun y7 ey7 => ?_)
  obtain rfl : y7 = 7 := ey7.trans (by decide)
  refine lv_bipush (v := 7) hx hb dL_law_31 (by decide) ?_
  refine lv_isub hx hb dL_law_33 ?_
  refine lv_topi (fun y8 ey8 => ?_)
  obtain rfl : y8 = 0 := ey8.trans (by decide)
  refine lv_icmp_gt (tgt := 2348) hx hb dL_law_34 (by decide) (fun _ => ?_) (fun c9 => absurd (by decide) c9)
  refine lv_iconst (v := 1) hx hb dL_law_2348 (by decide) ?_
  refine va_forget (fun q hq => (by have h := hS.2.2 q hq; rw [hAe] at h; exact h)) ?_
  refine W.widen (k := 600002) (n := 7302232) (Nat.le_of_ble_eq_true rfl) (Nat.le_of_ble_eq_true rfl) ?_
  exact lw_ret hx hb hr hlocks dL_law_2349
set_option maxHeartbeats 4000000 in
set_option maxRecDepth 100000 in
theorem lc_side_10 {p : Program} {e : Env} {s : State} {m : MethodId} {below : List Frame} {meth : Method} {c : Code} {l : Launch} (hst : l.stackTraces = false) {b : Nat} {xs : Nat → Int32} (C9 : lx_At p s m meth c b xs) {dC : Nat → ClassId} {dI : Nat → Nat → Nat} {ge5 gea gv5 gva gde gic gi0 : Nat} {x0 x2 m0 m2 x1 x45 x53 x55 x57 x3 x4 x5 x7 x9 x11 m1 m3 o0 : Nat} (hG : gv ge5 gea gv5 gva gde gic gi0 (fun q => s.heap.size ≤ q) s s.heap) {v1 : Int32} (v1_l : (0 : Int) ≤ v1.toInt) (v1_u : v1.toInt ≤ (3 : Int)) {v2 : Int32} (v2_l : (0 : Int) ≤ v2.toInt) (v2_u : v2.toInt ≤ (2147483647 : Int)) {v3 : Int32} (v3_l : ((-2147483648) : Int) ≤ v3.toInt) (v3_u : v3.toInt ≤ ((-1) : Int)) (hx1 : xs 1 = v1) (hx2 : xs 2 = v2) (hx3 : xs 3 = v3) {H : Heap} {locs : List Loc} (hK : va_K (dC, dI) vwCl [] s) (hP : va_P (dC, dI) vwCl [(x0, .inr (7, [.ref x1, .ref x2, .ref x45, .ref x53, .ref x55, .ref x57, .int 0, .int 0, .int 0])), (x2, .inr (5, [.ref x3, .ref x4, .ref x5, .ref x7, .ref x9, .ref x11, .int 0, .int 0])), (m0, .inr (9, [.int 0, .ref m1, .ref m2, .ref m3, .int 0, .int 0, .int 0])), (m2, .inr (3, [.int 0, .ref gde, .int 0]))] H) (hD : va_D (fun q => s.heap.size ≤ q) [(x0, .inr (7, [.ref x1, .ref x2, .ref x45, .ref x53, .ref x55, .ref x57, .int 0, .int 0, .int 0])), (x2, .inr (5, [.ref x3, .ref x4, .ref x5, .ref x7, .ref x9, .ref x11, .int 0, .int 0])), (m0, .inr (9, [.int 0, .ref m1, .ref m2, .ref m3, .int 0, .int 0, .int 0])), (m2, .inr (3, [.int 0, .ref gde, .int 0]))]) (hS : va_S (fun q => s.heap.size ≤ q) s.heap H locs) {ls : Array Slot} (hl : lv_has ls 7 [(4, .int 0), (3, .ref o0), (2, .ref m0), (1, .ref x0), (0, .ref b)]) : W p l e room_1 s m #[Value.ref b] below meth c H locs 72 2748 (lw_Z below #[Value.ref b] s) (F0 m 1238 ls []) := by
  obtain ⟨hx, hb, hr, hml, hown, hts, hX, hbl, hlocks⟩ := id C9
  have hA : ∀ q : Nat, s.heap.size ≤ q → (fun q : Nat => s.heap.size ≤ q) q := fun _ h => h
  have hbA : ¬ (fun q : Nat => s.heap.size ≤ q) b := Nat.not_le.mpr hbl
  obtain ⟨A, hAe⟩ : ∃ A : Nat → Prop, A = (fun q : Nat => s.heap.size ≤ q) := ⟨_, rfl⟩
  rw [← hAe] at hG hD hS hA hbA
  obtain ⟨⟨g_AO_Text, g_AO_String, g_AO_Object, g_nm_RX1_20, g_nm_RX0_17, g_nm_RX3_31, g_nm_RX2_44, g_nm_RL_121, g_nf_RL_13, g_nf_RL_47, g_ca_IO, g_ca_IA, g_ca_IS, g_ca_IntObj, g_ca_StrObj, g_de_RT, g_de_EX, g_de_TH, g_nc_IA_IO, g_nc_IS_IO, g_nc_IS_IA⟩, ⟨g_s3, g_s5, g_sa, g_x278, g_x280, g_x282, g_x284, g_x286, g_x180, g_x238, g_x250⟩, ⟨g_o5, g_c5, g_v5, g_t5, g_oa, g_ca, g_va, g_ta, g_zc, g_zd, g_td, g_zf, g_zU, g_zN, g_zh, g_zk, g_tk, g_oi, g_vi⟩⟩ := id hG
  refine lv_aload_n hx hb dL_law_1238 rfl (lv_at hl 3 rfl) ?_
  refine lv_aload_n hx hb dL_law_1239 rfl (lv_at hl 4 rfl) ?_
  refine lv_iload hx hb dL_law_1240 (lv_at hl 0 rfl) ?_
  refine lv_iconst (v := 1) hx hb dL_law_1242 (by decide) ?_
  refine lv_iadd hx hb dL_law_1243 ?_
  refine lv_topi (fun y1 ey1 => ?_)
  obtain rfl : y1 = 1 := ey1.trans (by decide)
  refine va_sld hx hb hX hbl hbA hS (by unfold vp_in; decide) dL_law_1244 ?_
  rw [show xs (Int32.toNatClampNeg 1) = v1 from hx1]
  refine lv_aload_n hx hb dL_law_1245 rfl (lv_at hl 4 rfl) ?_
  refine lv_iload hx hb dL_law_1246 (lv_at hl 0 rfl) ?_
  refine lv_iconst (v := 2) hx hb dL_law_1248 (by decide) ?_
  refine lv_iadd hx hb dL_law_1249 ?_
  refine lv_topi (fun y2 ey2 => ?_)
  obtain rfl : y2 = 2 := ey2.trans (by decide)
  refine va_sld hx hb hX hbl hbA hS (by unfold vp_in; decide) dL_law_1250 ?_
  rw [show xs (Int32.toNatClampNeg 2) = v2 from hx2]
  refine lv_aload_n hx hb dL_law_1251 rfl (lv_at hl 4 rfl) ?_
  refine lv_iload hx hb dL_law_1252 (lv_at hl 0 rfl) ?_
  refine lv_iconst (v := 3) hx hb dL_law_1254 (by decide) ?_
  refine lv_iadd hx hb dL_law_1255 ?_
  refine lv_topi (fun y3 ey3 => ?_)
  obtain rfl : y3 = 3 := ey3.trans (by decide)
  refine va_sld hx hb hX hbl hbA hS (by unfold vp_in; decide) dL_law_1256 ?_
  rw [show xs (Int32.toNatClampNeg 3) = v3 from hx3]
  refine lv_if_eq (tgt := 1264) hx hb dL_law_1257 (by decide) (fun c9 => absurd c9 (fun c8 => absurd (congrArg Int32.toInt c8) (by rw [show (0 : Int32).toInt = 0 from by decide]; omega))) (fun _ => ?_)
  refine lv_iconst (v := 1) hx hb dL_law_1260 (by decide) ?_
  refine lv_goto (tgt := 1265) hx hb dL_law_1261 (by decide) ?_
  refine lv_aload_n hx hb dL_law_1265 rfl (lv_at hl 1 rfl) ?_
  have hPc := hP.sub (ws' := [(x0, .inr (7, [.ref x1, .ref x2, .ref x45, .ref x53, .ref x55, .ref x57, .int 0, .int 0, .int 0])), (x2, .inr (5, [.ref x3, .ref x4, .ref x5, .ref x7, .ref x9, .ref x11, .int 0, .int 0]))]) [0, 1] rfl
  have hDc := hD.sub (ws' := [(x0, .inr (7, [.ref x1, .ref x2, .ref x45, .ref x53, .ref x55, .ref x57, .int 0, .int 0, .int 0])), (x2, .inr (5, [.ref x3, .ref x4, .ref x5, .ref x7, .ref x9, .ref x11, .int 0, .int 0]))]) [0, 1] (by decide) rfl
  have hKc := hK.sub (tys' := []) [] rfl
  have hFc := va_free (wc := [(x0, .inr (7, [.ref x1, .ref x2, .ref x45, .ref x53, .ref x55, .ref x57, .int 0, .int 0, .int 0])), (x2, .inr (5, [.ref x3, .ref x4, .ref x5, .ref x7, .ref x9, .ref x11, .int 0, .int 0]))]) hD hS hA [0, 1] rfl
  refine va_calli (vx_runSW (As := [.ref x0, .int v1, .int v2, .int 1, .ref o0]) (rest := []) ⟨hx, hb, hml, hown, hts⟩ (kx_L_side_7 l hst dC dI ge5 gea gv5 gva gde gic gi0 x0 x2 o0 x1 x45 x53 x55 x57 x3 x4 x5 x7 x9 x11 H.size v1 v1_l v1_u v2 v2_l v2_u) (vx_cwSW 5 hts gL_law_L_side rfl rfl rfl (by decide +kernel) ⟨Nat.le_of_ble_eq_true rfl, Nat.le_of_ble_eq_true rfl⟩) ⟨fun a U g mk q => by obtain ⟨q0, q1, qP, qK, qD, qG⟩ := q; exact ⟨q0, q1, qP, va_K.moved (u := U) (U := U.calling g mk a) (Vm.Alike.refl U.vm) qK, qD, gv.fb qG⟩, fun U hU hW => ⟨rfl, by rw [hU], by rw [hU]; exact hPc, va_K.moved hW.alike hKc, hDc.weaken (fun _ _ _ _ => trivial), gv.pass hW hU hS hFc hG⟩⟩ rfl rfl hl.1 rfl (lv_room (Nat.le_of_ble_eq_true rfl)) dL_law_1266 ⟨Nat.le_of_ble_eq_true rfl, Nat.le_of_ble_eq_true rfl⟩) hS (fun q _ h => hFc q h) hFc (fun r9 u t H1 locs ht hvm hw hB hz1 hk1 hS => ?_)
  obtain rfl := hw
  obtain ⟨hP1, hK1, hD1⟩ := hB
  rw [ht] at hP1
  have hK1 := va_K.moved hvm.symm hK1
  obtain ⟨hP, hD⟩ := va_join (wr := [(m0, .inr (9, [.int 0, .ref m1, .ref m2, .ref m3, .int 0, .int 0, .int 0])), (m2, .inr (3, [.int 0, .ref gde, .int 0]))]) (w1 := [(x0, .inr (7, [.ref x1, .ref x2, .ref x45, .ref x53, .ref x55, .ref x57, .int 0, .int 0, .int 0])), (x2, .inr (5, [.ref x3, .ref x4, .ref x5, .ref x7, .ref x9, .ref x11, .int 0, .int 0]))]) hP hD [0, 1] [2, 3] rfl rfl (by decide) (by decide) hk1 hFc hP1 hD1
  generalize H1 = H at hP hS ⊢
  have hP : va_P (dC, dI) vwCl [(m0, .inr (9, [.int 0, .ref m1, .ref m2, .ref m3, .int 0, .int 0, .int 0])), (m2, .inr (3, [.int 0, .ref gde, .int 0])), (x0, .inr (7, [.ref x1, .ref x2, .ref x45, .ref x53, .ref x55, .ref x57, .int 0, .int 0, .int 0])), (x2, .inr (5, [.ref x3, .ref x4, .ref x5, .ref x7, .ref x9, .ref x11, .int 0, .int 0]))] H := hP
  have hD : va_D A [(m0, .inr (9, [.int 0, .ref m1, .ref m2, .ref m3, .int 0, .int 0, .int 0])), (m2, .inr (3, [.int 0, .ref gde, .int 0])), (x0, .inr (7, [.ref x1, .ref x2, .ref x45, .ref x53, .ref x55, .ref x57, .int 0, .int 0, .int 0])), (x2, .inr (5, [.ref x3, .ref x4, .ref x5, .ref x7, .ref x9, .ref x11, .int 0, .int 0]))] := hD
  refine W.widen (k := 73) (n := 2754) (by omega) (by omega) ?_
  refine lv_istore (lv' := [(5, .int 1), (4, .int 0), (3, .ref o0), (2, .ref m0), (1, .ref x0), (0, .ref b)]) hx hb dL_law_1269 hl (by decide) rfl (fun ls hl => ?_)
  refine lv_aload_n hx hb dL_law_1271 rfl (lv_at hl 3 rfl) ?_
  refine lv_aload_n hx hb dL_law_1272 rfl (lv_at hl 5 rfl) ?_
  refine lv_iload hx hb dL_law_1273 (lv_at hl 1 rfl) ?_
  refine lv_iconst (v := 1) hx hb dL_law_1275 (by decide) ?_
  refine lv_iadd hx hb dL_law_1276 ?_
  refine lv_topi (fun y4 ey4 => ?_)
  obtain rfl : y4 = 1 := ey4.trans (by decide)
  refine va_sld hx hb hX hbl hbA hS (by unfold vp_in; decide) dL_law_1277 ?_
  rw [show xs (Int32.toNatClampNeg 1) = v1 from hx1]
  refine lv_aload_n hx hb dL_law_1278 rfl (lv_at hl 5 rfl) ?_
  refine lv_iload hx hb dL_law_1279 (lv_at hl 1 rfl) ?_
  refine lv_iconst (v := 2) hx hb dL_law_1281 (by decide) ?_
  refine lv_iadd hx hb dL_law_1282 ?_
  refine lv_topi (fun y5 ey5 => ?_)
  obtain rfl : y5 = 2 := ey5.trans (by decide)
  refine va_sld hx hb hX hbl hbA hS (by unfold vp_in; decide) dL_law_1283 ?_
  rw [show xs (Int32.toNatClampNeg 2) = v2 from hx2]
  refine lv_aload_n hx hb dL_law_1284 rfl (lv_at hl 5 rfl) ?_
  refine lv_iload hx hb dL_law_1285 (lv_at hl 1 rfl) ?_
  refine lv_iconst (v := 3) hx hb dL_law_1287 (by decide) ?_
  refine lv_iadd hx hb dL_law_1288 ?_
  refine lv_topi (fun y6 ey6 => ?_)
  obtain rfl : y6 = 3 := ey6.trans (by decide)
  refine va_sld hx hb hX hbl hbA hS (by unfold vp_in; decide) dL_law_1289 ?_
  rw [show xs (Int32.toNatClampNeg 3) = v3 from hx3]
  refine lv_if_eq (tgt := 1297) hx hb dL_law_1290 (by decide) (fun c9 => absurd c9 (fun c8 => absurd (congrArg Int32.toInt c8) (by rw [show (0 : Int32).toInt = 0 from by decide]; omega))) (fun _ => ?_)
  refine lv_iconst (v := 1) hx hb dL_law_1293 (by decide) ?_
  refine lv_goto (tgt := 1298) hx hb dL_law_1294 (by decide) ?_
  have hPc := hP.sub (ws' := [(m0, .inr (9, [.int 0, .ref m1, .ref m2, .ref m3, .int 0, .int 0, .int 0])), (m2, .inr (3, [.int 0, .ref gde, .int 0]))]) [0, 1] rfl
  have hDc := hD.sub (ws' := [(m0, .inr (9, [.int 0, .ref m1, .ref m2, .ref m3, .int 0, .int 0, .int 0])), (m2, .inr (3, [.int 0, .ref gde, .int 0]))]) [0, 1] (by decide) rfl
  have hKc := hK.sub (tys' := []) [] rfl
  have hFc := va_free (wc := [(m0, .inr (9, [.int 0, .ref m1, .ref m2, .ref m3, .int 0, .int 0, .int 0])), (m2, .inr (3, [.int 0, .ref gde, .int 0]))]) hD hS hA [0, 1] rfl
  refine va_calli (va_runV (As := [.int v1, .int v2, .int 1]) (rest := []) ⟨hx, hb, hml, hown, hts⟩ (kx_X5_side_7 l dC dI ge5 gea gv5 gva gde gic gi0 m0 m2 m1 m3 H.size v1 v1_l v1_u v2 v2_l v2_u) (cwV 3 hts gL_law_X5_side rfl rfl rfl (by decide +kernel) ⟨Nat.le_of_ble_eq_true rfl, Nat.le_of_ble_eq_true rfl⟩) ⟨fun a U g mk q => by obtain ⟨q0, q1, qP, qK, qD, qG⟩ := q; exact ⟨q0, q1, qP, va_K.moved (u := U) (U := U.calling g mk a) (Vm.Alike.refl U.vm) qK, qD, gv.fb qG⟩, va_recv hKc hPc (ci := 9) (q0 := 0) rfl rfl, fun U hU hW => ⟨rfl, by rw [hU], by rw [hU]; exact hPc, va_K.moved hW.alike hKc, hDc.weaken (fun _ _ _ _ => trivial), gv.pass hW hU hS hFc hG⟩⟩ rfl rfl hl.1 rfl (lv_room (Nat.le_of_ble_eq_true rfl)) dL_law_1298 ⟨Nat.le_of_ble_eq_true rfl, Nat.le_of_ble_eq_true rfl⟩) hS (fun q _ h => hFc q h) hFc (fun r9 u t H1 locs ht hvm hw hB hz1 hk1 hS => ?_)
  obtain rfl := hw
  obtain ⟨hP1, hK1, hD1⟩ := hB
  rw [ht] at hP1
  have hK1 := va_K.moved hvm.symm hK1
  obtain ⟨hP, hD⟩ := va_join (wr := [(x0, .inr (7, [.ref x1, .ref x2, .ref x45, .ref x53, .ref x55, .ref x57, .int 0, .int 0, .int 0])), (x2, .inr (5, [.ref x3, .ref x4, .ref x5, .ref x7, .ref x9, .ref x11, .int 0, .int 0]))]) (w1 := [(m0, .inr (9, [.int 1, .ref m1, .ref m2, .ref m3, .int 0, .int 0, .int 0]))]) hP hD [0, 1] [2, 3] rfl rfl (by decide) (by decide) hk1 hFc hP1 hD1
  generalize H1 = H at hP hS ⊢
  have hP : va_P (dC, dI) vwCl [(x0, .inr (7, [.ref x1, .ref x2, .ref x45, .ref x53, .ref x55, .ref x57, .int 0, .int 0, .int 0])), (x2, .inr (5, [.ref x3, .ref x4, .ref x5, .ref x7, .ref x9, .ref x11, .int 0, .int 0])), (m0, .inr (9, [.int 1, .ref m1, .ref m2, .ref m3, .int 0, .int 0, .int 0]))] H := hP
  have hD : va_D A [(x0, .inr (7, [.ref x1, .ref x2, .ref x45, .ref x53, .ref x55, .ref x57, .int 0, .int 0, .int 0])), (x2, .inr (5, [.ref x3, .ref x4, .ref x5, .ref x7, .ref x9, .ref x11, .int 0, .int 0])), (m0, .inr (9, [.int 1, .ref m1, .ref m2, .ref m3, .int 0, .int 0, .int 0]))] := hD
  refine lv_istore (lv' := [(6, .int 0), (5, .int 1), (4, .int 0), (3, .ref o0), (2, .ref m0), (1, .ref x0), (0, .ref b)]) hx hb dL_law_1301 hl (by decide) rfl (fun ls hl => ?_)
  refine lv_aload_n hx hb dL_law_1303 rfl (lv_at hl 4 rfl) ?_
  have hPc := hP.sub (ws' := [(m0, .inr (9, [.int 1, .ref m1, .ref m2, .ref m3, .int 0, .int 0, .int 0]))]) [2] rfl
  have hDc := hD.sub (ws' := [(m0, .inr (9, [.int 1, .ref m1, .ref m2, .ref m3, .int 0, .int 0, .int 0]))]) [2] (by decide) rfl
  have hKc := hK.sub (tys' := []) [] rfl
  have hFc := va_free (wc := [(m0, .inr (9, [.int 1, .ref m1, .ref m2, .ref m3, .int 0, .int 0, .int 0]))]) hD hS hA [2] rfl
  refine va_calli (va_runV (As := []) (rest := []) ⟨hx, hb, hml, hown, hts⟩ (kx_X5_thrown_0 l dC dI m0 m1 m2 m3 H.size) (cwV 0 hts gL_law_X5_thrown rfl rfl rfl (by decide +kernel) ⟨Nat.le_of_ble_eq_true rfl, Nat.le_of_ble_eq_true rfl⟩) ⟨fun a U g mk q => by obtain ⟨q0, q1, qP, qK, qD⟩ := q; exact ⟨q0, q1, qP, va_K.moved (u := U) (U := U.calling g mk a) (Vm.Alike.refl U.vm) qK, qD⟩, va_recv hKc hPc (ci := 9) (q0 := 0) rfl rfl, fun U hU hW => ⟨rfl, by rw [hU], by rw [hU]; exact hPc, va_K.moved hW.alike hKc, hDc.weaken (fun _ _ _ _ => trivial)⟩⟩ rfl rfl hl.1 rfl (lv_room (Nat.le_of_ble_eq_true rfl)) dL_law_1304 ⟨Nat.le_of_ble_eq_true rfl, Nat.le_of_ble_eq_true rfl⟩) hS (fun q _ h => hFc q h) hFc (fun r9 u t H1 locs ht hvm hw hB hz1 hk1 hS => ?_)
  obtain rfl := hw
  obtain ⟨hP1, hK1, hD1⟩ := hB
  rw [ht] at hP1
  have hK1 := va_K.moved hvm.symm hK1
  obtain ⟨hP, hD⟩ := va_join (wr := [(x0, .inr (7, [.ref x1, .ref x2, .ref x45, .ref x53, .ref x55, .ref x57, .int 0, .int 0, .int 0])), (x2, .inr (5, [.ref x3, .ref x4, .ref x5, .ref x7, .ref x9, .ref x11, .int 0, .int 0]))]) (w1 := [(m0, .inr (9, [.int 1, .ref m1, .ref m2, .ref m3, .int 0, .int 0, .int 0]))]) hP hD [2] [0, 1] rfl rfl (by decide) (by decide) hk1 hFc hP1 hD1
  generalize H1 = H at hP hS ⊢
  have hP : va_P (dC, dI) vwCl [(x0, .inr (7, [.ref x1, .ref x2, .ref x45, .ref x53, .ref x55, .ref x57, .int 0, .int 0, .int 0])), (x2, .inr (5, [.ref x3, .ref x4, .ref x5, .ref x7, .ref x9, .ref x11, .int 0, .int 0])), (m0, .inr (9, [.int 1, .ref m1, .ref m2, .ref m3, .int 0, .int 0, .int 0]))] H := hP
  have hD : va_D A [(x0, .inr (7, [.ref x1, .ref x2, .ref x45, .ref x53, .ref x55, .ref x57, .int 0, .int 0, .int 0])), (x2, .inr (5, [.ref x3, .ref x4, .ref x5, .ref x7, .ref x9, .ref x11, .int 0, .int 0])), (m0, .inr (9, [.int 1, .ref m1, .ref m2, .ref m3, .int 0, .int 0, .int 0]))] := hD
  refine lv_iload hx hb dL_law_1307 (lv_at hl 1 rfl) ?_
  refine lv_icmp_eq (tgt := 1314) hx hb dL_law_1309 (by decide) (fun _ => ?_) (fun c9 => absurd (by decide) c9)
  refine lv_iload hx hb dL_law_1314 (lv_at hl 1 rfl) ?_
  refine lv_if_ne (tgt := 1332) hx hb dL_law_1316 (by decide) (fun _ => ?_) (fun c9 => absurd c9 (by decide))
  refine lv_goto (tgt := 2342) hx hb dL_law_1332 (by decide) ?_
  refine lv_iinc (v := 7) (lv' := [(4, .int 7), (6, .int 0), (5, .int 1), (3, .ref o0), (2, .ref m0), (1, .ref x0), (0, .ref b)]) hx hb dL_law_2342 hl (k := 2) rfl (by decide) (by decide) rfl (fun ls hl => ?_)
  refine lv_goto (tgt := 27) hx hb dL_law_2345 (by decide) ?_
  refine lv_iload hx hb dL_law_27 (lv_at hl 0 rfl) ?_
  refine lv_aload_n hx hb dL_law_29 rfl (lv_at hl 6 rfl) ?_
  refine va_slen hx hb hX hbl hbA hS dL_law_30 ?_
  refine lv_topi (fun y7 ey7 => ?_)
  obtain rfl : y7 = 7 := ey7.trans (by decide)
  refine lv_bipush (v := 7) hx hb dL_law_31 (by decide) ?_
  refine lv_isub hx hb dL_law_33 ?_
  refine lv_topi (fun y8 ey8 => ?_)
  obtain rfl : y8 = 0 := ey8.trans (by decide)
  refine lv_icmp_gt (tgt := 2348) hx hb dL_law_34 (by decide) (fun _ => ?_) (fun c9 => absurd (by decide) c9)
  refine lv_iconst (v := 1) hx hb dL_law_2348 (by decide) ?_
  refine va_forget (fun q hq => (by have h := hS.2.2 q hq; rw [hAe] at h; exact h)) ?_
  refine W.widen (k := 600002) (n := 7302232) (Nat.le_of_ble_eq_true rfl) (Nat.le_of_ble_eq_true rfl) ?_
  exact lw_ret hx hb hr hlocks dL_law_2349
set_option maxHeartbeats 4000000 in
set_option maxRecDepth 100000 in
theorem lc_side_11 {p : Program} {e : Env} {s : State} {m : MethodId} {below : List Frame} {meth : Method} {c : Code} {l : Launch} (hst : l.stackTraces = false) {b : Nat} {xs : Nat → Int32} (C9 : lx_At p s m meth c b xs) {dC : Nat → ClassId} {dI : Nat → Nat → Nat} {ge5 gea gv5 gva gde gic gi0 : Nat} {x0 x2 m0 m2 x1 x45 x53 x55 x57 x3 x4 x5 x7 x9 x11 m1 m3 o0 : Nat} (hG : gv ge5 gea gv5 gva gde gic gi0 (fun q => s.heap.size ≤ q) s s.heap) {v1 : Int32} (v1_l : (0 : Int) ≤ v1.toInt) (v1_u : v1.toInt ≤ (3 : Int)) {v2 : Int32} (v2_l : (0 : Int) ≤ v2.toInt) (v2_u : v2.toInt ≤ (2147483647 : Int)) {v3 : Int32} (v3_l : (1 : Int) ≤ v3.toInt) (v3_u : v3.toInt ≤ (2147483647 : Int)) (hx1 : xs 1 = v1) (hx2 : xs 2 = v2) (hx3 : xs 3 = v3) {H : Heap} {locs : List Loc} (hK : va_K (dC, dI) vwCl [] s) (hP : va_P (dC, dI) vwCl [(x0, .inr (7, [.ref x1, .ref x2, .ref x45, .ref x53, .ref x55, .ref x57, .int 0, .int 0, .int 0])), (x2, .inr (5, [.ref x3, .ref x4, .ref x5, .ref x7, .ref x9, .ref x11, .int 0, .int 0])), (m0, .inr (9, [.int 0, .ref m1, .ref m2, .ref m3, .int 0, .int 0, .int 0])), (m2, .inr (3, [.int 0, .ref gde, .int 0]))] H) (hD : va_D (fun q => s.heap.size ≤ q) [(x0, .inr (7, [.ref x1, .ref x2, .ref x45, .ref x53, .ref x55, .ref x57, .int 0, .int 0, .int 0])), (x2, .inr (5, [.ref x3, .ref x4, .ref x5, .ref x7, .ref x9, .ref x11, .int 0, .int 0])), (m0, .inr (9, [.int 0, .ref m1, .ref m2, .ref m3, .int 0, .int 0, .int 0])), (m2, .inr (3, [.int 0, .ref gde, .int 0]))]) (hS : va_S (fun q => s.heap.size ≤ q) s.heap H locs) {ls : Array Slot} (hl : lv_has ls 7 [(4, .int 0), (3, .ref o0), (2, .ref m0), (1, .ref x0), (0, .ref b)]) : W p l e room_1 s m #[Value.ref b] below meth c H locs 72 2748 (lw_Z below #[Value.ref b] s) (F0 m 1238 ls []) := by
  obtain ⟨hx, hb, hr, hml, hown, hts, hX, hbl, hlocks⟩ := id C9
  have hA : ∀ q : Nat, s.heap.size ≤ q → (fun q : Nat => s.heap.size ≤ q) q := fun _ h => h
  have hbA : ¬ (fun q : Nat => s.heap.size ≤ q) b := Nat.not_le.mpr hbl
  obtain ⟨A, hAe⟩ : ∃ A : Nat → Prop, A = (fun q : Nat => s.heap.size ≤ q) := ⟨_, rfl⟩
  rw [← hAe] at hG hD hS hA hbA
  obtain ⟨⟨g_AO_Text, g_AO_String, g_AO_Object, g_nm_RX1_20, g_nm_RX0_17, g_nm_RX3_31, g_nm_RX2_44, g_nm_RL_121, g_nf_RL_13, g_nf_RL_47, g_ca_IO, g_ca_IA, g_ca_IS, g_ca_IntObj, g_ca_StrObj, g_de_RT, g_de_EX, g_de_TH, g_nc_IA_IO, g_nc_IS_IO, g_nc_IS_IA⟩, ⟨g_s3, g_s5, g_sa, g_x278, g_x280, g_x282, g_x284, g_x286, g_x180, g_x238, g_x250⟩, ⟨g_o5, g_c5, g_v5, g_t5, g_oa, g_ca, g_va, g_ta, g_zc, g_zd, g_td, g_zf, g_zU, g_zN, g_zh, g_zk, g_tk, g_oi, g_vi⟩⟩ := id hG
  refine lv_aload_n hx hb dL_law_1238 rfl (lv_at hl 3 rfl) ?_
  refine lv_aload_n hx hb dL_law_1239 rfl (lv_at hl 4 rfl) ?_
  refine lv_iload hx hb dL_law_1240 (lv_at hl 0 rfl) ?_
  refine lv_iconst (v := 1) hx hb dL_law_1242 (by decide) ?_
  refine lv_iadd hx hb dL_law_1243 ?_
  refine lv_topi (fun y1 ey1 => ?_)
  obtain rfl : y1 = 1 := ey1.trans (by decide)
  refine va_sld hx hb hX hbl hbA hS (by unfold vp_in; decide) dL_law_1244 ?_
  rw [show xs (Int32.toNatClampNeg 1) = v1 from hx1]
  refine lv_aload_n hx hb dL_law_1245 rfl (lv_at hl 4 rfl) ?_
  refine lv_iload hx hb dL_law_1246 (lv_at hl 0 rfl) ?_
  refine lv_iconst (v := 2) hx hb dL_law_1248 (by decide) ?_
  refine lv_iadd hx hb dL_law_1249 ?_
  refine lv_topi (fun y2 ey2 => ?_)
  obtain rfl : y2 = 2 := ey2.trans (by decide)
  refine va_sld hx hb hX hbl hbA hS (by unfold vp_in; decide) dL_law_1250 ?_
  rw [show xs (Int32.toNatClampNeg 2) = v2 from hx2]
  refine lv_aload_n hx hb dL_law_1251 rfl (lv_at hl 4 rfl) ?_
  refine lv_iload hx hb dL_law_1252 (lv_at hl 0 rfl) ?_
  refine lv_iconst (v := 3) hx hb dL_law_1254 (by decide) ?_
  refine lv_iadd hx hb dL_law_1255 ?_
  refine lv_topi (fun y3 ey3 => ?_)
  obtain rfl : y3 = 3 := ey3.trans (by decide)
  refine va_sld hx hb hX hbl hbA hS (by unfold vp_in; decide) dL_law_1256 ?_
  rw [show xs (Int32.toNatClampNeg 3) = v3 from hx3]
  refine lv_if_eq (tgt := 1264) hx hb dL_law_1257 (by decide) (fun c9 => absurd c9 (fun c8 => absurd (congrArg Int32.toInt c8) (by rw [show (0 : Int32).toInt = 0 from by decide]; omega))) (fun _ => ?_)
  refine lv_iconst (v := 1) hx hb dL_law_1260 (by decide) ?_
  refine lv_goto (tgt := 1265) hx hb dL_law_1261 (by decide) ?_
  refine lv_aload_n hx hb dL_law_1265 rfl (lv_at hl 1 rfl) ?_
  have hPc := hP.sub (ws' := [(x0, .inr (7, [.ref x1, .ref x2, .ref x45, .ref x53, .ref x55, .ref x57, .int 0, .int 0, .int 0])), (x2, .inr (5, [.ref x3, .ref x4, .ref x5, .ref x7, .ref x9, .ref x11, .int 0, .int 0]))]) [0, 1] rfl
  have hDc := hD.sub (ws' := [(x0, .inr (7, [.ref x1, .ref x2, .ref x45, .ref x53, .ref x55, .ref x57, .int 0, .int 0, .int 0])), (x2, .inr (5, [.ref x3, .ref x4, .ref x5, .ref x7, .ref x9, .ref x11, .int 0, .int 0]))]) [0, 1] (by decide) rfl
  have hKc := hK.sub (tys' := []) [] rfl
  have hFc := va_free (wc := [(x0, .inr (7, [.ref x1, .ref x2, .ref x45, .ref x53, .ref x55, .ref x57, .int 0, .int 0, .int 0])), (x2, .inr (5, [.ref x3, .ref x4, .ref x5, .ref x7, .ref x9, .ref x11, .int 0, .int 0]))]) hD hS hA [0, 1] rfl
  refine va_calli (vx_runSW (As := [.ref x0, .int v1, .int v2, .int 1, .ref o0]) (rest := []) ⟨hx, hb, hml, hown, hts⟩ (kx_L_side_7 l hst dC dI ge5 gea gv5 gva gde gic gi0 x0 x2 o0 x1 x45 x53 x55 x57 x3 x4 x5 x7 x9 x11 H.size v1 v1_l v1_u v2 v2_l v2_u) (vx_cwSW 5 hts gL_law_L_side rfl rfl rfl (by decide +kernel) ⟨Nat.le_of_ble_eq_true rfl, Nat.le_of_ble_eq_true rfl⟩) ⟨fun a U g mk q => by obtain ⟨q0, q1, qP, qK, qD, qG⟩ := q; exact ⟨q0, q1, qP, va_K.moved (u := U) (U := U.calling g mk a) (Vm.Alike.refl U.vm) qK, qD, gv.fb qG⟩, fun U hU hW => ⟨rfl, by rw [hU], by rw [hU]; exact hPc, va_K.moved hW.alike hKc, hDc.weaken (fun _ _ _ _ => trivial), gv.pass hW hU hS hFc hG⟩⟩ rfl rfl hl.1 rfl (lv_room (Nat.le_of_ble_eq_true rfl)) dL_law_1266 ⟨Nat.le_of_ble_eq_true rfl, Nat.le_of_ble_eq_true rfl⟩) hS (fun q _ h => hFc q h) hFc (fun r9 u t H1 locs ht hvm hw hB hz1 hk1 hS => ?_)
  obtain rfl := hw
  obtain ⟨hP1, hK1, hD1⟩ := hB
  rw [ht] at hP1
  have hK1 := va_K.moved hvm.symm hK1
  obtain ⟨hP, hD⟩ := va_join (wr := [(m0, .inr (9, [.int 0, .ref m1, .ref m2, .ref m3, .int 0, .int 0, .int 0])), (m2, .inr (3, [.int 0, .ref gde, .int 0]))]) (w1 := [(x0, .inr (7, [.ref x1, .ref x2, .ref x45, .ref x53, .ref x55, .ref x57, .int 0, .int 0, .int 0])), (x2, .inr (5, [.ref x3, .ref x4, .ref x5, .ref x7, .ref x9, .ref x11, .int 0, .int 0]))]) hP hD [0, 1] [2, 3] rfl rfl (by decide) (by decide) hk1 hFc hP1 hD1
  generalize H1 = H at hP hS ⊢
  have hP : va_P (dC, dI) vwCl [(m0, .inr (9, [.int 0, .ref m1, .ref m2, .ref m3, .int 0, .int 0, .int 0])), (m2, .inr (3, [.int 0, .ref gde, .int 0])), (x0, .inr (7, [.ref x1, .ref x2, .ref x45, .ref x53, .ref x55, .ref x57, .int 0, .int 0, .int 0])), (x2, .inr (5, [.ref x3, .ref x4, .ref x5, .ref x7, .ref x9, .ref x11, .int 0, .int 0]))] H := hP
  have hD : va_D A [(m0, .inr (9, [.int 0, .ref m1, .ref m2, .ref m3, .int 0, .int 0, .int 0])), (m2, .inr (3, [.int 0, .ref gde, .int 0])), (x0, .inr (7, [.ref x1, .ref x2, .ref x45, .ref x53, .ref x55, .ref x57, .int 0, .int 0, .int 0])), (x2, .inr (5, [.ref x3, .ref x4, .ref x5, .ref x7, .ref x9, .ref x11, .int 0, .int 0]))] := hD
  refine W.widen (k := 73) (n := 2754) (by omega) (by omega) ?_
  refine lv_istore (lv' := [(5, .int 1), (4, .int 0), (3, .ref o0), (2, .ref m0), (1, .ref x0), (0, .ref b)]) hx hb dL_law_1269 hl (by decide) rfl (fun ls hl => ?_)
  refine lv_aload_n hx hb dL_law_1271 rfl (lv_at hl 3 rfl) ?_
  refine lv_aload_n hx hb dL_law_1272 rfl (lv_at hl 5 rfl) ?_
  refine lv_iload hx hb dL_law_1273 (lv_at hl 1 rfl) ?_
  refine lv_iconst (v := 1) hx hb dL_law_1275 (by decide) ?_
  refine lv_iadd hx hb dL_law_1276 ?_
  refine lv_topi (fun y4 ey4 => ?_)
  obtain rfl : y4 = 1 := ey4.trans (by decide)
  refine va_sld hx hb hX hbl hbA hS (by unfold vp_in; decide) dL_law_1277 ?_
  rw [show xs (Int32.toNatClampNeg 1) = v1 from hx1]
  refine lv_aload_n hx hb dL_law_1278 rfl (lv_at hl 5 rfl) ?_
  refine lv_iload hx hb dL_law_1279 (lv_at hl 1 rfl) ?_
  refine lv_iconst (v := 2) hx hb dL_law_1281 (by decide) ?_
  refine lv_iadd hx hb dL_law_1282 ?_
  refine lv_topi (fun y5 ey5 => ?_)
  obtain rfl : y5 = 2 := ey5.trans (by decide)
  refine va_sld hx hb hX hbl hbA hS (by unfold vp_in; decide) dL_law_1283 ?_
  rw [show xs (Int32.toNatClampNeg 2) = v2 from hx2]
  refine lv_aload_n hx hb dL_law_1284 rfl (lv_at hl 5 rfl) ?_
  refine lv_iload hx hb dL_law_1285 (lv_at hl 1 rfl) ?_
  refine lv_iconst (v := 3) hx hb dL_law_1287 (by decide) ?_
  refine lv_iadd hx hb dL_law_1288 ?_
  refine lv_topi (fun y6 ey6 => ?_)
  obtain rfl : y6 = 3 := ey6.trans (by decide)
  refine va_sld hx hb hX hbl hbA hS (by unfold vp_in; decide) dL_law_1289 ?_
  rw [show xs (Int32.toNatClampNeg 3) = v3 from hx3]
  refine lv_if_eq (tgt := 1297) hx hb dL_law_1290 (by decide) (fun c9 => absurd c9 (fun c8 => absurd (congrArg Int32.toInt c8) (by rw [show (0 : Int32).toInt = 0 from by decide]; omega))) (fun _ => ?_)
  refine lv_iconst (v := 1) hx hb dL_law_1293 (by decide) ?_
  refine lv_goto (tgt := 1298) hx hb dL_law_1294 (by decide) ?_
  have hPc := hP.sub (ws' := [(m0, .inr (9, [.int 0, .ref m1, .ref m2, .ref m3, .int 0, .int 0, .int 0])), (m2, .inr (3, [.int 0, .ref gde, .int 0]))]) [0, 1] rfl
  have hDc := hD.sub (ws' := [(m0, .inr (9, [.int 0, .ref m1, .ref m2, .ref m3, .int 0, .int 0, .int 0])), (m2, .inr (3, [.int 0, .ref gde, .int 0]))]) [0, 1] (by decide) rfl
  have hKc := hK.sub (tys' := []) [] rfl
  have hFc := va_free (wc := [(m0, .inr (9, [.int 0, .ref m1, .ref m2, .ref m3, .int 0, .int 0, .int 0])), (m2, .inr (3, [.int 0, .ref gde, .int 0]))]) hD hS hA [0, 1] rfl
  refine va_calli (va_runV (As := [.int v1, .int v2, .int 1]) (rest := []) ⟨hx, hb, hml, hown, hts⟩ (kx_X5_side_7 l dC dI ge5 gea gv5 gva gde gic gi0 m0 m2 m1 m3 H.size v1 v1_l v1_u v2 v2_l v2_u) (cwV 3 hts gL_law_X5_side rfl rfl rfl (by decide +kernel) ⟨Nat.le_of_ble_eq_true rfl, Nat.le_of_ble_eq_true rfl⟩) ⟨fun a U g mk q => by obtain ⟨q0, q1, qP, qK, qD, qG⟩ := q; exact ⟨q0, q1, qP, va_K.moved (u := U) (U := U.calling g mk a) (Vm.Alike.refl U.vm) qK, qD, gv.fb qG⟩, va_recv hKc hPc (ci := 9) (q0 := 0) rfl rfl, fun U hU hW => ⟨rfl, by rw [hU], by rw [hU]; exact hPc, va_K.moved hW.alike hKc, hDc.weaken (fun _ _ _ _ => trivial), gv.pass hW hU hS hFc hG⟩⟩ rfl rfl hl.1 rfl (lv_room (Nat.le_of_ble_eq_true rfl)) dL_law_1298 ⟨Nat.le_of_ble_eq_true rfl, Nat.le_of_ble_eq_true rfl⟩) hS (fun q _ h => hFc q h) hFc (fun r9 u t H1 locs ht hvm hw hB hz1 hk1 hS => ?_)
  obtain rfl := hw
  obtain ⟨hP1, hK1, hD1⟩ := hB
  rw [ht] at hP1
  have hK1 := va_K.moved hvm.symm hK1
  obtain ⟨hP, hD⟩ := va_join (wr := [(x0, .inr (7, [.ref x1, .ref x2, .ref x45, .ref x53, .ref x55, .ref x57, .int 0, .int 0, .int 0])), (x2, .inr (5, [.ref x3, .ref x4, .ref x5, .ref x7, .ref x9, .ref x11, .int 0, .int 0]))]) (w1 := [(m0, .inr (9, [.int 1, .ref m1, .ref m2, .ref m3, .int 0, .int 0, .int 0]))]) hP hD [0, 1] [2, 3] rfl rfl (by decide) (by decide) hk1 hFc hP1 hD1
  generalize H1 = H at hP hS ⊢
  have hP : va_P (dC, dI) vwCl [(x0, .inr (7, [.ref x1, .ref x2, .ref x45, .ref x53, .ref x55, .ref x57, .int 0, .int 0, .int 0])), (x2, .inr (5, [.ref x3, .ref x4, .ref x5, .ref x7, .ref x9, .ref x11, .int 0, .int 0])), (m0, .inr (9, [.int 1, .ref m1, .ref m2, .ref m3, .int 0, .int 0, .int 0]))] H := hP
  have hD : va_D A [(x0, .inr (7, [.ref x1, .ref x2, .ref x45, .ref x53, .ref x55, .ref x57, .int 0, .int 0, .int 0])), (x2, .inr (5, [.ref x3, .ref x4, .ref x5, .ref x7, .ref x9, .ref x11, .int 0, .int 0])), (m0, .inr (9, [.int 1, .ref m1, .ref m2, .ref m3, .int 0, .int 0, .int 0]))] := hD
  refine lv_istore (lv' := [(6, .int 0), (5, .int 1), (4, .int 0), (3, .ref o0), (2, .ref m0), (1, .ref x0), (0, .ref b)]) hx hb dL_law_1301 hl (by decide) rfl (fun ls hl => ?_)
  refine lv_aload_n hx hb dL_law_1303 rfl (lv_at hl 4 rfl) ?_
  have hPc := hP.sub (ws' := [(m0, .inr (9, [.int 1, .ref m1, .ref m2, .ref m3, .int 0, .int 0, .int 0]))]) [2] rfl
  have hDc := hD.sub (ws' := [(m0, .inr (9, [.int 1, .ref m1, .ref m2, .ref m3, .int 0, .int 0, .int 0]))]) [2] (by decide) rfl
  have hKc := hK.sub (tys' := []) [] rfl
  have hFc := va_free (wc := [(m0, .inr (9, [.int 1, .ref m1, .ref m2, .ref m3, .int 0, .int 0, .int 0]))]) hD hS hA [2] rfl
  refine va_calli (va_runV (As := []) (rest := []) ⟨hx, hb, hml, hown, hts⟩ (kx_X5_thrown_0 l dC dI m0 m1 m2 m3 H.size) (cwV 0 hts gL_law_X5_thrown rfl rfl rfl (by decide +kernel) ⟨Nat.le_of_ble_eq_true rfl, Nat.le_of_ble_eq_true rfl⟩) ⟨fun a U g mk q => by obtain ⟨q0, q1, qP, qK, qD⟩ := q; exact ⟨q0, q1, qP, va_K.moved (u := U) (U := U.calling g mk a) (Vm.Alike.refl U.vm) qK, qD⟩, va_recv hKc hPc (ci := 9) (q0 := 0) rfl rfl, fun U hU hW => ⟨rfl, by rw [hU], by rw [hU]; exact hPc, va_K.moved hW.alike hKc, hDc.weaken (fun _ _ _ _ => trivial)⟩⟩ rfl rfl hl.1 rfl (lv_room (Nat.le_of_ble_eq_true rfl)) dL_law_1304 ⟨Nat.le_of_ble_eq_true rfl, Nat.le_of_ble_eq_true rfl⟩) hS (fun q _ h => hFc q h) hFc (fun r9 u t H1 locs ht hvm hw hB hz1 hk1 hS => ?_)
  obtain rfl := hw
  obtain ⟨hP1, hK1, hD1⟩ := hB
  rw [ht] at hP1
  have hK1 := va_K.moved hvm.symm hK1
  obtain ⟨hP, hD⟩ := va_join (wr := [(x0, .inr (7, [.ref x1, .ref x2, .ref x45, .ref x53, .ref x55, .ref x57, .int 0, .int 0, .int 0])), (x2, .inr (5, [.ref x3, .ref x4, .ref x5, .ref x7, .ref x9, .ref x11, .int 0, .int 0]))]) (w1 := [(m0, .inr (9, [.int 1, .ref m1, .ref m2, .ref m3, .int 0, .int 0, .int 0]))]) hP hD [2] [0, 1] rfl rfl (by decide) (by decide) hk1 hFc hP1 hD1
  generalize H1 = H at hP hS ⊢
  have hP : va_P (dC, dI) vwCl [(x0, .inr (7, [.ref x1, .ref x2, .ref x45, .ref x53, .ref x55, .ref x57, .int 0, .int 0, .int 0])), (x2, .inr (5, [.ref x3, .ref x4, .ref x5, .ref x7, .ref x9, .ref x11, .int 0, .int 0])), (m0, .inr (9, [.int 1, .ref m1, .ref m2, .ref m3, .int 0, .int 0, .int 0]))] H := hP
  have hD : va_D A [(x0, .inr (7, [.ref x1, .ref x2, .ref x45, .ref x53, .ref x55, .ref x57, .int 0, .int 0, .int 0])), (x2, .inr (5, [.ref x3, .ref x4, .ref x5, .ref x7, .ref x9, .ref x11, .int 0, .int 0])), (m0, .inr (9, [.int 1, .ref m1, .ref m2, .ref m3, .int 0, .int 0, .int 0]))] := hD
  refine lv_iload hx hb dL_law_1307 (lv_at hl 1 rfl) ?_
  refine lv_icmp_eq (tgt := 1314) hx hb dL_law_1309 (by decide) (fun _ => ?_) (fun c9 => absurd (by decide) c9)
  refine lv_iload hx hb dL_law_1314 (lv_at hl 1 rfl) ?_
  refine lv_if_ne (tgt := 1332) hx hb dL_law_1316 (by decide) (fun _ => ?_) (fun c9 => absurd c9 (by decide))
  refine lv_goto (tgt := 2342) hx hb dL_law_1332 (by decide) ?_
  refine lv_iinc (v := 7) (lv' := [(4, .int 7), (6, .int 0), (5, .int 1), (3, .ref o0), (2, .ref m0), (1, .ref x0), (0, .ref b)]) hx hb dL_law_2342 hl (k := 2) rfl (by decide) (by decide) rfl (fun ls hl => ?_)
  refine lv_goto (tgt := 27) hx hb dL_law_2345 (by decide) ?_
  refine lv_iload hx hb dL_law_27 (lv_at hl 0 rfl) ?_
  refine lv_aload_n hx hb dL_law_29 rfl (lv_at hl 6 rfl) ?_
  refine va_slen hx hb hX hbl hbA hS dL_law_30 ?_
  refine lv_topi (fun y7 ey7 => ?_)
  obtain rfl : y7 = 7 := ey7.trans (by decide)
  refine lv_bipush (v := 7) hx hb dL_law_31 (by decide) ?_
  refine lv_isub hx hb dL_law_33 ?_
  refine lv_topi (fun y8 ey8 => ?_)
  obtain rfl : y8 = 0 := ey8.trans (by decide)
  refine lv_icmp_gt (tgt := 2348) hx hb dL_law_34 (by decide) (fun _ => ?_) (fun c9 => absurd (by decide) c9)
  refine lv_iconst (v := 1) hx hb dL_law_2348 (by decide) ?_
  refine va_forget (fun q hq => (by have h := hS.2.2 q hq; rw [hAe] at h; exact h)) ?_
  refine W.widen (k := 600002) (n := 7302232) (Nat.le_of_ble_eq_true rfl) (Nat.le_of_ble_eq_true rfl) ?_
  exact lw_ret hx hb hr hlocks dL_law_2349
set_option maxHeartbeats 4000000 in
set_option maxRecDepth 100000 in
theorem lc_rules_0 {p : Program} {e : Env} {s : State} {m : MethodId} {below : List Frame} {meth : Method} {c : Code} {l : Launch} (hst : l.stackTraces = false) {b : Nat} {xs : Nat → Int32} (C9 : lx_At p s m meth c b xs) {dC : Nat → ClassId} {dI : Nat → Nat → Nat} {ge5 gea gv5 gva gde gic gi0 : Nat} {x0 x2 m0 m2 x1 x45 x53 x55 x57 x3 x4 x5 x7 x9 x11 m1 m3 o0 : Nat} (hG : gv ge5 gea gv5 gva gde gic gi0 (fun q => s.heap.size ≤ q) s s.heap) {H : Heap} {locs : List Loc} (hK : va_K (dC, dI) vwCl [] s) (hP : va_P (dC, dI) vwCl [(x0, .inr (7, [.ref x1, .ref x2, .ref x45, .ref x53, .ref x55, .ref x57, .int 0, .int 0, .int 0])), (x2, .inr (5, [.ref x3, .ref x4, .ref x5, .ref x7, .ref x9, .ref x11, .int 0, .int 0])), (m0, .inr (9, [.int 0, .ref m1, .ref m2, .ref m3, .int 0, .int 0, .int 0])), (m2, .inr (3, [.int 0, .ref gde, .int 0]))] H) (hD : va_D (fun q => s.heap.size ≤ q) [(x0, .inr (7, [.ref x1, .ref x2, .ref x45, .ref x53, .ref x55, .ref x57, .int 0, .int 0, .int 0])), (x2, .inr (5, [.ref x3, .ref x4, .ref x5, .ref x7, .ref x9, .ref x11, .int 0, .int 0])), (m0, .inr (9, [.int 0, .ref m1, .ref m2, .ref m3, .int 0, .int 0, .int 0])), (m2, .inr (3, [.int 0, .ref gde, .int 0]))]) (hS : va_S (fun q => s.heap.size ≤ q) s.heap H locs) {ls : Array Slot} (hl : lv_has ls 7 [(4, .int 0), (3, .ref o0), (2, .ref m0), (1, .ref x0), (0, .ref b)]) : W p l e room_1 s m #[Value.ref b] below meth c H locs 72 2748 (lw_Z below #[Value.ref b] s) (F0 m 1335 ls []) := by
  obtain ⟨hx, hb, hr, hml, hown, hts, hX, hbl, hlocks⟩ := id C9
  have hA : ∀ q : Nat, s.heap.size ≤ q → (fun q : Nat => s.heap.size ≤ q) q := fun _ h => h
  have hbA : ¬ (fun q : Nat => s.heap.size ≤ q) b := Nat.not_le.mpr hbl
  obtain ⟨A, hAe⟩ : ∃ A : Nat → Prop, A = (fun q : Nat => s.heap.size ≤ q) := ⟨_, rfl⟩
  rw [← hAe] at hG hD hS hA hbA
  obtain ⟨⟨g_AO_Text, g_AO_String, g_AO_Object, g_nm_RX1_20, g_nm_RX0_17, g_nm_RX3_31, g_nm_RX2_44, g_nm_RL_121, g_nf_RL_13, g_nf_RL_47, g_ca_IO, g_ca_IA, g_ca_IS, g_ca_IntObj, g_ca_StrObj, g_de_RT, g_de_EX, g_de_TH, g_nc_IA_IO, g_nc_IS_IO, g_nc_IS_IA⟩, ⟨g_s3, g_s5, g_sa, g_x278, g_x280, g_x282, g_x284, g_x286, g_x180, g_x238, g_x250⟩, ⟨g_o5, g_c5, g_v5, g_t5, g_oa, g_ca, g_va, g_ta, g_zc, g_zd, g_td, g_zf, g_zU, g_zN, g_zh, g_zk, g_tk, g_oi, g_vi⟩⟩ := id hG
  refine lv_aload_n hx hb dL_law_1335 rfl (lv_at hl 3 rfl) ?_
  have hPc := hP.sub (ws' := [(x0, .inr (7, [.ref x1, .ref x2, .ref x45, .ref x53, .ref x55, .ref x57, .int 0, .int 0, .int 0])), (x2, .inr (5, [.ref x3, .ref x4, .ref x5, .ref x7, .ref x9, .ref x11, .int 0, .int 0]))]) [0, 1] rfl
  have hDc := hD.sub (ws' := [(x0, .inr (7, [.ref x1, .ref x2, .ref x45, .ref x53, .ref x55, .ref x57, .int 0, .int 0, .int 0])), (x2, .inr (5, [.ref x3, .ref x4, .ref x5, .ref x7, .ref x9, .ref x11, .int 0, .int 0]))]) [0, 1] (by decide) rfl
  have hKc := hK.sub (tys' := []) [] rfl
  have hFc := va_free (wc := [(x0, .inr (7, [.ref x1, .ref x2, .ref x45, .ref x53, .ref x55, .ref x57, .int 0, .int 0, .int 0])), (x2, .inr (5, [.ref x3, .ref x4, .ref x5, .ref x7, .ref x9, .ref x11, .int 0, .int 0]))]) hD hS hA [0, 1] rfl
  refine va_calli (va_runV (As := []) (rest := []) ⟨hx, hb, hml, hown, hts⟩ (kx_X3_rules_0 l dC dI x0 x2 x1 x45 x53 x55 x57 x3 x4 x5 x7 x9 x11 H.size) (cwV 0 hts gL_law_X3_rules rfl rfl rfl (by decide +kernel) ⟨Nat.le_of_ble_eq_true rfl, Nat.le_of_ble_eq_true rfl⟩) ⟨fun a U g mk q => by obtain ⟨q0, q1, qP, qK, qD⟩ := q; exact ⟨q0, q1, qP, va_K.moved (u := U) (U := U.calling g mk a) (Vm.Alike.refl U.vm) qK, qD⟩, va_recv hKc hPc (ci := 7) (q0 := 0) rfl rfl, fun U hU hW => ⟨rfl, by rw [hU], by rw [hU]; exact hPc, va_K.moved hW.alike hKc, hDc.weaken (fun _ _ _ _ => trivial)⟩⟩ rfl rfl hl.1 rfl (lv_room (Nat.le_of_ble_eq_true rfl)) dL_law_1336 ⟨Nat.le_of_ble_eq_true rfl, Nat.le_of_ble_eq_true rfl⟩) hS (fun q _ h => hFc q h) hFc (fun r9 u t H1 locs ht hvm hw hB hz1 hk1 hS => ?_)
  obtain rfl := hw
  obtain ⟨hP1, hK1, hD1⟩ := hB
  rw [ht] at hP1
  have hK1 := va_K.moved hvm.symm hK1
  obtain ⟨hP, hD⟩ := va_join (wr := [(m0, .inr (9, [.int 0, .ref m1, .ref m2, .ref m3, .int 0, .int 0, .int 0])), (m2, .inr (3, [.int 0, .ref gde, .int 0]))]) (w1 := [(x0, .inr (7, [.ref x1, .ref x2, .ref x45, .ref x53, .ref x55, .ref x57, .int 0, .int 0, .int 0])), (x2, .inr (5, [.ref x3, .ref x4, .ref x5, .ref x7, .ref x9, .ref x11, .int 0, .int 0]))]) hP hD [0, 1] [2, 3] rfl rfl (by decide) (by decide) hk1 hFc hP1 hD1
  generalize H1 = H at hP hS ⊢
  have hP : va_P (dC, dI) vwCl [(m0, .inr (9, [.int 0, .ref m1, .ref m2, .ref m3, .int 0, .int 0, .int 0])), (m2, .inr (3, [.int 0, .ref gde, .int 0])), (x0, .inr (7, [.ref x1, .ref x2, .ref x45, .ref x53, .ref x55, .ref x57, .int 0, .int 0, .int 0])), (x2, .inr (5, [.ref x3, .ref x4, .ref x5, .ref x7, .ref x9, .ref x11, .int 0, .int 0]))] H := hP
  have hD : va_D A [(m0, .inr (9, [.int 0, .ref m1, .ref m2, .ref m3, .int 0, .int 0, .int 0])), (m2, .inr (3, [.int 0, .ref gde, .int 0])), (x0, .inr (7, [.ref x1, .ref x2, .ref x45, .ref x53, .ref x55, .ref x57, .int 0, .int 0, .int 0])), (x2, .inr (5, [.ref x3, .ref x4, .ref x5, .ref x7, .ref x9, .ref x11, .int 0, .int 0]))] := hD
  refine lv_aload_n hx hb dL_law_1339 rfl (lv_at hl 2 rfl) ?_
  have hPc := hP.sub (ws' := [(m0, .inr (9, [.int 0, .ref m1, .ref m2, .ref m3, .int 0, .int 0, .int 0])), (m2, .inr (3, [.int 0, .ref gde, .int 0]))]) [0, 1] rfl
  have hDc := hD.sub (ws' := [(m0, .inr (9, [.int 0, .ref m1, .ref m2, .ref m3, .int 0, .int 0, .int 0])), (m2, .inr (3, [.int 0, .ref gde, .int 0]))]) [0, 1] (by decide) rfl
  have hKc := hK.sub (tys' := []) [] rfl
  have hFc := va_free (wc := [(m0, .inr (9, [.int 0, .ref m1, .ref m2, .ref m3, .int 0, .int 0, .int 0])), (m2, .inr (3, [.int 0, .ref gde, .int 0]))]) hD hS hA [0, 1] rfl
  refine va_calli (va_runV (As := []) (rest := [.int 0]) ⟨hx, hb, hml, hown, hts⟩ (kx_X5_rules_0 l dC dI ge5 gea gv5 gva gde gic gi0 m0 m2 m1 m3 H.size) (cwV 0 hts gL_law_X5_rules rfl rfl rfl (by decide +kernel) ⟨Nat.le_of_ble_eq_true rfl, Nat.le_of_ble_eq_true rfl⟩) ⟨fun a U g mk q => by obtain ⟨q0, q1, qP, qK, qD, qG⟩ := q; exact ⟨q0, q1, qP, va_K.moved (u := U) (U := U.calling g mk a) (Vm.Alike.refl U.vm) qK, qD, gv.fb qG⟩, va_recv hKc hPc (ci := 9) (q0 := 0) rfl rfl, fun U hU hW => ⟨rfl, by rw [hU], by rw [hU]; exact hPc, va_K.moved hW.alike hKc, hDc.weaken (fun _ _ _ _ => trivial), gv.pass hW hU hS hFc hG⟩⟩ rfl rfl hl.1 rfl (lv_room (Nat.le_of_ble_eq_true rfl)) dL_law_1340 ⟨Nat.le_of_ble_eq_true rfl, Nat.le_of_ble_eq_true rfl⟩) hS (fun q _ h => hFc q h) hFc (fun r9 u t H1 locs ht hvm hw hB hz1 hk1 hS => ?_)
  obtain rfl := hw
  obtain ⟨hP1, hK1, hD1⟩ := hB
  rw [ht] at hP1
  have hK1 := va_K.moved hvm.symm hK1
  obtain ⟨hP, hD⟩ := va_join (wr := [(x0, .inr (7, [.ref x1, .ref x2, .ref x45, .ref x53, .ref x55, .ref x57, .int 0, .int 0, .int 0])), (x2, .inr (5, [.ref x3, .ref x4, .ref x5, .ref x7, .ref x9, .ref x11, .int 0, .int 0]))]) (w1 := [(m0, .inr (9, [.int 0, .ref m1, .ref m2, .ref m3, .int 0, .int 0, .int 0]))]) hP hD [0, 1] [2, 3] rfl rfl (by decide) (by decide) hk1 hFc hP1 hD1
  generalize H1 = H at hP hS ⊢
  have hP : va_P (dC, dI) vwCl [(x0, .inr (7, [.ref x1, .ref x2, .ref x45, .ref x53, .ref x55, .ref x57, .int 0, .int 0, .int 0])), (x2, .inr (5, [.ref x3, .ref x4, .ref x5, .ref x7, .ref x9, .ref x11, .int 0, .int 0])), (m0, .inr (9, [.int 0, .ref m1, .ref m2, .ref m3, .int 0, .int 0, .int 0]))] H := hP
  have hD : va_D A [(x0, .inr (7, [.ref x1, .ref x2, .ref x45, .ref x53, .ref x55, .ref x57, .int 0, .int 0, .int 0])), (x2, .inr (5, [.ref x3, .ref x4, .ref x5, .ref x7, .ref x9, .ref x11, .int 0, .int 0])), (m0, .inr (9, [.int 0, .ref m1, .ref m2, .ref m3, .int 0, .int 0, .int 0]))] := hD
  refine lv_icmp_eq (tgt := 2342) hx hb dL_law_1343 (by decide) (fun _ => ?_) (fun c9 => absurd (by decide) c9)
  refine lv_iinc (v := 7) (lv' := [(4, .int 7), (3, .ref o0), (2, .ref m0), (1, .ref x0), (0, .ref b)]) hx hb dL_law_2342 hl (k := 0) rfl (by decide) (by decide) rfl (fun ls hl => ?_)
  refine lv_goto (tgt := 27) hx hb dL_law_2345 (by decide) ?_
  refine lv_iload hx hb dL_law_27 (lv_at hl 0 rfl) ?_
  refine lv_aload_n hx hb dL_law_29 rfl (lv_at hl 4 rfl) ?_
  refine va_slen hx hb hX hbl hbA hS dL_law_30 ?_
  refine lv_topi (fun y1 ey1 => ?_)
  obtain rfl : y1 = 7 := ey1.trans (by decide)
  refine lv_bipush (v := 7) hx hb dL_law_31 (by decide) ?_
  refine lv_isub hx hb dL_law_33 ?_
  refine lv_topi (fun y2 ey2 => ?_)
  obtain rfl : y2 = 0 := ey2.trans (by decide)
  refine lv_icmp_gt (tgt := 2348) hx hb dL_law_34 (by decide) (fun _ => ?_) (fun c9 => absurd (by decide) c9)
  refine lv_iconst (v := 1) hx hb dL_law_2348 (by decide) ?_
  refine va_forget (fun q hq => (by have h := hS.2.2 q hq; rw [hAe] at h; exact h)) ?_
  refine W.widen (k := 600002) (n := 7302232) (Nat.le_of_ble_eq_true rfl) (Nat.le_of_ble_eq_true rfl) ?_
  exact lw_ret hx hb hr hlocks dL_law_2349
set_option maxHeartbeats 4000000 in
set_option maxRecDepth 100000 in
theorem lc_ruleText_0 {p : Program} {e : Env} {s : State} {m : MethodId} {below : List Frame} {meth : Method} {c : Code} {l : Launch} (hst : l.stackTraces = false) {b : Nat} {xs : Nat → Int32} (C9 : lx_At p s m meth c b xs) {dC : Nat → ClassId} {dI : Nat → Nat → Nat} {ge5 gea gv5 gva gde gic gi0 : Nat} {x0 m0 m2 x1 x2 x45 x53 x55 x57 m1 m3 o0 : Nat} (hG : gv ge5 gea gv5 gva gde gic gi0 (fun q => s.heap.size ≤ q) s s.heap) {v1 : Int32} (v1_l : ((-2147483648) : Int) ≤ v1.toInt) (v1_u : v1.toInt ≤ ((-1) : Int)) (hx1 : xs 1 = v1) {H : Heap} {locs : List Loc} (hK : va_K (dC, dI) vwCl [] s) (hP : va_P (dC, dI) vwCl [(x0, .inr (7, [.ref x1, .ref x2, .ref x45, .ref x53, .ref x55, .ref x57, .int 0, .int 0, .int 0])), (m0, .inr (9, [.int 0, .ref m1, .ref m2, .ref m3, .int 0, .int 0, .int 0])), (m2, .inr (3, [.int 0, .ref gde, .int 0]))] H) (hD : va_D (fun q => s.heap.size ≤ q) [(x0, .inr (7, [.ref x1, .ref x2, .ref x45, .ref x53, .ref x55, .ref x57, .int 0, .int 0, .int 0])), (m0, .inr (9, [.int 0, .ref m1, .ref m2, .ref m3, .int 0, .int 0, .int 0])), (m2, .inr (3, [.int 0, .ref gde, .int 0]))]) (hS : va_S (fun q => s.heap.size ≤ q) s.heap H locs) {ls : Array Slot} (hl : lv_has ls 7 [(4, .int 0), (3, .ref o0), (2, .ref m0), (1, .ref x0), (0, .ref b)]) : W p l e room_1 s m #[Value.ref b] below meth c H locs 72 2748 (lw_Z below #[Value.ref b] s) (F0 m 1348 ls []) := by
  obtain ⟨hx, hb, hr, hml, hown, hts, hX, hbl, hlocks⟩ := id C9
  have hA : ∀ q : Nat, s.heap.size ≤ q → (fun q : Nat => s.heap.size ≤ q) q := fun _ h => h
  have hbA : ¬ (fun q : Nat => s.heap.size ≤ q) b := Nat.not_le.mpr hbl
  obtain ⟨A, hAe⟩ : ∃ A : Nat → Prop, A = (fun q : Nat => s.heap.size ≤ q) := ⟨_, rfl⟩
  rw [← hAe] at hG hD hS hA hbA
  obtain ⟨⟨g_AO_Text, g_AO_String, g_AO_Object, g_nm_RX1_20, g_nm_RX0_17, g_nm_RX3_31, g_nm_RX2_44, g_nm_RL_121, g_nf_RL_13, g_nf_RL_47, g_ca_IO, g_ca_IA, g_ca_IS, g_ca_IntObj, g_ca_StrObj, g_de_RT, g_de_EX, g_de_TH, g_nc_IA_IO, g_nc_IS_IO, g_nc_IS_IA⟩, ⟨g_s3, g_s5, g_sa, g_x278, g_x280, g_x282, g_x284, g_x286, g_x180, g_x238, g_x250⟩, ⟨g_o5, g_c5, g_v5, g_t5, g_oa, g_ca, g_va, g_ta, g_zc, g_zd, g_td, g_zf, g_zU, g_zN, g_zh, g_zk, g_tk, g_oi, g_vi⟩⟩ := id hG
  refine lv_aload_n hx hb dL_law_1348 rfl (lv_at hl 3 rfl) ?_
  refine lv_aload_n hx hb dL_law_1349 rfl (lv_at hl 4 rfl) ?_
  refine lv_iload hx hb dL_law_1350 (lv_at hl 0 rfl) ?_
  refine lv_iconst (v := 1) hx hb dL_law_1352 (by decide) ?_
  refine lv_iadd hx hb dL_law_1353 ?_
  refine lv_topi (fun y1 ey1 => ?_)
  obtain rfl : y1 = 1 := ey1.trans (by decide)
  refine va_sld hx hb hX hbl hbA hS (by unfold vp_in; decide) dL_law_1354 ?_
  rw [show xs (Int32.toNatClampNeg 1) = v1 from hx1]
  refine lv_aload_n hx hb dL_law_1355 rfl (lv_at hl 1 rfl) ?_
  have hPc := hP.sub (ws' := [(x0, .inr (7, [.ref x1, .ref x2, .ref x45, .ref x53, .ref x55, .ref x57, .int 0, .int 0, .int 0]))]) [0] rfl
  have hDc := hD.sub (ws' := [(x0, .inr (7, [.ref x1, .ref x2, .ref x45, .ref x53, .ref x55, .ref x57, .int 0, .int 0, .int 0]))]) [0] (by decide) rfl
  have hKc := hK.sub (tys' := []) [] rfl
  have hFc := va_free (wc := [(x0, .inr (7, [.ref x1, .ref x2, .ref x45, .ref x53, .ref x55, .ref x57, .int 0, .int 0, .int 0]))]) hD hS hA [0] rfl
  refine va_calli (vx_runSW (As := [.ref x0, .int v1, .ref o0]) (rest := []) ⟨hx, hb, hml, hown, hts⟩ (kx_L_ruleText_0 l hst dC dI ge5 gea gv5 gva gde gic gi0 x0 o0 x1 x2 x45 x53 x55 x57 H.size v1 v1_l v1_u) (vx_cwSW 3 hts gL_law_L_ruleText rfl rfl rfl (by decide +kernel) ⟨Nat.le_of_ble_eq_true rfl, Nat.le_of_ble_eq_true rfl⟩) ⟨fun a U g mk q => by obtain ⟨q0, q1, qP, qK, qD, qG⟩ := q; exact ⟨q0, q1, qP, va_K.moved (u := U) (U := U.calling g mk a) (Vm.Alike.refl U.vm) qK, qD, gv.fb qG⟩, fun U hU hW => ⟨rfl, by rw [hU], by rw [hU]; exact hPc, va_K.moved hW.alike hKc, hDc.weaken (fun _ _ _ _ => trivial), gv.pass hW hU hS hFc hG⟩⟩ rfl rfl hl.1 rfl (lv_room (Nat.le_of_ble_eq_true rfl)) dL_law_1356 ⟨Nat.le_of_ble_eq_true rfl, Nat.le_of_ble_eq_true rfl⟩) hS (fun q _ h => hFc q h) hFc (fun r9 u t H1 locs ht hvm hw hB hz1 hk1 hS => ?_)
  obtain rfl := hw
  obtain ⟨hP1, hK1, hD1⟩ := hB
  rw [ht] at hP1
  have hK1 := va_K.moved hvm.symm hK1
  obtain ⟨hP, hD⟩ := va_join (wr := [(m0, .inr (9, [.int 0, .ref m1, .ref m2, .ref m3, .int 0, .int 0, .int 0])), (m2, .inr (3, [.int 0, .ref gde, .int 0]))]) (w1 := [(x0, .inr (7, [.ref x1, .ref x2, .ref x45, .ref x53, .ref x55, .ref x57, .int 0, .int 0, .int 0]))]) hP hD [0] [1, 2] rfl rfl (by decide) (by decide) hk1 hFc hP1 hD1
  generalize H1 = H at hP hS ⊢
  have hP : va_P (dC, dI) vwCl [(m0, .inr (9, [.int 0, .ref m1, .ref m2, .ref m3, .int 0, .int 0, .int 0])), (m2, .inr (3, [.int 0, .ref gde, .int 0])), (x0, .inr (7, [.ref x1, .ref x2, .ref x45, .ref x53, .ref x55, .ref x57, .int 0, .int 0, .int 0]))] H := hP
  have hD : va_D A [(m0, .inr (9, [.int 0, .ref m1, .ref m2, .ref m3, .int 0, .int 0, .int 0])), (m2, .inr (3, [.int 0, .ref gde, .int 0])), (x0, .inr (7, [.ref x1, .ref x2, .ref x45, .ref x53, .ref x55, .ref x57, .int 0, .int 0, .int 0]))] := hD
  refine W.widen (k := 73) (n := 2754) (by omega) (by omega) ?_
  refine lv_istore (lv' := [(5, .int 1), (4, .int 0), (3, .ref o0), (2, .ref m0), (1, .ref x0), (0, .ref b)]) hx hb dL_law_1359 hl (by decide) rfl (fun ls hl => ?_)
  refine lv_aload_n hx hb dL_law_1361 rfl (lv_at hl 3 rfl) ?_
  refine lv_aload_n hx hb dL_law_1362 rfl (lv_at hl 5 rfl) ?_
  refine lv_iload hx hb dL_law_1363 (lv_at hl 1 rfl) ?_
  refine lv_iconst (v := 1) hx hb dL_law_1365 (by decide) ?_
  refine lv_iadd hx hb dL_law_1366 ?_
  refine lv_topi (fun y2 ey2 => ?_)
  obtain rfl : y2 = 1 := ey2.trans (by decide)
  refine va_sld hx hb hX hbl hbA hS (by unfold vp_in; decide) dL_law_1367 ?_
  rw [show xs (Int32.toNatClampNeg 1) = v1 from hx1]
  have hPc := hP.sub (ws' := [(m0, .inr (9, [.int 0, .ref m1, .ref m2, .ref m3, .int 0, .int 0, .int 0])), (m2, .inr (3, [.int 0, .ref gde, .int 0]))]) [0, 1] rfl
  have hDc := hD.sub (ws' := [(m0, .inr (9, [.int 0, .ref m1, .ref m2, .ref m3, .int 0, .int 0, .int 0])), (m2, .inr (3, [.int 0, .ref gde, .int 0]))]) [0, 1] (by decide) rfl
  have hKc := hK.sub (tys' := []) [] rfl
  have hFc := va_free (wc := [(m0, .inr (9, [.int 0, .ref m1, .ref m2, .ref m3, .int 0, .int 0, .int 0])), (m2, .inr (3, [.int 0, .ref gde, .int 0]))]) hD hS hA [0, 1] rfl
  refine va_callr (va_runV (As := [.int v1]) (rest := []) ⟨hx, hb, hml, hown, hts⟩ (kx_X5_ruleText_0 l dC dI ge5 gea gv5 gva gde gic gi0 m0 m2 m1 m3 H.size v1 v1_l v1_u) (cwV 1 hts gL_law_X5_ruleText rfl rfl rfl (by decide +kernel) ⟨Nat.le_of_ble_eq_true rfl, Nat.le_of_ble_eq_true rfl⟩) ⟨fun a U g mk q => by obtain ⟨q0, q1, qP, qK, qD, qG⟩ := q; exact ⟨q0, q1, qP, va_K.moved (u := U) (U := U.calling g mk a) (Vm.Alike.refl U.vm) qK, qD, gv.fb qG⟩, va_recv hKc hPc (ci := 9) (q0 := 0) rfl rfl, fun U hU hW => ⟨rfl, by rw [hU], by rw [hU]; exact hPc, va_K.moved hW.alike hKc, hDc.weaken (fun _ _ _ _ => trivial), gv.pass hW hU hS hFc hG⟩⟩ rfl rfl hl.1 rfl (lv_room (Nat.le_of_ble_eq_true rfl)) dL_law_1368 ⟨Nat.le_of_ble_eq_true rfl, Nat.le_of_ble_eq_true rfl⟩) hS (fun q _ h => hFc q h) hFc (fun u ra t H1 locs ht hvm hw hB hz1 hk1 hS => ?_)
  obtain ⟨hra, hP1, hK1, hD1⟩ := hB
  rw [hra]
  rw [ht] at hP1
  have hK1 := va_K.moved hvm.symm hK1
  obtain ⟨hP, hD⟩ := va_join (wr := [(x0, .inr (7, [.ref x1, .ref x2, .ref x45, .ref x53, .ref x55, .ref x57, .int 0, .int 0, .int 0]))]) (w1 := [(m0, .inr (9, [.int 1, .ref m1, .ref m2, .ref m3, .int 0, .int 0, .int 0]))]) hP hD [0, 1] [2] rfl rfl (by decide) (by decide) hk1 hFc hP1 hD1
  generalize H1 = H at hP hS ⊢
  have hP : va_P (dC, dI) vwCl [(x0, .inr (7, [.ref x1, .ref x2, .ref x45, .ref x53, .ref x55, .ref x57, .int 0, .int 0, .int 0])), (m0, .inr (9, [.int 1, .ref m1, .ref m2, .ref m3, .int 0, .int 0, .int 0]))] H := hP
  have hD : va_D A [(x0, .inr (7, [.ref x1, .ref x2, .ref x45, .ref x53, .ref x55, .ref x57, .int 0, .int 0, .int 0])), (m0, .inr (9, [.int 1, .ref m1, .ref m2, .ref m3, .int 0, .int 0, .int 0]))] := hD
  refine lv_astore (lv' := [(6, .ref ge5), (5, .int 1), (4, .int 0), (3, .ref o0), (2, .ref m0), (1, .ref x0), (0, .ref b)]) hx hb dL_law_1371 hl (by decide) rfl (fun ls hl => ?_)
  refine lv_aload_n hx hb dL_law_1373 rfl (lv_at hl 4 rfl) ?_
  have hPc := hP.sub (ws' := [(m0, .inr (9, [.int 1, .ref m1, .ref m2, .ref m3, .int 0, .int 0, .int 0]))]) [1] rfl
  have hDc := hD.sub (ws' := [(m0, .inr (9, [.int 1, .ref m1, .ref m2, .ref m3, .int 0, .int 0, .int 0]))]) [1] (by decide) rfl
  have hKc := hK.sub (tys' := []) [] rfl
  have hFc := va_free (wc := [(m0, .inr (9, [.int 1, .ref m1, .ref m2, .ref m3, .int 0, .int 0, .int 0]))]) hD hS hA [1] rfl
  refine va_calli (va_runV (As := []) (rest := []) ⟨hx, hb, hml, hown, hts⟩ (kx_X5_thrown_0 l dC dI m0 m1 m2 m3 H.size) (cwV 0 hts gL_law_X5_thrown rfl rfl rfl (by decide +kernel) ⟨Nat.le_of_ble_eq_true rfl, Nat.le_of_ble_eq_true rfl⟩) ⟨fun a U g mk q => by obtain ⟨q0, q1, qP, qK, qD⟩ := q; exact ⟨q0, q1, qP, va_K.moved (u := U) (U := U.calling g mk a) (Vm.Alike.refl U.vm) qK, qD⟩, va_recv hKc hPc (ci := 9) (q0 := 0) rfl rfl, fun U hU hW => ⟨rfl, by rw [hU], by rw [hU]; exact hPc, va_K.moved hW.alike hKc, hDc.weaken (fun _ _ _ _ => trivial)⟩⟩ rfl rfl hl.1 rfl (lv_room (Nat.le_of_ble_eq_true rfl)) dL_law_1374 ⟨Nat.le_of_ble_eq_true rfl, Nat.le_of_ble_eq_true rfl⟩) hS (fun q _ h => hFc q h) hFc (fun r9 u t H1 locs ht hvm hw hB hz1 hk1 hS => ?_)
  obtain rfl := hw
  obtain ⟨hP1, hK1, hD1⟩ := hB
  rw [ht] at hP1
  have hK1 := va_K.moved hvm.symm hK1
  obtain ⟨hP, hD⟩ := va_join (wr := [(x0, .inr (7, [.ref x1, .ref x2, .ref x45, .ref x53, .ref x55, .ref x57, .int 0, .int 0, .int 0]))]) (w1 := [(m0, .inr (9, [.int 1, .ref m1, .ref m2, .ref m3, .int 0, .int 0, .int 0]))]) hP hD [1] [0] rfl rfl (by decide) (by decide) hk1 hFc hP1 hD1
  generalize H1 = H at hP hS ⊢
  have hP : va_P (dC, dI) vwCl [(x0, .inr (7, [.ref x1, .ref x2, .ref x45, .ref x53, .ref x55, .ref x57, .int 0, .int 0, .int 0])), (m0, .inr (9, [.int 1, .ref m1, .ref m2, .ref m3, .int 0, .int 0, .int 0]))] H := hP
  have hD : va_D A [(x0, .inr (7, [.ref x1, .ref x2, .ref x45, .ref x53, .ref x55, .ref x57, .int 0, .int 0, .int 0])), (m0, .inr (9, [.int 1, .ref m1, .ref m2, .ref m3, .int 0, .int 0, .int 0]))] := hD
  refine lv_iload hx hb dL_law_1377 (lv_at hl 1 rfl) ?_
  refine lv_icmp_eq (tgt := 1384) hx hb dL_law_1379 (by decide) (fun _ => ?_) (fun c9 => absurd (by decide) c9)
  refine lv_iload hx hb dL_law_1384 (lv_at hl 1 rfl) ?_
  refine lv_if_ne (tgt := 1403) hx hb dL_law_1386 (by decide) (fun _ => ?_) (fun c9 => absurd c9 (by decide))
  refine lv_goto (tgt := 2342) hx hb dL_law_1403 (by decide) ?_
  refine lv_iinc (v := 7) (lv' := [(4, .int 7), (6, .ref ge5), (5, .int 1), (3, .ref o0), (2, .ref m0), (1, .ref x0), (0, .ref b)]) hx hb dL_law_2342 hl (k := 2) rfl (by decide) (by decide) rfl (fun ls hl => ?_)
  refine lv_goto (tgt := 27) hx hb dL_law_2345 (by decide) ?_
  refine lv_iload hx hb dL_law_27 (lv_at hl 0 rfl) ?_
  refine lv_aload_n hx hb dL_law_29 rfl (lv_at hl 6 rfl) ?_
  refine va_slen hx hb hX hbl hbA hS dL_law_30 ?_
  refine lv_topi (fun y3 ey3 => ?_)
  obtain rfl : y3 = 7 := ey3.trans (by decide)
  refine lv_bipush (v := 7) hx hb dL_law_31 (by decide) ?_
  refine lv_isub hx hb dL_law_33 ?_
  refine lv_topi (fun y4 ey4 => ?_)
  obtain rfl : y4 = 0 := ey4.trans (by decide)
  refine lv_icmp_gt (tgt := 2348) hx hb dL_law_34 (by decide) (fun _ => ?_) (fun c9 => absurd (by decide) c9)
  refine lv_iconst (v := 1) hx hb dL_law_2348 (by decide) ?_
  refine va_forget (fun q hq => (by have h := hS.2.2 q hq; rw [hAe] at h; exact h)) ?_
  refine W.widen (k := 600002) (n := 7302232) (Nat.le_of_ble_eq_true rfl) (Nat.le_of_ble_eq_true rfl) ?_
  exact lw_ret hx hb hr hlocks dL_law_2349
