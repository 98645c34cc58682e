set_option maxHeartbeats 4000000 in
set_option maxRecDepth 100000 in
theorem lc_told_4 {p : Program} {e : Env} {s : State} {m : MethodId} {below : List Frame} {meth : Method} {c : Code} {l : Launch} (hst : l.stackTraces = false) {b : Nat} {xs : Nat → Int32} (C9 : lx_At p s m meth c b xs) {dC : Nat → ClassId} {dI : Nat → Nat → Nat} {ge5 gea gv5 gva gde gic gi0 : Nat} {x0 m0 x1 x2 x45 x53 x55 x57 m1 m2 m3 o0 : Nat} (hG : gv ge5 gea gv5 gva gde gic gi0 (fun q => s.heap.size ≤ q) s s.heap) {v1 : Int32} (v1_l : (4 : Int) ≤ v1.toInt) (v1_u : v1.toInt ≤ (2147483647 : Int)) {v2 : Int32} (v2_l : ((-2147483648) : Int) ≤ v2.toInt) (v2_u : v2.toInt ≤ (2147483647 : Int)) (hx1 : xs 1 = v1) (hx2 : xs 2 = v2) {H : Heap} {locs : List Loc} (hK : va_K (dC, dI) vwCl [] s) (hP : va_P (dC, dI) vwCl [(x0, .inr (7, [.ref x1, .ref x2, .ref x45, .ref x53, .ref x55, .ref x57, .int 0, .int 0, .int 0])), (m0, .inr (9, [.int 0, .ref m1, .ref m2, .ref m3, .int 0, .int 0, .int 0]))] H) (hD : va_D (fun q => s.heap.size ≤ q) [(x0, .inr (7, [.ref x1, .ref x2, .ref x45, .ref x53, .ref x55, .ref x57, .int 0, .int 0, .int 0])), (m0, .inr (9, [.int 0, .ref m1, .ref m2, .ref m3, .int 0, .int 0, .int 0]))]) (hS : va_S (fun q => s.heap.size ≤ q) s.heap H locs) {ls : Array Slot} (hl : lv_has ls 7 [(4, .int 0), (3, .ref o0), (2, .ref m0), (1, .ref x0), (0, .ref b)]) : W p l e room_1 s m #[Value.ref b] below meth c H locs 72 2748 (lw_Z below #[Value.ref b] s) (F0 m 2032 ls []) := by
  obtain ⟨hx, hb, hr, hml, hown, hts, hX, hbl, hlocks⟩ := id C9
  have hA : ∀ q : Nat, s.heap.size ≤ q → (fun q : Nat => s.heap.size ≤ q) q := fun _ h => h
  have hbA : ¬ (fun q : Nat => s.heap.size ≤ q) b := Nat.not_le.mpr hbl
  obtain ⟨A, hAe⟩ : ∃ A : Nat → Prop, A = (fun q : Nat => s.heap.size ≤ q) := ⟨_, rfl⟩
  rw [← hAe] at hG hD hS hA hbA
  obtain ⟨⟨g_AO_Text, g_AO_String, g_AO_Object, g_nm_RX1_20, g_nm_RX0_17, g_nm_RX3_31, g_nm_RX2_44, g_nm_RL_121, g_nf_RL_13, g_nf_RL_47, g_ca_IO, g_ca_IA, g_ca_IS, g_ca_IntObj, g_ca_StrObj, g_de_RT, g_de_EX, g_de_TH, g_nc_IA_IO, g_nc_IS_IO, g_nc_IS_IA⟩, ⟨g_s3, g_s5, g_sa, g_x278, g_x280, g_x282, g_x284, g_x286, g_x180, g_x238, g_x250⟩, ⟨g_o5, g_c5, g_v5, g_t5, g_oa, g_ca, g_va, g_ta, g_zc, g_zd, g_td, g_zf, g_zU, g_zN, g_zh, g_zk, g_tk, g_oi, g_vi⟩⟩ := id hG
  refine lv_aload_n hx hb dL_law_2032 rfl (lv_at hl 3 rfl) ?_
  refine lv_aload_n hx hb dL_law_2033 rfl (lv_at hl 4 rfl) ?_
  refine lv_iload hx hb dL_law_2034 (lv_at hl 0 rfl) ?_
  refine lv_iconst (v := 1) hx hb dL_law_2036 (by decide) ?_
  refine lv_iadd hx hb dL_law_2037 ?_
  refine lv_topi (fun y1 ey1 => ?_)
  obtain rfl : y1 = 1 := ey1.trans (by decide)
  refine va_sld hx hb hX hbl hbA hS (by unfold vp_in; decide) dL_law_2038 ?_
  rw [show xs (Int32.toNatClampNeg 1) = v1 from hx1]
  refine lv_aload_n hx hb dL_law_2039 rfl (lv_at hl 4 rfl) ?_
  refine lv_iload hx hb dL_law_2040 (lv_at hl 0 rfl) ?_
  refine lv_iconst (v := 2) hx hb dL_law_2042 (by decide) ?_
  refine lv_iadd hx hb dL_law_2043 ?_
  refine lv_topi (fun y2 ey2 => ?_)
  obtain rfl : y2 = 2 := ey2.trans (by decide)
  refine va_sld hx hb hX hbl hbA hS (by unfold vp_in; decide) dL_law_2044 ?_
  rw [show xs (Int32.toNatClampNeg 2) = v2 from hx2]
  refine lv_aload_n hx hb dL_law_2045 rfl (lv_at hl 1 rfl) ?_
  have hPc := hP.sub (ws' := [(x0, .inr (7, [.ref x1, .ref x2, .ref x45, .ref x53, .ref x55, .ref x57, .int 0, .int 0, .int 0]))]) [0] rfl
  have hDc := hD.sub (ws' := [(x0, .inr (7, [.ref x1, .ref x2, .ref x45, .ref x53, .ref x55, .ref x57, .int 0, .int 0, .int 0]))]) [0] (by decide) rfl
  have hKc := hK.sub (tys' := []) [] rfl
  have hFc := va_free (wc := [(x0, .inr (7, [.ref x1, .ref x2, .ref x45, .ref x53, .ref x55, .ref x57, .int 0, .int 0, .int 0]))]) hD hS hA [0] rfl
  refine va_calli (vx_runSW (As := [.ref x0, .int v1, .int v2, .ref o0]) (rest := []) ⟨hx, hb, hml, hown, hts⟩ (kx_L_told_4 l hst dC dI ge5 gea gv5 gva gde gic gi0 x0 o0 x1 x2 x45 x53 x55 x57 H.size v1 v1_l v1_u v2 v2_l v2_u) (vx_cwSW 4 hts gL_law_L_told rfl rfl rfl (by decide +kernel) ⟨Nat.le_of_ble_eq_true rfl, Nat.le_of_ble_eq_true rfl⟩) ⟨fun a U g mk q => by obtain ⟨q0, q1, qP, qK, qD, qG⟩ := q; exact ⟨q0, q1, qP, va_K.moved (u := U) (U := U.calling g mk a) (Vm.Alike.refl U.vm) qK, qD, gv.fb qG⟩, fun U hU hW => ⟨rfl, by rw [hU], by rw [hU]; exact hPc, va_K.moved hW.alike hKc, hDc.weaken (fun _ _ _ _ => trivial), gv.pass hW hU hS hFc hG⟩⟩ rfl rfl hl.1 rfl (lv_room (Nat.le_of_ble_eq_true rfl)) dL_law_2046 ⟨Nat.le_of_ble_eq_true rfl, Nat.le_of_ble_eq_true rfl⟩) hS (fun q _ h => hFc q h) hFc (fun r9 u t H1 locs ht hvm hw hB hz1 hk1 hS => ?_)
  obtain rfl := hw
  obtain ⟨hP1, hK1, hD1⟩ := hB
  rw [ht] at hP1
  have hK1 := va_K.moved hvm.symm hK1
  obtain ⟨hP, hD⟩ := va_join (wr := [(m0, .inr (9, [.int 0, .ref m1, .ref m2, .ref m3, .int 0, .int 0, .int 0]))]) (w1 := [(x0, .inr (7, [.ref x1, .ref x2, .ref x45, .ref x53, .ref x55, .ref x57, .int 0, .int 0, .int 0]))]) hP hD [0] [1] rfl rfl (by decide) (by decide) hk1 hFc hP1 hD1
  generalize H1 = H at hP hS ⊢
  have hP : va_P (dC, dI) vwCl [(m0, .inr (9, [.int 0, .ref m1, .ref m2, .ref m3, .int 0, .int 0, .int 0])), (x0, .inr (7, [.ref x1, .ref x2, .ref x45, .ref x53, .ref x55, .ref x57, .int 0, .int 0, .int 0]))] H := hP
  have hD : va_D A [(m0, .inr (9, [.int 0, .ref m1, .ref m2, .ref m3, .int 0, .int 0, .int 0])), (x0, .inr (7, [.ref x1, .ref x2, .ref x45, .ref x53, .ref x55, .ref x57, .int 0, .int 0, .int 0]))] := hD
  refine W.widen (k := 73) (n := 2754) (by omega) (by omega) ?_
  refine lv_istore (lv' := [(5, .int 1), (4, .int 0), (3, .ref o0), (2, .ref m0), (1, .ref x0), (0, .ref b)]) hx hb dL_law_2049 hl (by decide) rfl (fun ls hl => ?_)
  refine lv_aload_n hx hb dL_law_2051 rfl (lv_at hl 3 rfl) ?_
  refine lv_aload_n hx hb dL_law_2052 rfl (lv_at hl 5 rfl) ?_
  refine lv_iload hx hb dL_law_2053 (lv_at hl 1 rfl) ?_
  refine lv_iconst (v := 1) hx hb dL_law_2055 (by decide) ?_
  refine lv_iadd hx hb dL_law_2056 ?_
  refine lv_topi (fun y3 ey3 => ?_)
  obtain rfl : y3 = 1 := ey3.trans (by decide)
  refine va_sld hx hb hX hbl hbA hS (by unfold vp_in; decide) dL_law_2057 ?_
  rw [show xs (Int32.toNatClampNeg 1) = v1 from hx1]
  refine lv_aload_n hx hb dL_law_2058 rfl (lv_at hl 5 rfl) ?_
  refine lv_iload hx hb dL_law_2059 (lv_at hl 1 rfl) ?_
  refine lv_iconst (v := 2) hx hb dL_law_2061 (by decide) ?_
  refine lv_iadd hx hb dL_law_2062 ?_
  refine lv_topi (fun y4 ey4 => ?_)
  obtain rfl : y4 = 2 := ey4.trans (by decide)
  refine va_sld hx hb hX hbl hbA hS (by unfold vp_in; decide) dL_law_2063 ?_
  rw [show xs (Int32.toNatClampNeg 2) = v2 from hx2]
  have hPc := hP.sub (ws' := [(m0, .inr (9, [.int 0, .ref m1, .ref m2, .ref m3, .int 0, .int 0, .int 0]))]) [0] rfl
  have hDc := hD.sub (ws' := [(m0, .inr (9, [.int 0, .ref m1, .ref m2, .ref m3, .int 0, .int 0, .int 0]))]) [0] (by decide) rfl
  have hKc := hK.sub (tys' := []) [] rfl
  have hFc := va_free (wc := [(m0, .inr (9, [.int 0, .ref m1, .ref m2, .ref m3, .int 0, .int 0, .int 0]))]) hD hS hA [0] rfl
  refine va_calli (va_runV (As := [.int v1, .int v2]) (rest := []) ⟨hx, hb, hml, hown, hts⟩ (kx_X5_told_4 l dC dI m0 m1 m2 m3 H.size v1 v1_l v1_u v2 v2_l v2_u) (cwV 2 hts gL_law_X5_told rfl rfl rfl (by decide +kernel) ⟨Nat.le_of_ble_eq_true rfl, Nat.le_of_ble_eq_true rfl⟩) ⟨fun a U g mk q => by obtain ⟨q0, q1, qP, qK, qD⟩ := q; exact ⟨q0, q1, qP, va_K.moved (u := U) (U := U.calling g mk a) (Vm.Alike.refl U.vm) qK, qD⟩, va_recv hKc hPc (ci := 9) (q0 := 0) rfl rfl, fun U hU hW => ⟨rfl, by rw [hU], by rw [hU]; exact hPc, va_K.moved hW.alike hKc, hDc.weaken (fun _ _ _ _ => trivial)⟩⟩ rfl rfl hl.1 rfl (lv_room (Nat.le_of_ble_eq_true rfl)) dL_law_2064 ⟨Nat.le_of_ble_eq_true rfl, Nat.le_of_ble_eq_true rfl⟩) hS (fun q _ h => hFc q h) hFc (fun r9 u t H1 locs ht hvm hw hB hz1 hk1 hS => ?_)
  obtain rfl := hw
  obtain ⟨hP1, hK1, hD1⟩ := hB
  rw [ht] at hP1
  have hK1 := va_K.moved hvm.symm hK1
  obtain ⟨hP, hD⟩ := va_join (wr := [(x0, .inr (7, [.ref x1, .ref x2, .ref x45, .ref x53, .ref x55, .ref x57, .int 0, .int 0, .int 0]))]) (w1 := [(m0, .inr (9, [.int 1, .ref m1, .ref m2, .ref m3, .int 0, .int 0, .int 0]))]) hP hD [0] [1] rfl rfl (by decide) (by decide) hk1 hFc hP1 hD1
  generalize H1 = H at hP hS ⊢
  have hP : va_P (dC, dI) vwCl [(x0, .inr (7, [.ref x1, .ref x2, .ref x45, .ref x53, .ref x55, .ref x57, .int 0, .int 0, .int 0])), (m0, .inr (9, [.int 1, .ref m1, .ref m2, .ref m3, .int 0, .int 0, .int 0]))] H := hP
  have hD : va_D A [(x0, .inr (7, [.ref x1, .ref x2, .ref x45, .ref x53, .ref x55, .ref x57, .int 0, .int 0, .int 0])), (m0, .inr (9, [.int 1, .ref m1, .ref m2, .ref m3, .int 0, .int 0, .int 0]))] := hD
  refine lv_istore (lv' := [(6, .int 0), (5, .int 1), (4, .int 0), (3, .ref o0), (2, .ref m0), (1, .ref x0), (0, .ref b)]) hx hb dL_law_2067 hl (by decide) rfl (fun ls hl => ?_)
  refine lv_aload_n hx hb dL_law_2069 rfl (lv_at hl 4 rfl) ?_
  have hPc := hP.sub (ws' := [(m0, .inr (9, [.int 1, .ref m1, .ref m2, .ref m3, .int 0, .int 0, .int 0]))]) [1] rfl
  have hDc := hD.sub (ws' := [(m0, .inr (9, [.int 1, .ref m1, .ref m2, .ref m3, .int 0, .int 0, .int 0]))]) [1] (by decide) rfl
  have hKc := hK.sub (tys' := []) [] rfl
  have hFc := va_free (wc := [(m0, .inr (9, [.int 1, .ref m1, .ref m2, .ref m3, .int 0, .int 0, .int 0]))]) hD hS hA [1] rfl
  refine va_calli (va_runV (As := []) (rest := []) ⟨hx, hb, hml, hown, hts⟩ (kx_X5_thrown_0 l dC dI m0 m1 m2 m3 H.size) (cwV 0 hts gL_law_X5_thrown rfl rfl rfl (by decide +kernel) ⟨Nat.le_of_ble_eq_true rfl, Nat.le_of_ble_eq_true rfl⟩) ⟨fun a U g mk q => by obtain ⟨q0, q1, qP, qK, qD⟩ := q; exact ⟨q0, q1, qP, va_K.moved (u := U) (U := U.calling g mk a) (Vm.Alike.refl U.vm) qK, qD⟩, va_recv hKc hPc (ci := 9) (q0 := 0) rfl rfl, fun U hU hW => ⟨rfl, by rw [hU], by rw [hU]; exact hPc, va_K.moved hW.alike hKc, hDc.weaken (fun _ _ _ _ => trivial)⟩⟩ rfl rfl hl.1 rfl (lv_room (Nat.le_of_ble_eq_true rfl)) dL_law_2070 ⟨Nat.le_of_ble_eq_true rfl, Nat.le_of_ble_eq_true rfl⟩) hS (fun q _ h => hFc q h) hFc (fun r9 u t H1 locs ht hvm hw hB hz1 hk1 hS => ?_)
  obtain rfl := hw
  obtain ⟨hP1, hK1, hD1⟩ := hB
  rw [ht] at hP1
  have hK1 := va_K.moved hvm.symm hK1
  obtain ⟨hP, hD⟩ := va_join (wr := [(x0, .inr (7, [.ref x1, .ref x2, .ref x45, .ref x53, .ref x55, .ref x57, .int 0, .int 0, .int 0]))]) (w1 := [(m0, .inr (9, [.int 1, .ref m1, .ref m2, .ref m3, .int 0, .int 0, .int 0]))]) hP hD [1] [0] rfl rfl (by decide) (by decide) hk1 hFc hP1 hD1
  generalize H1 = H at hP hS ⊢
  have hP : va_P (dC, dI) vwCl [(x0, .inr (7, [.ref x1, .ref x2, .ref x45, .ref x53, .ref x55, .ref x57, .int 0, .int 0, .int 0])), (m0, .inr (9, [.int 1, .ref m1, .ref m2, .ref m3, .int 0, .int 0, .int 0]))] H := hP
  have hD : va_D A [(x0, .inr (7, [.ref x1, .ref x2, .ref x45, .ref x53, .ref x55, .ref x57, .int 0, .int 0, .int 0])), (m0, .inr (9, [.int 1, .ref m1, .ref m2, .ref m3, .int 0, .int 0, .int 0]))] := hD
  refine lv_iload hx hb dL_law_2073 (lv_at hl 1 rfl) ?_
  refine lv_icmp_eq (tgt := 2080) hx hb dL_law_2075 (by decide) (fun _ => ?_) (fun c9 => absurd (by decide) c9)
  refine lv_iload hx hb dL_law_2080 (lv_at hl 1 rfl) ?_
  refine lv_if_ne (tgt := 2098) hx hb dL_law_2082 (by decide) (fun _ => ?_) (fun c9 => absurd c9 (by decide))
  refine lv_goto (tgt := 2342) hx hb dL_law_2098 (by decide) ?_
  refine lv_iinc (v := 7) (lv' := [(4, .int 7), (6, .int 0), (5, .int 1), (3, .ref o0), (2, .ref m0), (1, .ref x0), (0, .ref b)]) hx hb dL_law_2342 hl (k := 2) rfl (by decide) (by decide) rfl (fun ls hl => ?_)
  refine lv_goto (tgt := 27) hx hb dL_law_2345 (by decide) ?_
  refine lv_iload hx hb dL_law_27 (lv_at hl 0 rfl) ?_
  refine lv_aload_n hx hb dL_law_29 rfl (lv_at hl 6 rfl) ?_
  refine va_slen hx hb hX hbl hbA hS dL_law_30 ?_
  refine lv_topi (fun y5 ey5 => ?_)
  obtain rfl : y5 = 7 := ey5.trans (by decide)
  refine lv_bipush (v := 7) hx hb dL_law_31 (by decide) ?_
  refine lv_isub hx hb dL_law_33 ?_
  refine lv_topi (fun y6 ey6 => ?_)
  obtain rfl : y6 = 0 := ey6.trans (by decide)
  refine lv_icmp_gt (tgt := 2348) hx hb dL_law_34 (by decide) (fun _ => ?_) (fun c9 => absurd (by decide) c9)
  refine lv_iconst (v := 1) hx hb dL_law_2348 (by decide) ?_
  refine va_forget (fun q hq => (by have h := hS.2.2 q hq; rw [hAe] at h; exact h)) ?_
  refine W.widen (k := 600002) (n := 7302232) (Nat.le_of_ble_eq_true rfl) (Nat.le_of_ble_eq_true rfl) ?_
  exact lw_ret hx hb hr hlocks dL_law_2349
set_option maxHeartbeats 4000000 in
set_option maxRecDepth 100000 in
theorem lc_peaks_0 {p : Program} {e : Env} {s : State} {m : MethodId} {below : List Frame} {meth : Method} {c : Code} {l : Launch} (hst : l.stackTraces = false) {b : Nat} {xs : Nat → Int32} (C9 : lx_At p s m meth c b xs) {dC : Nat → ClassId} {dI : Nat → Nat → Nat} {ge5 gea gv5 gva gde gic gi0 : Nat} {x0 x2 x45 m0 m2 x1 x53 x55 x57 x3 x4 x5 x7 x9 x11 x46 x47 x49 x51 m1 m3 o0 : Nat} (hG : gv ge5 gea gv5 gva gde gic gi0 (fun q => s.heap.size ≤ q) s s.heap) {H : Heap} {locs : List Loc} (hK : va_K (dC, dI) vwCl [] s) (hP : va_P (dC, dI) vwCl [(x0, .inr (7, [.ref x1, .ref x2, .ref x45, .ref x53, .ref x55, .ref x57, .int 0, .int 0, .int 0])), (x2, .inr (5, [.ref x3, .ref x4, .ref x5, .ref x7, .ref x9, .ref x11, .int 0, .int 0])), (x45, .inr (4, [.ref x2, .ref x46, .ref x47, .ref x49, .ref x51, .int 0, .int 0, .int (-2)])), (m0, .inr (9, [.int 0, .ref m1, .ref m2, .ref m3, .int 0, .int 0, .int 0])), (m2, .inr (3, [.int 0, .ref gde, .int 0]))] H) (hD : va_D (fun q => s.heap.size ≤ q) [(x0, .inr (7, [.ref x1, .ref x2, .ref x45, .ref x53, .ref x55, .ref x57, .int 0, .int 0, .int 0])), (x2, .inr (5, [.ref x3, .ref x4, .ref x5, .ref x7, .ref x9, .ref x11, .int 0, .int 0])), (x45, .inr (4, [.ref x2, .ref x46, .ref x47, .ref x49, .ref x51, .int 0, .int 0, .int (-2)])), (m0, .inr (9, [.int 0, .ref m1, .ref m2, .ref m3, .int 0, .int 0, .int 0])), (m2, .inr (3, [.int 0, .ref gde, .int 0]))]) (hS : va_S (fun q => s.heap.size ≤ q) s.heap H locs) {ls : Array Slot} (hl : lv_has ls 7 [(4, .int 0), (3, .ref o0), (2, .ref m0), (1, .ref x0), (0, .ref b)]) : W p l e room_1 s m #[Value.ref b] below meth c H locs 72 2748 (lw_Z below #[Value.ref b] s) (F0 m 2101 ls []) := by
  obtain ⟨hx, hb, hr, hml, hown, hts, hX, hbl, hlocks⟩ := id C9
  have hA : ∀ q : Nat, s.heap.size ≤ q → (fun q : Nat => s.heap.size ≤ q) q := fun _ h => h
  have hbA : ¬ (fun q : Nat => s.heap.size ≤ q) b := Nat.not_le.mpr hbl
  obtain ⟨A, hAe⟩ : ∃ A : Nat → Prop, A = (fun q : Nat => s.heap.size ≤ q) := ⟨_, rfl⟩
  rw [← hAe] at hG hD hS hA hbA
  obtain ⟨⟨g_AO_Text, g_AO_String, g_AO_Object, g_nm_RX1_20, g_nm_RX0_17, g_nm_RX3_31, g_nm_RX2_44, g_nm_RL_121, g_nf_RL_13, g_nf_RL_47, g_ca_IO, g_ca_IA, g_ca_IS, g_ca_IntObj, g_ca_StrObj, g_de_RT, g_de_EX, g_de_TH, g_nc_IA_IO, g_nc_IS_IO, g_nc_IS_IA⟩, ⟨g_s3, g_s5, g_sa, g_x278, g_x280, g_x282, g_x284, g_x286, g_x180, g_x238, g_x250⟩, ⟨g_o5, g_c5, g_v5, g_t5, g_oa, g_ca, g_va, g_ta, g_zc, g_zd, g_td, g_zf, g_zU, g_zN, g_zh, g_zk, g_tk, g_oi, g_vi⟩⟩ := id hG
  refine lv_aload_n hx hb dL_law_2101 rfl (lv_at hl 3 rfl) ?_
  have hPc := hP.sub (ws' := [(x0, .inr (7, [.ref x1, .ref x2, .ref x45, .ref x53, .ref x55, .ref x57, .int 0, .int 0, .int 0])), (x2, .inr (5, [.ref x3, .ref x4, .ref x5, .ref x7, .ref x9, .ref x11, .int 0, .int 0])), (x45, .inr (4, [.ref x2, .ref x46, .ref x47, .ref x49, .ref x51, .int 0, .int 0, .int (-2)]))]) [0, 1, 2] rfl
  have hDc := hD.sub (ws' := [(x0, .inr (7, [.ref x1, .ref x2, .ref x45, .ref x53, .ref x55, .ref x57, .int 0, .int 0, .int 0])), (x2, .inr (5, [.ref x3, .ref x4, .ref x5, .ref x7, .ref x9, .ref x11, .int 0, .int 0])), (x45, .inr (4, [.ref x2, .ref x46, .ref x47, .ref x49, .ref x51, .int 0, .int 0, .int (-2)]))]) [0, 1, 2] (by decide) rfl
  have hKc := hK.sub (tys' := []) [] rfl
  have hFc := va_free (wc := [(x0, .inr (7, [.ref x1, .ref x2, .ref x45, .ref x53, .ref x55, .ref x57, .int 0, .int 0, .int 0])), (x2, .inr (5, [.ref x3, .ref x4, .ref x5, .ref x7, .ref x9, .ref x11, .int 0, .int 0])), (x45, .inr (4, [.ref x2, .ref x46, .ref x47, .ref x49, .ref x51, .int 0, .int 0, .int (-2)]))]) hD hS hA [0, 1, 2] rfl
  refine va_calli (va_runV (As := []) (rest := []) ⟨hx, hb, hml, hown, hts⟩ (kx_X3_peaks_0 l dC dI x0 x2 x45 x1 x53 x55 x57 x3 x4 x5 x7 x9 x11 x46 x47 x49 x51 H.size) (cwV 0 hts gL_law_X3_peaks rfl rfl rfl (by decide +kernel) ⟨Nat.le_of_ble_eq_true rfl, Nat.le_of_ble_eq_true rfl⟩) ⟨fun a U g mk q => by obtain ⟨q0, q1, qP, qK, qD⟩ := q; exact ⟨q0, q1, qP, va_K.moved (u := U) (U := U.calling g mk a) (Vm.Alike.refl U.vm) qK, qD⟩, va_recv hKc hPc (ci := 7) (q0 := 0) rfl rfl, fun U hU hW => ⟨rfl, by rw [hU], by rw [hU]; exact hPc, va_K.moved hW.alike hKc, hDc.weaken (fun _ _ _ _ => trivial)⟩⟩ rfl rfl hl.1 rfl (lv_room (Nat.le_of_ble_eq_true rfl)) dL_law_2102 ⟨Nat.le_of_ble_eq_true rfl, Nat.le_of_ble_eq_true rfl⟩) hS (fun q _ h => hFc q h) hFc (fun r9 u t H1 locs ht hvm hw hB hz1 hk1 hS => ?_)
  obtain rfl := hw
  obtain ⟨hP1, hK1, hD1⟩ := hB
  rw [ht] at hP1
  have hK1 := va_K.moved hvm.symm hK1
  obtain ⟨hP, hD⟩ := va_join (wr := [(m0, .inr (9, [.int 0, .ref m1, .ref m2, .ref m3, .int 0, .int 0, .int 0])), (m2, .inr (3, [.int 0, .ref gde, .int 0]))]) (w1 := [(x0, .inr (7, [.ref x1, .ref x2, .ref x45, .ref x53, .ref x55, .ref x57, .int 0, .int 0, .int 0])), (x2, .inr (5, [.ref x3, .ref x4, .ref x5, .ref x7, .ref x9, .ref x11, .int 0, .int 0])), (x45, .inr (4, [.ref x2, .ref x46, .ref x47, .ref x49, .ref x51, .int 0, .int 0, .int (-2)]))]) hP hD [0, 1, 2] [3, 4] rfl rfl (by decide) (by decide) hk1 hFc hP1 hD1
  generalize H1 = H at hP hS ⊢
  have hP : va_P (dC, dI) vwCl [(m0, .inr (9, [.int 0, .ref m1, .ref m2, .ref m3, .int 0, .int 0, .int 0])), (m2, .inr (3, [.int 0, .ref gde, .int 0])), (x0, .inr (7, [.ref x1, .ref x2, .ref x45, .ref x53, .ref x55, .ref x57, .int 0, .int 0, .int 0])), (x2, .inr (5, [.ref x3, .ref x4, .ref x5, .ref x7, .ref x9, .ref x11, .int 0, .int 0])), (x45, .inr (4, [.ref x2, .ref x46, .ref x47, .ref x49, .ref x51, .int 0, .int 0, .int (-2)]))] H := hP
  have hD : va_D A [(m0, .inr (9, [.int 0, .ref m1, .ref m2, .ref m3, .int 0, .int 0, .int 0])), (m2, .inr (3, [.int 0, .ref gde, .int 0])), (x0, .inr (7, [.ref x1, .ref x2, .ref x45, .ref x53, .ref x55, .ref x57, .int 0, .int 0, .int 0])), (x2, .inr (5, [.ref x3, .ref x4, .ref x5, .ref x7, .ref x9, .ref x11, .int 0, .int 0])), (x45, .inr (4, [.ref x2, .ref x46, .ref x47, .ref x49, .ref x51, .int 0, .int 0, .int (-2)]))] := hD
  refine lv_aload_n hx hb dL_law_2105 rfl (lv_at hl 2 rfl) ?_
  have hPc := hP.sub (ws' := [(m0, .inr (9, [.int 0, .ref m1, .ref m2, .ref m3, .int 0, .int 0, .int 0])), (m2, .inr (3, [.int 0, .ref gde, .int 0]))]) [0, 1] rfl
  have hDc := hD.sub (ws' := [(m0, .inr (9, [.int 0, .ref m1, .ref m2, .ref m3, .int 0, .int 0, .int 0])), (m2, .inr (3, [.int 0, .ref gde, .int 0]))]) [0, 1] (by decide) rfl
  have hKc := hK.sub (tys' := []) [] rfl
  have hFc := va_free (wc := [(m0, .inr (9, [.int 0, .ref m1, .ref m2, .ref m3, .int 0, .int 0, .int 0])), (m2, .inr (3, [.int 0, .ref gde, .int 0]))]) hD hS hA [0, 1] rfl
  refine va_calli (va_runV (As := []) (rest := [.int 0]) ⟨hx, hb, hml, hown, hts⟩ (kx_X5_peaks_0 l dC dI ge5 gea gv5 gva gde gic gi0 m0 m2 m1 m3 H.size) (cwV 0 hts gL_law_X5_peaks rfl rfl rfl (by decide +kernel) ⟨Nat.le_of_ble_eq_true rfl, Nat.le_of_ble_eq_true rfl⟩) ⟨fun a U g mk q => by obtain ⟨q0, q1, qP, qK, qD, qG⟩ := q; exact ⟨q0, q1, qP, va_K.moved (u := U) (U := U.calling g mk a) (Vm.Alike.refl U.vm) qK, qD, gv.fb qG⟩, va_recv hKc hPc (ci := 9) (q0 := 0) rfl rfl, fun U hU hW => ⟨rfl, by rw [hU], by rw [hU]; exact hPc, va_K.moved hW.alike hKc, hDc.weaken (fun _ _ _ _ => trivial), gv.pass hW hU hS hFc hG⟩⟩ rfl rfl hl.1 rfl (lv_room (Nat.le_of_ble_eq_true rfl)) dL_law_2106 ⟨Nat.le_of_ble_eq_true rfl, Nat.le_of_ble_eq_true rfl⟩) hS (fun q _ h => hFc q h) hFc (fun r9 u t H1 locs ht hvm hw hB hz1 hk1 hS => ?_)
  obtain rfl := hw
  obtain ⟨q1, hP1, hK1, hD1⟩ := hB
  rw [ht] at hP1
  have hK1 := va_K.moved hvm.symm hK1
  obtain ⟨hP, hD⟩ := va_join (wr := [(x0, .inr (7, [.ref x1, .ref x2, .ref x45, .ref x53, .ref x55, .ref x57, .int 0, .int 0, .int 0])), (x2, .inr (5, [.ref x3, .ref x4, .ref x5, .ref x7, .ref x9, .ref x11, .int 0, .int 0])), (x45, .inr (4, [.ref x2, .ref x46, .ref x47, .ref x49, .ref x51, .int 0, .int 0, .int (-2)]))]) (w1 := [(m0, .inr (9, [.int 0, .ref m1, .ref m2, .ref m3, .int 0, .int 0, .int 0]))]) hP hD [0, 1] [2, 3, 4] rfl rfl (by decide) (by decide) hk1 hFc hP1 hD1
  generalize H1 = H at hP hS ⊢
  have hP : va_P (dC, dI) vwCl [(x0, .inr (7, [.ref x1, .ref x2, .ref x45, .ref x53, .ref x55, .ref x57, .int 0, .int 0, .int 0])), (x2, .inr (5, [.ref x3, .ref x4, .ref x5, .ref x7, .ref x9, .ref x11, .int 0, .int 0])), (x45, .inr (4, [.ref x2, .ref x46, .ref x47, .ref x49, .ref x51, .int 0, .int 0, .int (-2)])), (m0, .inr (9, [.int 0, .ref m1, .ref m2, .ref m3, .int 0, .int 0, .int 0]))] H := hP
  have hD : va_D A [(x0, .inr (7, [.ref x1, .ref x2, .ref x45, .ref x53, .ref x55, .ref x57, .int 0, .int 0, .int 0])), (x2, .inr (5, [.ref x3, .ref x4, .ref x5, .ref x7, .ref x9, .ref x11, .int 0, .int 0])), (x45, .inr (4, [.ref x2, .ref x46, .ref x47, .ref x49, .ref x51, .int 0, .int 0, .int (-2)])), (m0, .inr (9, [.int 0, .ref m1, .ref m2, .ref m3, .int 0, .int 0, .int 0]))] := hD
  refine W.widen (k := 73) (n := 2751) (by omega) (by omega) ?_
  refine lv_icmp_eq (tgt := 2342) hx hb dL_law_2109 (by decide) (fun _ => ?_) (fun c9 => absurd (by decide) c9)
  refine lv_iinc (v := 7) (lv' := [(4, .int 7), (3, .ref o0), (2, .ref m0), (1, .ref x0), (0, .ref b)]) hx hb dL_law_2342 hl (k := 0) rfl (by decide) (by decide) rfl (fun ls hl => ?_)
  refine lv_goto (tgt := 27) hx hb dL_law_2345 (by decide) ?_
  refine lv_iload hx hb dL_law_27 (lv_at hl 0 rfl) ?_
  refine lv_aload_n hx hb dL_law_29 rfl (lv_at hl 4 rfl) ?_
  refine va_slen hx hb hX hbl hbA hS dL_law_30 ?_
  refine lv_topi (fun y2 ey2 => ?_)
  obtain rfl : y2 = 7 := ey2.trans (by decide)
  refine lv_bipush (v := 7) hx hb dL_law_31 (by decide) ?_
  refine lv_isub hx hb dL_law_33 ?_
  refine lv_topi (fun y3 ey3 => ?_)
  obtain rfl : y3 = 0 := ey3.trans (by decide)
  refine lv_icmp_gt (tgt := 2348) hx hb dL_law_34 (by decide) (fun _ => ?_) (fun c9 => absurd (by decide) c9)
  refine lv_iconst (v := 1) hx hb dL_law_2348 (by decide) ?_
  refine va_forget (fun q hq => (by have h := hS.2.2 q hq; rw [hAe] at h; exact h)) ?_
  refine W.widen (k := 600002) (n := 7302232) (Nat.le_of_ble_eq_true rfl) (Nat.le_of_ble_eq_true rfl) ?_
  exact lw_ret hx hb hr hlocks dL_law_2349
set_option maxHeartbeats 4000000 in
set_option maxRecDepth 100000 in
theorem lc_peak_0 {p : Program} {e : Env} {s : State} {m : MethodId} {below : List Frame} {meth : Method} {c : Code} {l : Launch} (hst : l.stackTraces = false) {b : Nat} {xs : Nat → Int32} (C9 : lx_At p s m meth c b xs) {dC : Nat → ClassId} {dI : Nat → Nat → Nat} {ge5 gea gv5 gva gde gic gi0 : Nat} {x0 x45 m0 m2 x1 x2 x53 x55 x57 x46 x47 x49 x51 m1 m3 o0 : Nat} (hG : gv ge5 gea gv5 gva gde gic gi0 (fun q => s.heap.size ≤ q) s s.heap) {v1 : Int32} (v1_l : ((-2147483648) : Int) ≤ v1.toInt) (v1_u : v1.toInt ≤ ((-1) : Int)) (hx1 : xs 1 = v1) {H : Heap} {locs : List Loc} (hK : va_K (dC, dI) vwCl [] s) (hP : va_P (dC, dI) vwCl [(x0, .inr (7, [.ref x1, .ref x2, .ref x45, .ref x53, .ref x55, .ref x57, .int 0, .int 0, .int 0])), (x45, .inr (4, [.ref x2, .ref x46, .ref x47, .ref x49, .ref x51, .int 0, .int 0, .int (-2)])), (m0, .inr (9, [.int 0, .ref m1, .ref m2, .ref m3, .int 0, .int 0, .int 0])), (m2, .inr (3, [.int 0, .ref gde, .int 0]))] H) (hD : va_D (fun q => s.heap.size ≤ q) [(x0, .inr (7, [.ref x1, .ref x2, .ref x45, .ref x53, .ref x55, .ref x57, .int 0, .int 0, .int 0])), (x45, .inr (4, [.ref x2, .ref x46, .ref x47, .ref x49, .ref x51, .int 0, .int 0, .int (-2)])), (m0, .inr (9, [.int 0, .ref m1, .ref m2, .ref m3, .int 0, .int 0, .int 0])), (m2, .inr (3, [.int 0, .ref gde, .int 0]))]) (hS : va_S (fun q => s.heap.size ≤ q) s.heap H locs) {ls : Array Slot} (hl : lv_has ls 7 [(4, .int 0), (3, .ref o0), (2, .ref m0), (1, .ref x0), (0, .ref b)]) : W p l e room_1 s m #[Value.ref b] below meth c H locs 72 2748 (lw_Z below #[Value.ref b] s) (F0 m 2114 ls []) := by
  obtain ⟨hx, hb, hr, hml, hown, hts, hX, hbl, hlocks⟩ := id C9
  have hA : ∀ q : Nat, s.heap.size ≤ q → (fun q : Nat => s.heap.size ≤ q) q := fun _ h => h
  have hbA : ¬ (fun q : Nat => s.heap.size ≤ q) b := Nat.not_le.mpr hbl
  obtain ⟨A, hAe⟩ : ∃ A : Nat → Prop, A = (fun q : Nat => s.heap.size ≤ q) := ⟨_, rfl⟩
  rw [← hAe] at hG hD hS hA hbA
  obtain ⟨⟨g_AO_Text, g_AO_String, g_AO_Object, g_nm_RX1_20, g_nm_RX0_17, g_nm_RX3_31, g_nm_RX2_44, g_nm_RL_121, g_nf_RL_13, g_nf_RL_47, g_ca_IO, g_ca_IA, g_ca_IS, g_ca_IntObj, g_ca_StrObj, g_de_RT, g_de_EX, g_de_TH, g_nc_IA_IO, g_nc_IS_IO, g_nc_IS_IA⟩, ⟨g_s3, g_s5, g_sa, g_x278, g_x280, g_x282, g_x284, g_x286, g_x180, g_x238, g_x250⟩, ⟨g_o5, g_c5, g_v5, g_t5, g_oa, g_ca, g_va, g_ta, g_zc, g_zd, g_td, g_zf, g_zU, g_zN, g_zh, g_zk, g_tk, g_oi, g_vi⟩⟩ := id hG
  refine lv_aload_n hx hb dL_law_2114 rfl (lv_at hl 3 rfl) ?_
  refine lv_aload_n hx hb dL_law_2115 rfl (lv_at hl 4 rfl) ?_
  refine lv_iload hx hb dL_law_2116 (lv_at hl 0 rfl) ?_
  refine lv_iconst (v := 1) hx hb dL_law_2118 (by decide) ?_
  refine lv_iadd hx hb dL_law_2119 ?_
  refine lv_topi (fun y1 ey1 => ?_)
  obtain rfl : y1 = 1 := ey1.trans (by decide)
  refine va_sld hx hb hX hbl hbA hS (by unfold vp_in; decide) dL_law_2120 ?_
  rw [show xs (Int32.toNatClampNeg 1) = v1 from hx1]
  have hPc := hP.sub (ws' := [(x0, .inr (7, [.ref x1, .ref x2, .ref x45, .ref x53, .ref x55, .ref x57, .int 0, .int 0, .int 0])), (x45, .inr (4, [.ref x2, .ref x46, .ref x47, .ref x49, .ref x51, .int 0, .int 0, .int (-2)]))]) [0, 1] rfl
  have hDc := hD.sub (ws' := [(x0, .inr (7, [.ref x1, .ref x2, .ref x45, .ref x53, .ref x55, .ref x57, .int 0, .int 0, .int 0])), (x45, .inr (4, [.ref x2, .ref x46, .ref x47, .ref x49, .ref x51, .int 0, .int 0, .int (-2)]))]) [0, 1] (by decide) rfl
  have hKc := hK.sub (tys' := []) [] rfl
  have hFc := va_free (wc := [(x0, .inr (7, [.ref x1, .ref x2, .ref x45, .ref x53, .ref x55, .ref x57, .int 0, .int 0, .int 0])), (x45, .inr (4, [.ref x2, .ref x46, .ref x47, .ref x49, .ref x51, .int 0, .int 0, .int (-2)]))]) hD hS hA [0, 1] rfl
  refine va_callr (va_runV (As := [.int v1]) (rest := []) ⟨hx, hb, hml, hown, hts⟩ (kx_X3_peak_0 l dC dI ge5 gea gv5 gva gde gic gi0 x0 x45 x1 x2 x53 x55 x57 x46 x47 x49 x51 H.size v1 v1_l v1_u) (cwV 1 hts gL_law_X3_peak rfl rfl rfl (by decide +kernel) ⟨Nat.le_of_ble_eq_true rfl, Nat.le_of_ble_eq_true rfl⟩) ⟨fun a U g mk q => by obtain ⟨q0, q1, qP, qK, qD, qG⟩ := q; exact ⟨q0, q1, qP, va_K.moved (u := U) (U := U.calling g mk a) (Vm.Alike.refl U.vm) qK, qD, gv.fb qG⟩, va_recv hKc hPc (ci := 7) (q0 := 0) rfl rfl, fun U hU hW => ⟨rfl, by rw [hU], by rw [hU]; exact hPc, va_K.moved hW.alike hKc, hDc.weaken (fun _ _ _ _ => trivial), gv.pass hW hU hS hFc hG⟩⟩ rfl rfl hl.1 rfl (lv_room (Nat.le_of_ble_eq_true rfl)) dL_law_2121 ⟨Nat.le_of_ble_eq_true rfl, Nat.le_of_ble_eq_true rfl⟩) hS (fun q _ h => hFc q h) hFc (fun u ra t H1 locs ht hvm hw hB hz1 hk1 hS => ?_)
  obtain ⟨hra, hP1, hK1, hD1⟩ := hB
  rw [hra]
  rw [ht] at hP1
  have hK1 := va_K.moved hvm.symm hK1
  obtain ⟨hP, hD⟩ := va_join (wr := [(m0, .inr (9, [.int 0, .ref m1, .ref m2, .ref m3, .int 0, .int 0, .int 0])), (m2, .inr (3, [.int 0, .ref gde, .int 0]))]) (w1 := [(x0, .inr (7, [.ref x1, .ref x2, .ref x45, .ref x53, .ref x55, .ref x57, .int 0, .int 0, .int 0])), (x45, .inr (4, [.ref x2, .ref x46, .ref x47, .ref x49, .ref x51, .int 0, .int 0, .int (-2)]))]) hP hD [0, 1] [2, 3] rfl rfl (by decide) (by decide) hk1 hFc hP1 hD1
  generalize H1 = H at hP hS ⊢
  have hP : va_P (dC, dI) vwCl [(m0, .inr (9, [.int 0, .ref m1, .ref m2, .ref m3, .int 0, .int 0, .int 0])), (m2, .inr (3, [.int 0, .ref gde, .int 0])), (x0, .inr (7, [.ref x1, .ref x2, .ref x45, .ref x53, .ref x55, .ref x57, .int 0, .int 0, .int 0])), (x45, .inr (4, [.ref x2, .ref x46, .ref x47, .ref x49, .ref x51, .int 0, .int 0, .int (-2)]))] H := hP
  have hD : va_D A [(m0, .inr (9, [.int 0, .ref m1, .ref m2, .ref m3, .int 0, .int 0, .int 0])), (m2, .inr (3, [.int 0, .ref gde, .int 0])), (x0, .inr (7, [.ref x1, .ref x2, .ref x45, .ref x53, .ref x55, .ref x57, .int 0, .int 0, .int 0])), (x45, .inr (4, [.ref x2, .ref x46, .ref x47, .ref x49, .ref x51, .int 0, .int 0, .int (-2)]))] := hD
  refine lv_aload_n hx hb dL_law_2124 rfl (lv_at hl 2 rfl) ?_
  refine lv_aload_n hx hb dL_law_2125 rfl (lv_at hl 4 rfl) ?_
  refine lv_iload hx hb dL_law_2126 (lv_at hl 0 rfl) ?_
  refine lv_iconst (v := 1) hx hb dL_law_2128 (by decide) ?_
  refine lv_iadd hx hb dL_law_2129 ?_
  refine lv_topi (fun y2 ey2 => ?_)
  obtain rfl : y2 = 1 := ey2.trans (by decide)
  refine va_sld hx hb hX hbl hbA hS (by unfold vp_in; decide) dL_law_2130 ?_
  rw [show xs (Int32.toNatClampNeg 1) = v1 from hx1]
  have hPc := hP.sub (ws' := [(m0, .inr (9, [.int 0, .ref m1, .ref m2, .ref m3, .int 0, .int 0, .int 0])), (m2, .inr (3, [.int 0, .ref gde, .int 0]))]) [0, 1] rfl
  have hDc := hD.sub (ws' := [(m0, .inr (9, [.int 0, .ref m1, .ref m2, .ref m3, .int 0, .int 0, .int 0])), (m2, .inr (3, [.int 0, .ref gde, .int 0]))]) [0, 1] (by decide) rfl
  have hKc := hK.sub (tys' := []) [] rfl
  have hFc := va_free (wc := [(m0, .inr (9, [.int 0, .ref m1, .ref m2, .ref m3, .int 0, .int 0, .int 0])), (m2, .inr (3, [.int 0, .ref gde, .int 0]))]) hD hS hA [0, 1] rfl
  refine va_callr (va_runV (As := [.int v1]) (rest := [.ref ge5]) ⟨hx, hb, hml, hown, hts⟩ (kx_X5_peak_0 l dC dI ge5 gea gv5 gva gde gic gi0 m0 m2 m1 m3 H.size v1 v1_l v1_u) (cwV 1 hts gL_law_X5_peak rfl rfl rfl (by decide +kernel) ⟨Nat.le_of_ble_eq_true rfl, Nat.le_of_ble_eq_true rfl⟩) ⟨fun a U g mk q => by obtain ⟨q0, q1, qP, qK, qD, qG⟩ := q; exact ⟨q0, q1, qP, va_K.moved (u := U) (U := U.calling g mk a) (Vm.Alike.refl U.vm) qK, qD, gv.fb qG⟩, va_recv hKc hPc (ci := 9) (q0 := 0) rfl rfl, fun U hU hW => ⟨rfl, by rw [hU], by rw [hU]; exact hPc, va_K.moved hW.alike hKc, hDc.weaken (fun _ _ _ _ => trivial), gv.pass hW hU hS hFc hG⟩⟩ rfl rfl hl.1 rfl (lv_room (Nat.le_of_ble_eq_true rfl)) dL_law_2131 ⟨Nat.le_of_ble_eq_true rfl, Nat.le_of_ble_eq_true rfl⟩) hS (fun q _ h => hFc q h) hFc (fun u ra t H1 locs ht hvm hw hB hz1 hk1 hS => ?_)
  obtain ⟨q3, hra, hP1, hK1, hD1⟩ := hB
  rw [hra]
  rw [ht] at hP1
  have hK1 := va_K.moved hvm.symm hK1
  obtain ⟨hP, hD⟩ := va_join (wr := [(x0, .inr (7, [.ref x1, .ref x2, .ref x45, .ref x53, .ref x55, .ref x57, .int 0, .int 0, .int 0])), (x45, .inr (4, [.ref x2, .ref x46, .ref x47, .ref x49, .ref x51, .int 0, .int 0, .int (-2)]))]) (w1 := [(m0, .inr (9, [.int 0, .ref m1, .ref m2, .ref m3, .int 0, .int 0, .int 0]))]) hP hD [0, 1] [2, 3] rfl rfl (by decide) (by decide) hk1 hFc hP1 hD1
  generalize H1 = H at hP hS ⊢
  have hP : va_P (dC, dI) vwCl [(x0, .inr (7, [.ref x1, .ref x2, .ref x45, .ref x53, .ref x55, .ref x57, .int 0, .int 0, .int 0])), (x45, .inr (4, [.ref x2, .ref x46, .ref x47, .ref x49, .ref x51, .int 0, .int 0, .int (-2)])), (m0, .inr (9, [.int 0, .ref m1, .ref m2, .ref m3, .int 0, .int 0, .int 0]))] H := hP
  have hD : va_D A [(x0, .inr (7, [.ref x1, .ref x2, .ref x45, .ref x53, .ref x55, .ref x57, .int 0, .int 0, .int 0])), (x45, .inr (4, [.ref x2, .ref x46, .ref x47, .ref x49, .ref x51, .int 0, .int 0, .int (-2)])), (m0, .inr (9, [.int 0, .ref m1, .ref m2, .ref m3, .int 0, .int 0, .int 0]))] := hD
  refine W.widen (k := 73) (n := 2751) (by omega) (by omega) ?_
  have hPc := hP.sub (ws' := []) [] rfl
  have hDc := hD.sub (ws' := []) [] (by decide) rfl
  have hKc := hK.sub (tys' := []) [] rfl
  have hFc := va_free (wc := []) hD hS hA [] rfl
  refine va_calli (va_runV (As := [.ref ge5]) (rest := []) ⟨hx, hb, hml, hown, hts⟩ (kx_J0_equals_9ea2d_1 l dC dI ge5 gea gv5 gva gde gic gi0 H.size) (cwV 1 hts gL_law_J0_equals_9ea2d rfl rfl rfl (by decide +kernel) ⟨Nat.le_of_ble_eq_true rfl, Nat.le_of_ble_eq_true rfl⟩) ⟨fun a U g mk q => by obtain ⟨q0, q1, qP, qK, qD, qG⟩ := q; exact ⟨q0, q1, qP, va_K.moved (u := U) (U := U.calling g mk a) (Vm.Alike.refl U.vm) qK, qD, gv.fb qG⟩, (by obtain ⟨cell, k1, k2, k3, -⟩ := g_o5.kept hS.2.1; exact ⟨cell, k1, k2, k3⟩), fun U hU hW => ⟨rfl, by rw [hU], by rw [hU]; exact hPc, va_K.moved hW.alike hKc, hDc.weaken (fun _ _ _ _ => trivial), gv.pass hW hU hS hFc hG⟩⟩ rfl rfl hl.1 rfl (lv_room (Nat.le_of_ble_eq_true rfl)) dL_law_2134 ⟨Nat.le_of_ble_eq_true rfl, Nat.le_of_ble_eq_true rfl⟩) hS (fun q _ h => hFc q h) hFc (fun r9 u t H1 locs ht hvm hw hB hz1 hk1 hS => ?_)
  obtain rfl := hw
  obtain ⟨hP1, hK1, hD1⟩ := hB
  rw [ht] at hP1
  have hK1 := va_K.moved hvm.symm hK1
  obtain ⟨hP, hD⟩ := va_join (wr := [(x0, .inr (7, [.ref x1, .ref x2, .ref x45, .ref x53, .ref x55, .ref x57, .int 0, .int 0, .int 0])), (x45, .inr (4, [.ref x2, .ref x46, .ref x47, .ref x49, .ref x51, .int 0, .int 0, .int (-2)])), (m0, .inr (9, [.int 0, .ref m1, .ref m2, .ref m3, .int 0, .int 0, .int 0]))]) (w1 := []) hP hD [] [0, 1, 2] rfl rfl (by decide) (by decide) hk1 hFc hP1 hD1
  generalize H1 = H at hP hS ⊢
  have hP : va_P (dC, dI) vwCl [(x0, .inr (7, [.ref x1, .ref x2, .ref x45, .ref x53, .ref x55, .ref x57, .int 0, .int 0, .int 0])), (x45, .inr (4, [.ref x2, .ref x46, .ref x47, .ref x49, .ref x51, .int 0, .int 0, .int (-2)])), (m0, .inr (9, [.int 0, .ref m1, .ref m2, .ref m3, .int 0, .int 0, .int 0]))] H := hP
  have hD : va_D A [(x0, .inr (7, [.ref x1, .ref x2, .ref x45, .ref x53, .ref x55, .ref x57, .int 0, .int 0, .int 0])), (x45, .inr (4, [.ref x2, .ref x46, .ref x47, .ref x49, .ref x51, .int 0, .int 0, .int (-2)])), (m0, .inr (9, [.int 0, .ref m1, .ref m2, .ref m3, .int 0, .int 0, .int 0]))] := hD
  refine lv_if_ne (tgt := 2342) hx hb dL_law_2137 (by decide) (fun _ => ?_) (fun c9 => absurd c9 (by decide))
  refine lv_iinc (v := 7) (lv' := [(4, .int 7), (3, .ref o0), (2, .ref m0), (1, .ref x0), (0, .ref b)]) hx hb dL_law_2342 hl (k := 0) rfl (by decide) (by decide) rfl (fun ls hl => ?_)
  refine lv_goto (tgt := 27) hx hb dL_law_2345 (by decide) ?_
  refine lv_iload hx hb dL_law_27 (lv_at hl 0 rfl) ?_
  refine lv_aload_n hx hb dL_law_29 rfl (lv_at hl 4 rfl) ?_
  refine va_slen hx hb hX hbl hbA hS dL_law_30 ?_
  refine lv_topi (fun y4 ey4 => ?_)
  obtain rfl : y4 = 7 := ey4.trans (by decide)
  refine lv_bipush (v := 7) hx hb dL_law_31 (by decide) ?_
  refine lv_isub hx hb dL_law_33 ?_
  refine lv_topi (fun y5 ey5 => ?_)
  obtain rfl : y5 = 0 := ey5.trans (by decide)
  refine lv_icmp_gt (tgt := 2348) hx hb dL_law_34 (by decide) (fun _ => ?_) (fun c9 => absurd (by decide) c9)
  refine lv_iconst (v := 1) hx hb dL_law_2348 (by decide) ?_
  refine va_forget (fun q hq => (by have h := hS.2.2 q hq; rw [hAe] at h; exact h)) ?_
  refine W.widen (k := 600002) (n := 7302232) (Nat.le_of_ble_eq_true rfl) (Nat.le_of_ble_eq_true rfl) ?_
  exact lw_ret hx hb hr hlocks dL_law_2349
set_option maxHeartbeats 4000000 in
set_option maxRecDepth 100000 in
theorem lc_peak_1 {p : Program} {e : Env} {s : State} {m : MethodId} {below : List Frame} {meth : Method} {c : Code} {l : Launch} (hst : l.stackTraces = false) {b : Nat} {xs : Nat → Int32} (C9 : lx_At p s m meth c b xs) {dC : Nat → ClassId} {dI : Nat → Nat → Nat} {ge5 gea gv5 gva gde gic gi0 : Nat} {x0 x2 x45 m0 m2 x1 x53 x55 x57 x3 x4 x5 x7 x9 x11 x46 x47 x49 x51 m1 m3 o0 : Nat} (hG : gv ge5 gea gv5 gva gde gic gi0 (fun q => s.heap.size ≤ q) s s.heap) {v1 : Int32} (v1_l : (0 : Int) ≤ v1.toInt) (v1_u : v1.toInt ≤ (2147483647 : Int)) (hx1 : xs 1 = v1) {H : Heap} {locs : List Loc} (hK : va_K (dC, dI) vwCl [] s) (hP : va_P (dC, dI) vwCl [(x0, .inr (7, [.ref x1, .ref x2, .ref x45, .ref x53, .ref x55, .ref x57, .int 0, .int 0, .int 0])), (x2, .inr (5, [.ref x3, .ref x4, .ref x5, .ref x7, .ref x9, .ref x11, .int 0, .int 0])), (x45, .inr (4, [.ref x2, .ref x46, .ref x47, .ref x49, .ref x51, .int 0, .int 0, .int (-2)])), (m0, .inr (9, [.int 0, .ref m1, .ref m2, .ref m3, .int 0, .int 0, .int 0])), (m2, .inr (3, [.int 0, .ref gde, .int 0]))] H) (hD : va_D (fun q => s.heap.size ≤ q) [(x0, .inr (7, [.ref x1, .ref x2, .ref x45, .ref x53, .ref x55, .ref x57, .int 0, .int 0, .int 0])), (x2, .inr (5, [.ref x3, .ref x4, .ref x5, .ref x7, .ref x9, .ref x11, .int 0, .int 0])), (x45, .inr (4, [.ref x2, .ref x46, .ref x47, .ref x49, .ref x51, .int 0, .int 0, .int (-2)])), (m0, .inr (9, [.int 0, .ref m1, .ref m2, .ref m3, .int 0, .int 0, .int 0])), (m2, .inr (3, [.int 0, .ref gde, .int 0]))]) (hS : va_S (fun q => s.heap.size ≤ q) s.heap H locs) {ls : Array Slot} (hl : lv_has ls 7 [(4, .int 0), (3, .ref o0), (2, .ref m0), (1, .ref x0), (0, .ref b)]) : W p l e room_1 s m #[Value.ref b] below meth c H locs 72 2748 (lw_Z below #[Value.ref b] s) (F0 m 2114 ls []) := by
  obtain ⟨hx, hb, hr, hml, hown, hts, hX, hbl, hlocks⟩ := id C9
  have hA : ∀ q : Nat, s.heap.size ≤ q → (fun q : Nat => s.heap.size ≤ q) q := fun _ h => h
  have hbA : ¬ (fun q : Nat => s.heap.size ≤ q) b := Nat.not_le.mpr hbl
  obtain ⟨A, hAe⟩ : ∃ A : Nat → Prop, A = (fun q : Nat => s.heap.size ≤ q) := ⟨_, rfl⟩
  rw [← hAe] at hG hD hS hA hbA
  obtain ⟨⟨g_AO_Text, g_AO_String, g_AO_Object, g_nm_RX1_20, g_nm_RX0_17, g_nm_RX3_31, g_nm_RX2_44, g_nm_RL_121, g_nf_RL_13, g_nf_RL_47, g_ca_IO, g_ca_IA, g_ca_IS, g_ca_IntObj, g_ca_StrObj, g_de_RT, g_de_EX, g_de_TH, g_nc_IA_IO, g_nc_IS_IO, g_nc_IS_IA⟩, ⟨g_s3, g_s5, g_sa, g_x278, g_x280, g_x282, g_x284, g_x286, g_x180, g_x238, g_x250⟩, ⟨g_o5, g_c5, g_v5, g_t5, g_oa, g_ca, g_va, g_ta, g_zc, g_zd, g_td, g_zf, g_zU, g_zN, g_zh, g_zk, g_tk, g_oi, g_vi⟩⟩ := id hG
  refine lv_aload_n hx hb dL_law_2114 rfl (lv_at hl 3 rfl) ?_
  refine lv_aload_n hx hb dL_law_2115 rfl (lv_at hl 4 rfl) ?_
  refine lv_iload hx hb dL_law_2116 (lv_at hl 0 rfl) ?_
  refine lv_iconst (v := 1) hx hb dL_law_2118 (by decide) ?_
  refine lv_iadd hx hb dL_law_2119 ?_
  refine lv_topi (fun y1 ey1 => ?_)
  obtain rfl : y1 = 1 := ey1.trans (by decide)
  refine va_sld hx hb hX hbl hbA hS (by unfold vp_in; decide) dL_law_2120 ?_
  rw [show xs (Int32.toNatClampNeg 1) = v1 from hx1]
  have hPc := hP.sub (ws' := [(x0, .inr (7, [.ref x1, .ref x2, .ref x45, .ref x53, .ref x55, .ref x57, .int 0, .int 0, .int 0])), (x2, .inr (5, [.ref x3, .ref x4, .ref x5, .ref x7, .ref x9, .ref x11, .int 0, .int 0])), (x45, .inr (4, [.ref x2, .ref x46, .ref x47, .ref x49, .ref x51, .int 0, .int 0, .int (-2)]))]) [0, 1, 2] rfl
  have hDc := hD.sub (ws' := [(x0, .inr (7, [.ref x1, .ref x2, .ref x45, .ref x53, .ref x55, .ref x57, .int 0, .int 0, .int 0])), (x2, .inr (5, [.ref x3, .ref x4, .ref x5, .ref x7, .ref x9, .ref x11, .int 0, .int 0])), (x45, .inr (4, [.ref x2, .ref x46, .ref x47, .ref x49, .ref x51, .int 0, .int 0, .int (-2)]))]) [0, 1, 2] (by decide) rfl
  have hKc := hK.sub (tys' := []) [] rfl
  have hFc := va_free (wc := [(x0, .inr (7, [.ref x1, .ref x2, .ref x45, .ref x53, .ref x55, .ref x57, .int 0, .int 0, .int 0])), (x2, .inr (5, [.ref x3, .ref x4, .ref x5, .ref x7, .ref x9, .ref x11, .int 0, .int 0])), (x45, .inr (4, [.ref x2, .ref x46, .ref x47, .ref x49, .ref x51, .int 0, .int 0, .int (-2)]))]) hD hS hA [0, 1, 2] rfl
  refine va_callr (va_runV (As := [.int v1]) (rest := []) ⟨hx, hb, hml, hown, hts⟩ (kx_X3_peak_1 l dC dI ge5 gea gv5 gva gde gic gi0 x0 x2 x45 x1 x53 x55 x57 x3 x4 x5 x7 x9 x11 x46 x47 x49 x51 H.size v1 v1_l v1_u) (cwV 1 hts gL_law_X3_peak rfl rfl rfl (by decide +kernel) ⟨Nat.le_of_ble_eq_true rfl, Nat.le_of_ble_eq_true rfl⟩) ⟨fun a U g mk q => by obtain ⟨q0, q1, qP, qK, qD, qG⟩ := q; exact ⟨q0, q1, qP, va_K.moved (u := U) (U := U.calling g mk a) (Vm.Alike.refl U.vm) qK, qD, gv.fb qG⟩, va_recv hKc hPc (ci := 7) (q0 := 0) rfl rfl, fun U hU hW => ⟨rfl, by rw [hU], by rw [hU]; exact hPc, va_K.moved hW.alike hKc, hDc.weaken (fun _ _ _ _ => trivial), gv.pass hW hU hS hFc hG⟩⟩ rfl rfl hl.1 rfl (lv_room (Nat.le_of_ble_eq_true rfl)) dL_law_2121 ⟨Nat.le_of_ble_eq_true rfl, Nat.le_of_ble_eq_true rfl⟩) hS (fun q _ h => hFc q h) hFc (fun u ra t H1 locs ht hvm hw hB hz1 hk1 hS => ?_)
  obtain ⟨hra, hP1, hK1, hD1⟩ := hB
  rw [hra]
  rw [ht] at hP1
  have hK1 := va_K.moved hvm.symm hK1
  obtain ⟨hP, hD⟩ := va_join (wr := [(m0, .inr (9, [.int 0, .ref m1, .ref m2, .ref m3, .int 0, .int 0, .int 0])), (m2, .inr (3, [.int 0, .ref gde, .int 0]))]) (w1 := [(x0, .inr (7, [.ref x1, .ref x2, .ref x45, .ref x53, .ref x55, .ref x57, .int 0, .int 0, .int 0])), (x2, .inr (5, [.ref x3, .ref x4, .ref x5, .ref x7, .ref x9, .ref x11, .int 0, .int 0])), (x45, .inr (4, [.ref x2, .ref x46, .ref x47, .ref x49, .ref x51, .int 0, .int 0, .int (-2)]))]) hP hD [0, 1, 2] [3, 4] rfl rfl (by decide) (by decide) hk1 hFc hP1 hD1
  generalize H1 = H at hP hS ⊢
  have hP : va_P (dC, dI) vwCl [(m0, .inr (9, [.int 0, .ref m1, .ref m2, .ref m3, .int 0, .int 0, .int 0])), (m2, .inr (3, [.int 0, .ref gde, .int 0])), (x0, .inr (7, [.ref x1, .ref x2, .ref x45, .ref x53, .ref x55, .ref x57, .int 0, .int 0, .int 0])), (x2, .inr (5, [.ref x3, .ref x4, .ref x5, .ref x7, .ref x9, .ref x11, .int 0, .int 0])), (x45, .inr (4, [.ref x2, .ref x46, .ref x47, .ref x49, .ref x51, .int 0, .int 0, .int (-2)]))] H := hP
  have hD : va_D A [(m0, .inr (9, [.int 0, .ref m1, .ref m2, .ref m3, .int 0, .int 0, .int 0])), (m2, .inr (3, [.int 0, .ref gde, .int 0])), (x0, .inr (7, [.ref x1, .ref x2, .ref x45, .ref x53, .ref x55, .ref x57, .int 0, .int 0, .int 0])), (x2, .inr (5, [.ref x3, .ref x4, .ref x5, .ref x7, .ref x9, .ref x11, .int 0, .int 0])), (x45, .inr (4, [.ref x2, .ref x46, .ref x47, .ref x49, .ref x51, .int 0, .int 0, .int (-2)]))] := hD
  refine lv_aload_n hx hb dL_law_2124 rfl (lv_at hl 2 rfl) ?_
  refine lv_aload_n hx hb dL_law_2125 rfl (lv_at hl 4 rfl) ?_
  refine lv_iload hx hb dL_law_2126 (lv_at hl 0 rfl) ?_
  refine lv_iconst (v := 1) hx hb dL_law_2128 (by decide) ?_
  refine lv_iadd hx hb dL_law_2129 ?_
  refine lv_topi (fun y2 ey2 => ?_)
  obtain rfl : y2 = 1 := ey2.trans (by decide)
  refine va_sld hx hb hX hbl hbA hS (by unfold vp_in; decide) dL_law_2130 ?_
  rw [show xs (Int32.toNatClampNeg 1) = v1 from hx1]
  have hPc := hP.sub (ws' := [(m0, .inr (9, [.int 0, .ref m1, .ref m2, .ref m3, .int 0, .int 0, .int 0])), (m2, .inr (3, [.int 0, .ref gde, .int 0]))]) [0, 1] rfl
  have hDc := hD.sub (ws' := [(m0, .inr (9, [.int 0, .ref m1, .ref m2, .ref m3, .int 0, .int 0, .int 0])), (m2, .inr (3, [.int 0, .ref gde, .int 0]))]) [0, 1] (by decide) rfl
  have hKc := hK.sub (tys' := []) [] rfl
  have hFc := va_free (wc := [(m0, .inr (9, [.int 0, .ref m1, .ref m2, .ref m3, .int 0, .int 0, .int 0])), (m2, .inr (3, [.int 0, .ref gde, .int 0]))]) hD hS hA [0, 1] rfl
  refine va_callr (va_runV (As := [.int v1]) (rest := [.ref ge5]) ⟨hx, hb, hml, hown, hts⟩ (kx_X5_peak_1 l dC dI ge5 gea gv5 gva gde gic gi0 m0 m2 m1 m3 H.size v1 v1_l v1_u) (cwV 1 hts gL_law_X5_peak rfl rfl rfl (by decide +kernel) ⟨Nat.le_of_ble_eq_true rfl, Nat.le_of_ble_eq_true rfl⟩) ⟨fun a U g mk q => by obtain ⟨q0, q1, qP, qK, qD, qG⟩ := q; exact ⟨q0, q1, qP, va_K.moved (u := U) (U := U.calling g mk a) (Vm.Alike.refl U.vm) qK, qD, gv.fb qG⟩, va_recv hKc hPc (ci := 9) (q0 := 0) rfl rfl, fun U hU hW => ⟨rfl, by rw [hU], by rw [hU]; exact hPc, va_K.moved hW.alike hKc, hDc.weaken (fun _ _ _ _ => trivial), gv.pass hW hU hS hFc hG⟩⟩ rfl rfl hl.1 rfl (lv_room (Nat.le_of_ble_eq_true rfl)) dL_law_2131 ⟨Nat.le_of_ble_eq_true rfl, Nat.le_of_ble_eq_true rfl⟩) hS (fun q _ h => hFc q h) hFc (fun u ra t H1 locs ht hvm hw hB hz1 hk1 hS => ?_)
  obtain ⟨q3, hra, hP1, hK1, hD1⟩ := hB
  rw [hra]
  rw [ht] at hP1
  have hK1 := va_K.moved hvm.symm hK1
  obtain ⟨hP, hD⟩ := va_join (wr := [(x0, .inr (7, [.ref x1, .ref x2, .ref x45, .ref x53, .ref x55, .ref x57, .int 0, .int 0, .int 0])), (x2, .inr (5, [.ref x3, .ref x4, .ref x5, .ref x7, .ref x9, .ref x11, .int 0, .int 0])), (x45, .inr (4, [.ref x2, .ref x46, .ref x47, .ref x49, .ref x51, .int 0, .int 0, .int (-2)]))]) (w1 := [(m0, .inr (9, [.int 0, .ref m1, .ref m2, .ref m3, .int 0, .int 0, .int 0]))]) hP hD [0, 1] [2, 3, 4] rfl rfl (by decide) (by decide) hk1 hFc hP1 hD1
  generalize H1 = H at hP hS ⊢
  have hP : va_P (dC, dI) vwCl [(x0, .inr (7, [.ref x1, .ref x2, .ref x45, .ref x53, .ref x55, .ref x57, .int 0, .int 0, .int 0])), (x2, .inr (5, [.ref x3, .ref x4, .ref x5, .ref x7, .ref x9, .ref x11, .int 0, .int 0])), (x45, .inr (4, [.ref x2, .ref x46, .ref x47, .ref x49, .ref x51, .int 0, .int 0, .int (-2)])), (m0, .inr (9, [.int 0, .ref m1, .ref m2, .ref m3, .int 0, .int 0, .int 0]))] H := hP
  have hD : va_D A [(x0, .inr (7, [.ref x1, .ref x2, .ref x45, .ref x53, .ref x55, .ref x57, .int 0, .int 0, .int 0])), (x2, .inr (5, [.ref x3, .ref x4, .ref x5, .ref x7, .ref x9, .ref x11, .int 0, .int 0])), (x45, .inr (4, [.ref x2, .ref x46, .ref x47, .ref x49, .ref x51, .int 0, .int 0, .int (-2)])), (m0, .inr (9, [.int 0, .ref m1, .ref m2, .ref m3, .int 0, .int 0, .int 0]))] := hD
  refine W.widen (k := 73) (n := 2751) (by omega) (by omega) ?_
  have hPc := hP.sub (ws' := []) [] rfl
  have hDc := hD.sub (ws' := []) [] (by decide) rfl
  have hKc := hK.sub (tys' := []) [] rfl
  have hFc := va_free (wc := []) hD hS hA [] rfl
  refine va_calli (va_runV (As := [.ref ge5]) (rest := []) ⟨hx, hb, hml, hown, hts⟩ (kx_J0_equals_9ea2d_1 l dC dI ge5 gea gv5 gva gde gic gi0 H.size) (cwV 1 hts gL_law_J0_equals_9ea2d rfl rfl rfl (by decide +kernel) ⟨Nat.le_of_ble_eq_true rfl, Nat.le_of_ble_eq_true rfl⟩) ⟨fun a U g mk q => by obtain ⟨q0, q1, qP, qK, qD, qG⟩ := q; exact ⟨q0, q1, qP, va_K.moved (u := U) (U := U.calling g mk a) (Vm.Alike.refl U.vm) qK, qD, gv.fb qG⟩, (by obtain ⟨cell, k1, k2, k3, -⟩ := g_o5.kept hS.2.1; exact ⟨cell, k1, k2, k3⟩), fun U hU hW => ⟨rfl, by rw [hU], by rw [hU]; exact hPc, va_K.moved hW.alike hKc, hDc.weaken (fun _ _ _ _ => trivial), gv.pass hW hU hS hFc hG⟩⟩ rfl rfl hl.1 rfl (lv_room (Nat.le_of_ble_eq_true rfl)) dL_law_2134 ⟨Nat.le_of_ble_eq_true rfl, Nat.le_of_ble_eq_true rfl⟩) hS (fun q _ h => hFc q h) hFc (fun r9 u t H1 locs ht hvm hw hB hz1 hk1 hS => ?_)
  obtain rfl := hw
  obtain ⟨hP1, hK1, hD1⟩ := hB
  rw [ht] at hP1
  have hK1 := va_K.moved hvm.symm hK1
  obtain ⟨hP, hD⟩ := va_join (wr := [(x0, .inr (7, [.ref x1, .ref x2, .ref x45, .ref x53, .ref x55, .ref x57, .int 0, .int 0, .int 0])), (x2, .inr (5, [.ref x3, .ref x4, .ref x5, .ref x7, .ref x9, .ref x11, .int 0, .int 0])), (x45, .inr (4, [.ref x2, .ref x46, .ref x47, .ref x49, .ref x51, .int 0, .int 0, .int (-2)])), (m0, .inr (9, [.int 0, .ref m1, .ref m2, .ref m3, .int 0, .int 0, .int 0]))]) (w1 := []) hP hD [] [0, 1, 2, 3] rfl rfl (by decide) (by decide) hk1 hFc hP1 hD1
  generalize H1 = H at hP hS ⊢
  have hP : va_P (dC, dI) vwCl [(x0, .inr (7, [.ref x1, .ref x2, .ref x45, .ref x53, .ref x55, .ref x57, .int 0, .int 0, .int 0])), (x2, .inr (5, [.ref x3, .ref x4, .ref x5, .ref x7, .ref x9, .ref x11, .int 0, .int 0])), (x45, .inr (4, [.ref x2, .ref x46, .ref x47, .ref x49, .ref x51, .int 0, .int 0, .int (-2)])), (m0, .inr (9, [.int 0, .ref m1, .ref m2, .ref m3, .int 0, .int 0, .int 0]))] H := hP
  have hD : va_D A [(x0, .inr (7, [.ref x1, .ref x2, .ref x45, .ref x53, .ref x55, .ref x57, .int 0, .int 0, .int 0])), (x2, .inr (5, [.ref x3, .ref x4, .ref x5, .ref x7, .ref x9, .ref x11, .int 0, .int 0])), (x45, .inr (4, [.ref x2, .ref x46, .ref x47, .ref x49, .ref x51, .int 0, .int 0, .int (-2)])), (m0, .inr (9, [.int 0, .ref m1, .ref m2, .ref m3, .int 0, .int 0, .int 0]))] := hD
  refine lv_if_ne (tgt := 2342) hx hb dL_law_2137 (by decide) (fun _ => ?_) (fun c9 => absurd c9 (by decide))
  refine lv_iinc (v := 7) (lv' := [(4, .int 7), (3, .ref o0), (2, .ref m0), (1, .ref x0), (0, .ref b)]) hx hb dL_law_2342 hl (k := 0) rfl (by decide) (by decide) rfl (fun ls hl => ?_)
  refine lv_goto (tgt := 27) hx hb dL_law_2345 (by decide) ?_
  refine lv_iload hx hb dL_law_27 (lv_at hl 0 rfl) ?_
  refine lv_aload_n hx hb dL_law_29 rfl (lv_at hl 4 rfl) ?_
  refine va_slen hx hb hX hbl hbA hS dL_law_30 ?_
  refine lv_topi (fun y4 ey4 => ?_)
  obtain rfl : y4 = 7 := ey4.trans (by decide)
  refine lv_bipush (v := 7) hx hb dL_law_31 (by decide) ?_
  refine lv_isub hx hb dL_law_33 ?_
  refine lv_topi (fun y5 ey5 => ?_)
  obtain rfl : y5 = 0 := ey5.trans (by decide)
  refine lv_icmp_gt (tgt := 2348) hx hb dL_law_34 (by decide) (fun _ => ?_) (fun c9 => absurd (by decide) c9)
  refine lv_iconst (v := 1) hx hb dL_law_2348 (by decide) ?_
  refine va_forget (fun q hq => (by have h := hS.2.2 q hq; rw [hAe] at h; exact h)) ?_
  refine W.widen (k := 600002) (n := 7302232) (Nat.le_of_ble_eq_true rfl) (Nat.le_of_ble_eq_true rfl) ?_
  exact lw_ret hx hb hr hlocks dL_law_2349
set_option maxHeartbeats 4000000 in
set_option maxRecDepth 100000 in
theorem lc_meets_0 {p : Program} {e : Env} {s : State} {m : MethodId} {below : List Frame} {meth : Method} {c : Code} {l : Launch} (hst : l.stackTraces = false) {b : Nat} {xs : Nat → Int32} (C9 : lx_At p s m meth c b xs) {dC : Nat → ClassId} {dI : Nat → Nat → Nat} {ge5 gea gv5 gva gde gic gi0 : Nat} {x0 x45 m0 m2 x1 x2 x53 x55 x57 x46 x47 x49 x51 m1 m3 o0 : Nat} (hG : gv ge5 gea gv5 gva gde gic gi0 (fun q => s.heap.size ≤ q) s s.heap) {v1 : Int32} (v1_l : ((-2147483648) : Int) ≤ v1.toInt) (v1_u : v1.toInt ≤ ((-1) : Int)) (hx1 : xs 1 = v1) {H : Heap} {locs : List Loc} (hK : va_K (dC, dI) vwCl [] s) (hP : va_P (dC, dI) vwCl [(x0, .inr (7, [.ref x1, .ref x2, .ref x45, .ref x53, .ref x55, .ref x57, .int 0, .int 0, .int 0])), (x45, .inr (4, [.ref x2, .ref x46, .ref x47, .ref x49, .ref x51, .int 0, .int 0, .int (-2)])), (m0, .inr (9, [.int 0, .ref m1, .ref m2, .ref m3, .int 0, .int 0, .int 0])), (m2, .inr (3, [.int 0, .ref gde, .int 0]))] H) (hD : va_D (fun q => s.heap.size ≤ q) [(x0, .inr (7, [.ref x1, .ref x2, .ref x45, .ref x53, .ref x55, .ref x57, .int 0, .int 0, .int 0])), (x45, .inr (4, [.ref x2, .ref x46, .ref x47, .ref x49, .ref x51, .int 0, .int 0, .int (-2)])), (m0, .inr (9, [.int 0, .ref m1, .ref m2, .ref m3, .int 0, .int 0, .int 0])), (m2, .inr (3, [.int 0, .ref gde, .int 0]))]) (hS : va_S (fun q => s.heap.size ≤ q) s.heap H locs) {ls : Array Slot} (hl : lv_has ls 7 [(4, .int 0), (3, .ref o0), (2, .ref m0), (1, .ref x0), (0, .ref b)]) : W p l e room_1 s m #[Value.ref b] below meth c H locs 72 2748 (lw_Z below #[Value.ref b] s) (F0 m 2142 ls []) := by
  obtain ⟨hx, hb, hr, hml, hown, hts, hX, hbl, hlocks⟩ := id C9
  have hA : ∀ q : Nat, s.heap.size ≤ q → (fun q : Nat => s.heap.size ≤ q) q := fun _ h => h
  have hbA : ¬ (fun q : Nat => s.heap.size ≤ q) b := Nat.not_le.mpr hbl
  obtain ⟨A, hAe⟩ : ∃ A : Nat → Prop, A = (fun q : Nat => s.heap.size ≤ q) := ⟨_, rfl⟩
  rw [← hAe] at hG hD hS hA hbA
  obtain ⟨⟨g_AO_Text, g_AO_String, g_AO_Object, g_nm_RX1_20, g_nm_RX0_17, g_nm_RX3_31, g_nm_RX2_44, g_nm_RL_121, g_nf_RL_13, g_nf_RL_47, g_ca_IO, g_ca_IA, g_ca_IS, g_ca_IntObj, g_ca_StrObj, g_de_RT, g_de_EX, g_de_TH, g_nc_IA_IO, g_nc_IS_IO, g_nc_IS_IA⟩, ⟨g_s3, g_s5, g_sa, g_x278, g_x280, g_x282, g_x284, g_x286, g_x180, g_x238, g_x250⟩, ⟨g_o5, g_c5, g_v5, g_t5, g_oa, g_ca, g_va, g_ta, g_zc, g_zd, g_td, g_zf, g_zU, g_zN, g_zh, g_zk, g_tk, g_oi, g_vi⟩⟩ := id hG
  refine lv_aload_n hx hb dL_law_2142 rfl (lv_at hl 3 rfl) ?_
  refine lv_aload_n hx hb dL_law_2143 rfl (lv_at hl 4 rfl) ?_
  refine lv_iload hx hb dL_law_2144 (lv_at hl 0 rfl) ?_
  refine lv_iconst (v := 1) hx hb dL_law_2146 (by decide) ?_
  refine lv_iadd hx hb dL_law_2147 ?_
  refine lv_topi (fun y1 ey1 => ?_)
  obtain rfl : y1 = 1 := ey1.trans (by decide)
  refine va_sld hx hb hX hbl hbA hS (by unfold vp_in; decide) dL_law_2148 ?_
  rw [show xs (Int32.toNatClampNeg 1) = v1 from hx1]
  refine lv_aload_n hx hb dL_law_2149 rfl (lv_at hl 1 rfl) ?_
  have hPc := hP.sub (ws' := [(x0, .inr (7, [.ref x1, .ref x2, .ref x45, .ref x53, .ref x55, .ref x57, .int 0, .int 0, .int 0])), (x45, .inr (4, [.ref x2, .ref x46, .ref x47, .ref x49, .ref x51, .int 0, .int 0, .int (-2)]))]) [0, 1] rfl
  have hDc := hD.sub (ws' := [(x0, .inr (7, [.ref x1, .ref x2, .ref x45, .ref x53, .ref x55, .ref x57, .int 0, .int 0, .int 0])), (x45, .inr (4, [.ref x2, .ref x46, .ref x47, .ref x49, .ref x51, .int 0, .int 0, .int (-2)]))]) [0, 1] (by decide) rfl
  have hKc := hK.sub (tys' := []) [] rfl
  have hFc := va_free (wc := [(x0, .inr (7, [.ref x1, .ref x2, .ref x45, .ref x53, .ref x55, .ref x57, .int 0, .int 0, .int 0])), (x45, .inr (4, [.ref x2, .ref x46, .ref x47, .ref x49, .ref x51, .int 0, .int 0, .int (-2)]))]) hD hS hA [0, 1] rfl
  refine va_calli (vx_runSW (As := [.ref x0, .int v1, .ref o0]) (rest := []) ⟨hx, hb, hml, hown, hts⟩ (kx_L_meets_0 l hst dC dI ge5 gea gv5 gva gde gic gi0 x0 x45 o0 x1 x2 x53 x55 x57 x46 x47 x49 x51 H.size v1 v1_l v1_u) (vx_cwSW 3 hts gL_law_L_meets rfl rfl rfl (by decide +kernel) ⟨Nat.le_of_ble_eq_true rfl, Nat.le_of_ble_eq_true rfl⟩) ⟨fun a U g mk q => by obtain ⟨q0, q1, qP, qK, qD, qG⟩ := q; exact ⟨q0, q1, qP, va_K.moved (u := U) (U := U.calling g mk a) (Vm.Alike.refl U.vm) qK, qD, gv.fb qG⟩, fun U hU hW => ⟨rfl, by rw [hU], by rw [hU]; exact hPc, va_K.moved hW.alike hKc, hDc.weaken (fun _ _ _ _ => trivial), gv.pass hW hU hS hFc hG⟩⟩ rfl rfl hl.1 rfl (lv_room (Nat.le_of_ble_eq_true rfl)) dL_law_2150 ⟨Nat.le_of_ble_eq_true rfl, Nat.le_of_ble_eq_true rfl⟩) hS (fun q _ h => hFc q h) hFc (fun r9 u t H1 locs ht hvm hw hB hz1 hk1 hS => ?_)
  obtain rfl := hw
  obtain ⟨hP1, hK1, hD1⟩ := hB
  rw [ht] at hP1
  have hK1 := va_K.moved hvm.symm hK1
  obtain ⟨hP, hD⟩ := va_join (wr := [(m0, .inr (9, [.int 0, .ref m1, .ref m2, .ref m3, .int 0, .int 0, .int 0])), (m2, .inr (3, [.int 0, .ref gde, .int 0]))]) (w1 := [(x0, .inr (7, [.ref x1, .ref x2, .ref x45, .ref x53, .ref x55, .ref x57, .int 0, .int 0, .int 0])), (x45, .inr (4, [.ref x2, .ref x46, .ref x47, .ref x49, .ref x51, .int 0, .int 0, .int (-2)]))]) hP hD [0, 1] [2, 3] rfl rfl (by decide) (by decide) hk1 hFc hP1 hD1
  generalize H1 = H at hP hS ⊢
  have hP : va_P (dC, dI) vwCl [(m0, .inr (9, [.int 0, .ref m1, .ref m2, .ref m3, .int 0, .int 0, .int 0])), (m2, .inr (3, [.int 0, .ref gde, .int 0])), (x0, .inr (7, [.ref x1, .ref x2, .ref x45, .ref x53, .ref x55, .ref x57, .int 0, .int 0, .int 0])), (x45, .inr (4, [.ref x2, .ref x46, .ref x47, .ref x49, .ref x51, .int 0, .int 0, .int (-2)]))] H := hP
  have hD : va_D A [(m0, .inr (9, [.int 0, .ref m1, .ref m2, .ref m3, .int 0, .int 0, .int 0])), (m2, .inr (3, [.int 0, .ref gde, .int 0])), (x0, .inr (7, [.ref x1, .ref x2, .ref x45, .ref x53, .ref x55, .ref x57, .int 0, .int 0, .int 0])), (x45, .inr (4, [.ref x2, .ref x46, .ref x47, .ref x49, .ref x51, .int 0, .int 0, .int (-2)]))] := hD
  refine W.widen (k := 73) (n := 2754) (by omega) (by omega) ?_
  refine lv_istore (lv' := [(5, .int 1), (4, .int 0), (3, .ref o0), (2, .ref m0), (1, .ref x0), (0, .ref b)]) hx hb dL_law_2153 hl (by decide) rfl (fun ls hl => ?_)
  refine lv_aload_n hx hb dL_law_2155 rfl (lv_at hl 3 rfl) ?_
  refine lv_aload_n hx hb dL_law_2156 rfl (lv_at hl 5 rfl) ?_
  refine lv_iload hx hb dL_law_2157 (lv_at hl 1 rfl) ?_
  refine lv_iconst (v := 1) hx hb dL_law_2159 (by decide) ?_
  refine lv_iadd hx hb dL_law_2160 ?_
  refine lv_topi (fun y2 ey2 => ?_)
  obtain rfl : y2 = 1 := ey2.trans (by decide)
  refine va_sld hx hb hX hbl hbA hS (by unfold vp_in; decide) dL_law_2161 ?_
  rw [show xs (Int32.toNatClampNeg 1) = v1 from hx1]
  have hPc := hP.sub (ws' := [(m0, .inr (9, [.int 0, .ref m1, .ref m2, .ref m3, .int 0, .int 0, .int 0])), (m2, .inr (3, [.int 0, .ref gde, .int 0]))]) [0, 1] rfl
  have hDc := hD.sub (ws' := [(m0, .inr (9, [.int 0, .ref m1, .ref m2, .ref m3, .int 0, .int 0, .int 0])), (m2, .inr (3, [.int 0, .ref gde, .int 0]))]) [0, 1] (by decide) rfl
  have hKc := hK.sub (tys' := []) [] rfl
  have hFc := va_free (wc := [(m0, .inr (9, [.int 0, .ref m1, .ref m2, .ref m3, .int 0, .int 0, .int 0])), (m2, .inr (3, [.int 0, .ref gde, .int 0]))]) hD hS hA [0, 1] rfl
  refine va_calli (va_runV (As := [.int v1]) (rest := []) ⟨hx, hb, hml, hown, hts⟩ (kx_X5_meets_0 l dC dI ge5 gea gv5 gva gde gic gi0 m0 m2 m1 m3 H.size v1 v1_l v1_u) (cwV 1 hts gL_law_X5_meets rfl rfl rfl (by decide +kernel) ⟨Nat.le_of_ble_eq_true rfl, Nat.le_of_ble_eq_true rfl⟩) ⟨fun a U g mk q => by obtain ⟨q0, q1, qP, qK, qD, qG⟩ := q; exact ⟨q0, q1, qP, va_K.moved (u := U) (U := U.calling g mk a) (Vm.Alike.refl U.vm) qK, qD, gv.fb qG⟩, va_recv hKc hPc (ci := 9) (q0 := 0) rfl rfl, fun U hU hW => ⟨rfl, by rw [hU], by rw [hU]; exact hPc, va_K.moved hW.alike hKc, hDc.weaken (fun _ _ _ _ => trivial), gv.pass hW hU hS hFc hG⟩⟩ rfl rfl hl.1 rfl (lv_room (Nat.le_of_ble_eq_true rfl)) dL_law_2162 ⟨Nat.le_of_ble_eq_true rfl, Nat.le_of_ble_eq_true rfl⟩) hS (fun q _ h => hFc q h) hFc (fun r9 u t H1 locs ht hvm hw hB hz1 hk1 hS => ?_)
  obtain rfl := hw
  obtain ⟨q3, hP1, hK1, hD1⟩ := hB
  rw [ht] at hP1
  have hK1 := va_K.moved hvm.symm hK1
  obtain ⟨hP, hD⟩ := va_join (wr := [(x0, .inr (7, [.ref x1, .ref x2, .ref x45, .ref x53, .ref x55, .ref x57, .int 0, .int 0, .int 0])), (x45, .inr (4, [.ref x2, .ref x46, .ref x47, .ref x49, .ref x51, .int 0, .int 0, .int (-2)]))]) (w1 := [(m0, .inr (9, [.int 1, .ref m1, .ref m2, .ref m3, .int 0, .int 0, .int 0]))]) hP hD [0, 1] [2, 3] rfl rfl (by decide) (by decide) hk1 hFc hP1 hD1
  generalize H1 = H at hP hS ⊢
  have hP : va_P (dC, dI) vwCl [(x0, .inr (7, [.ref x1, .ref x2, .ref x45, .ref x53, .ref x55, .ref x57, .int 0, .int 0, .int 0])), (x45, .inr (4, [.ref x2, .ref x46, .ref x47, .ref x49, .ref x51, .int 0, .int 0, .int (-2)])), (m0, .inr (9, [.int 1, .ref m1, .ref m2, .ref m3, .int 0, .int 0, .int 0]))] H := hP
  have hD : va_D A [(x0, .inr (7, [.ref x1, .ref x2, .ref x45, .ref x53, .ref x55, .ref x57, .int 0, .int 0, .int 0])), (x45, .inr (4, [.ref x2, .ref x46, .ref x47, .ref x49, .ref x51, .int 0, .int 0, .int (-2)])), (m0, .inr (9, [.int 1, .ref m1, .ref m2, .ref m3, .int 0, .int 0, .int 0]))] := hD
  refine W.widen (k := 74) (n := 2757) (by omega) (by omega) ?_
  refine lv_istore (lv' := [(6, .int 0), (5, .int 1), (4, .int 0), (3, .ref o0), (2, .ref m0), (1, .ref x0), (0, .ref b)]) hx hb dL_law_2165 hl (by decide) rfl (fun ls hl => ?_)
  refine lv_aload_n hx hb dL_law_2167 rfl (lv_at hl 4 rfl) ?_
  have hPc := hP.sub (ws' := [(m0, .inr (9, [.int 1, .ref m1, .ref m2, .ref m3, .int 0, .int 0, .int 0]))]) [2] rfl
  have hDc := hD.sub (ws' := [(m0, .inr (9, [.int 1, .ref m1, .ref m2, .ref m3, .int 0, .int 0, .int 0]))]) [2] (by decide) rfl
  have hKc := hK.sub (tys' := []) [] rfl
  have hFc := va_free (wc := [(m0, .inr (9, [.int 1, .ref m1, .ref m2, .ref m3, .int 0, .int 0, .int 0]))]) hD hS hA [2] rfl
  refine va_calli (va_runV (As := []) (rest := []) ⟨hx, hb, hml, hown, hts⟩ (kx_X5_thrown_0 l dC dI m0 m1 m2 m3 H.size) (cwV 0 hts gL_law_X5_thrown rfl rfl rfl (by decide +kernel) ⟨Nat.le_of_ble_eq_true rfl, Nat.le_of_ble_eq_true rfl⟩) ⟨fun a U g mk q => by obtain ⟨q0, q1, qP, qK, qD⟩ := q; exact ⟨q0, q1, qP, va_K.moved (u := U) (U := U.calling g mk a) (Vm.Alike.refl U.vm) qK, qD⟩, va_recv hKc hPc (ci := 9) (q0 := 0) rfl rfl, fun U hU hW => ⟨rfl, by rw [hU], by rw [hU]; exact hPc, va_K.moved hW.alike hKc, hDc.weaken (fun _ _ _ _ => trivial)⟩⟩ rfl rfl hl.1 rfl (lv_room (Nat.le_of_ble_eq_true rfl)) dL_law_2168 ⟨Nat.le_of_ble_eq_true rfl, Nat.le_of_ble_eq_true rfl⟩) hS (fun q _ h => hFc q h) hFc (fun r9 u t H1 locs ht hvm hw hB hz1 hk1 hS => ?_)
  obtain rfl := hw
  obtain ⟨hP1, hK1, hD1⟩ := hB
  rw [ht] at hP1
  have hK1 := va_K.moved hvm.symm hK1
  obtain ⟨hP, hD⟩ := va_join (wr := [(x0, .inr (7, [.ref x1, .ref x2, .ref x45, .ref x53, .ref x55, .ref x57, .int 0, .int 0, .int 0])), (x45, .inr (4, [.ref x2, .ref x46, .ref x47, .ref x49, .ref x51, .int 0, .int 0, .int (-2)]))]) (w1 := [(m0, .inr (9, [.int 1, .ref m1, .ref m2, .ref m3, .int 0, .int 0, .int 0]))]) hP hD [2] [0, 1] rfl rfl (by decide) (by decide) hk1 hFc hP1 hD1
  generalize H1 = H at hP hS ⊢
  have hP : va_P (dC, dI) vwCl [(x0, .inr (7, [.ref x1, .ref x2, .ref x45, .ref x53, .ref x55, .ref x57, .int 0, .int 0, .int 0])), (x45, .inr (4, [.ref x2, .ref x46, .ref x47, .ref x49, .ref x51, .int 0, .int 0, .int (-2)])), (m0, .inr (9, [.int 1, .ref m1, .ref m2, .ref m3, .int 0, .int 0, .int 0]))] H := hP
  have hD : va_D A [(x0, .inr (7, [.ref x1, .ref x2, .ref x45, .ref x53, .ref x55, .ref x57, .int 0, .int 0, .int 0])), (x45, .inr (4, [.ref x2, .ref x46, .ref x47, .ref x49, .ref x51, .int 0, .int 0, .int (-2)])), (m0, .inr (9, [.int 1, .ref m1, .ref m2, .ref m3, .int 0, .int 0, .int 0]))] := hD
  refine lv_iload hx hb dL_law_2171 (lv_at hl 1 rfl) ?_
  refine lv_icmp_eq (tgt := 2178) hx hb dL_law_2173 (by decide) (fun _ => ?_) (fun c9 => absurd (by decide) c9)
  refine lv_iload hx hb dL_law_2178 (lv_at hl 1 rfl) ?_
  refine lv_if_ne (tgt := 2203) hx hb dL_law_2180 (by decide) (fun _ => ?_) (fun c9 => absurd c9 (by decide))
  refine lv_goto (tgt := 2342) hx hb dL_law_2203 (by decide) ?_
  refine lv_iinc (v := 7) (lv' := [(4, .int 7), (6, .int 0), (5, .int 1), (3, .ref o0), (2, .ref m0), (1, .ref x0), (0, .ref b)]) hx hb dL_law_2342 hl (k := 2) rfl (by decide) (by decide) rfl (fun ls hl => ?_)
  refine lv_goto (tgt := 27) hx hb dL_law_2345 (by decide) ?_
  refine lv_iload hx hb dL_law_27 (lv_at hl 0 rfl) ?_
  refine lv_aload_n hx hb dL_law_29 rfl (lv_at hl 6 rfl) ?_
  refine va_slen hx hb hX hbl hbA hS dL_law_30 ?_
  refine lv_topi (fun y4 ey4 => ?_)
  obtain rfl : y4 = 7 := ey4.trans (by decide)
  refine lv_bipush (v := 7) hx hb dL_law_31 (by decide) ?_
  refine lv_isub hx hb dL_law_33 ?_
  refine lv_topi (fun y5 ey5 => ?_)
  obtain rfl : y5 = 0 := ey5.trans (by decide)
  refine lv_icmp_gt (tgt := 2348) hx hb dL_law_34 (by decide) (fun _ => ?_) (fun c9 => absurd (by decide) c9)
  refine lv_iconst (v := 1) hx hb dL_law_2348 (by decide) ?_
  refine va_forget (fun q hq => (by have h := hS.2.2 q hq; rw [hAe] at h; exact h)) ?_
  refine W.widen (k := 600002) (n := 7302232) (Nat.le_of_ble_eq_true rfl) (Nat.le_of_ble_eq_true rfl) ?_
  exact lw_ret hx hb hr hlocks dL_law_2349
set_option maxHeartbeats 4000000 in
set_option maxRecDepth 100000 in
theorem lc_meets_1 {p : Program} {e : Env} {s : State} {m : MethodId} {below : List Frame} {meth : Method} {c : Code} {l : Launch} (hst : l.stackTraces = false) {b : Nat} {xs : Nat → Int32} (C9 : lx_At p s m meth c b xs) {dC : Nat → ClassId} {dI : Nat → Nat → Nat} {ge5 gea gv5 gva gde gic gi0 : Nat} {x0 x2 x45 m0 m2 x1 x53 x55 x57 x3 x4 x5 x7 x9 x11 x46 x47 x49 x51 m1 m3 o0 : Nat} (hG : gv ge5 gea gv5 gva gde gic gi0 (fun q => s.heap.size ≤ q) s s.heap) {v1 : Int32} (v1_l : (0 : Int) ≤ v1.toInt) (v1_u : v1.toInt ≤ (2147483647 : Int)) (hx1 : xs 1 = v1) {H : Heap} {locs : List Loc} (hK : va_K (dC, dI) vwCl [] s) (hP : va_P (dC, dI) vwCl [(x0, .inr (7, [.ref x1, .ref x2, .ref x45, .ref x53, .ref x55, .ref x57, .int 0, .int 0, .int 0])), (x2, .inr (5, [.ref x3, .ref x4, .ref x5, .ref x7, .ref x9, .ref x11, .int 0, .int 0])), (x45, .inr (4, [.ref x2, .ref x46, .ref x47, .ref x49, .ref x51, .int 0, .int 0, .int (-2)])), (m0, .inr (9, [.int 0, .ref m1, .ref m2, .ref m3, .int 0, .int 0, .int 0])), (m2, .inr (3, [.int 0, .ref gde, .int 0]))] H) (hD : va_D (fun q => s.heap.size ≤ q) [(x0, .inr (7, [.ref x1, .ref x2, .ref x45, .ref x53, .ref x55, .ref x57, .int 0, .int 0, .int 0])), (x2, .inr (5, [.ref x3, .ref x4, .ref x5, .ref x7, .ref x9, .ref x11, .int 0, .int 0])), (x45, .inr (4, [.ref x2, .ref x46, .ref x47, .ref x49, .ref x51, .int 0, .int 0, .int (-2)])), (m0, .inr (9, [.int 0, .ref m1, .ref m2, .ref m3, .int 0, .int 0, .int 0])), (m2, .inr (3, [.int 0, .ref gde, .int 0]))]) (hS : va_S (fun q => s.heap.size ≤ q) s.heap H locs) {ls : Array Slot} (hl : lv_has ls 7 [(4, .int 0), (3, .ref o0), (2, .ref m0), (1, .ref x0), (0, .ref b)]) : W p l e room_1 s m #[Value.ref b] below meth c H locs 72 2748 (lw_Z below #[Value.ref b] s) (F0 m 2142 ls []) := by
  obtain ⟨hx, hb, hr, hml, hown, hts, hX, hbl, hlocks⟩ := id C9
  have hA : ∀ q : Nat, s.heap.size ≤ q → (fun q : Nat => s.heap.size ≤ q) q := fun _ h => h
  have hbA : ¬ (fun q : Nat => s.heap.size ≤ q) b := Nat.not_le.mpr hbl
  obtain ⟨A, hAe⟩ : ∃ A : Nat → Prop, A = (fun q : Nat => s.heap.size ≤ q) := ⟨_, rfl⟩
  rw [← hAe] at hG hD hS hA hbA
  obtain ⟨⟨g_AO_Text, g_AO_String, g_AO_Object, g_nm_RX1_20, g_nm_RX0_17, g_nm_RX3_31, g_nm_RX2_44, g_nm_RL_121, g_nf_RL_13, g_nf_RL_47, g_ca_IO, g_ca_IA, g_ca_IS, g_ca_IntObj, g_ca_StrObj, g_de_RT, g_de_EX, g_de_TH, g_nc_IA_IO, g_nc_IS_IO, g_nc_IS_IA⟩, ⟨g_s3, g_s5, g_sa, g_x278, g_x280, g_x282, g_x284, g_x286, g_x180, g_x238, g_x250⟩, ⟨g_o5, g_c5, g_v5, g_t5, g_oa, g_ca, g_va, g_ta, g_zc, g_zd, g_td, g_zf, g_zU, g_zN, g_zh, g_zk, g_tk, g_oi, g_vi⟩⟩ := id hG
  refine lv_aload_n hx hb dL_law_2142 rfl (lv_at hl 3 rfl) ?_
  refine lv_aload_n hx hb dL_law_2143 rfl (lv_at hl 4 rfl) ?_
  refine lv_iload hx hb dL_law_2144 (lv_at hl 0 rfl) ?_
  refine lv_iconst (v := 1) hx hb dL_law_2146 (by decide) ?_
  refine lv_iadd hx hb dL_law_2147 ?_
  refine lv_topi (fun y1 ey1 => ?_)
  obtain rfl : y1 = 1 := ey1.trans (by decide)
  refine va_sld hx hb hX hbl hbA hS (by unfold vp_in; decide) dL_law_2148 ?_
  rw [show xs (Int32.toNatClampNeg 1) = v1 from hx1]
  refine lv_aload_n hx hb dL_law_2149 rfl (lv_at hl 1 rfl) ?_
  have hPc := hP.sub (ws' := [(x0, .inr (7, [.ref x1, .ref x2, .ref x45, .ref x53, .ref x55, .ref x57, .int 0, .int 0, .int 0])), (x2, .inr (5, [.ref x3, .ref x4, .ref x5, .ref x7, .ref x9, .ref x11, .int 0, .int 0])), (x45, .inr (4, [.ref x2, .ref x46, .ref x47, .ref x49, .ref x51, .int 0, .int 0, .int (-2)]))]) [0, 1, 2] rfl
  have hDc := hD.sub (ws' := [(x0, .inr (7, [.ref x1, .ref x2, .ref x45, .ref x53, .ref x55, .ref x57, .int 0, .int 0, .int 0])), (x2, .inr (5, [.ref x3, .ref x4, .ref x5, .ref x7, .ref x9, .ref x11, .int 0, .int 0])), (x45, .inr (4, [.ref x2, .ref x46, .ref x47, .ref x49, .ref x51, .int 0, .int 0, .int (-2)]))]) [0, 1, 2] (by decide) rfl
  have hKc := hK.sub (tys' := []) [] rfl
  have hFc := va_free (wc := [(x0, .inr (7, [.ref x1, .ref x2, .ref x45, .ref x53, .ref x55, .ref x57, .int 0, .int 0, .int 0])), (x2, .inr (5, [.ref x3, .ref x4, .ref x5, .ref x7, .ref x9, .ref x11, .int 0, .int 0])), (x45, .inr (4, [.ref x2, .ref x46, .ref x47, .ref x49, .ref x51, .int 0, .int 0, .int (-2)]))]) hD hS hA [0, 1, 2] rfl
  refine va_calli (vx_runSW (As := [.ref x0, .int v1, .ref o0]) (rest := []) ⟨hx, hb, hml, hown, hts⟩ (kx_L_meets_1 l hst dC dI ge5 gea gv5 gva gde gic gi0 x0 x2 x45 o0 x1 x53 x55 x57 x3 x4 x5 x7 x9 x11 x46 x47 x49 x51 H.size v1 v1_l v1_u) (vx_cwSW 3 hts gL_law_L_meets rfl rfl rfl (by decide +kernel) ⟨Nat.le_of_ble_eq_true rfl, Nat.le_of_ble_eq_true rfl⟩) ⟨fun a U g mk q => by obtain ⟨q0, q1, qP, qK, qD, qG⟩ := q; exact ⟨q0, q1, qP, va_K.moved (u := U) (U := U.calling g mk a) (Vm.Alike.refl U.vm) qK, qD, gv.fb qG⟩, fun U hU hW => ⟨rfl, by rw [hU], by rw [hU]; exact hPc, va_K.moved hW.alike hKc, hDc.weaken (fun _ _ _ _ => trivial), gv.pass hW hU hS hFc hG⟩⟩ rfl rfl hl.1 rfl (lv_room (Nat.le_of_ble_eq_true rfl)) dL_law_2150 ⟨Nat.le_of_ble_eq_true rfl, Nat.le_of_ble_eq_true rfl⟩) hS (fun q _ h => hFc q h) hFc (fun r9 u t H1 locs ht hvm hw hB hz1 hk1 hS => ?_)
  obtain rfl := hw
  obtain ⟨hP1, hK1, hD1⟩ := hB
  rw [ht] at hP1
  have hK1 := va_K.moved hvm.symm hK1
  obtain ⟨hP, hD⟩ := va_join (wr := [(m0, .inr (9, [.int 0, .ref m1, .ref m2, .ref m3, .int 0, .int 0, .int 0])), (m2, .inr (3, [.int 0, .ref gde, .int 0]))]) (w1 := [(x0, .inr (7, [.ref x1, .ref x2, .ref x45, .ref x53, .ref x55, .ref x57, .int 0, .int 0, .int 0])), (x2, .inr (5, [.ref x3, .ref x4, .ref x5, .ref x7, .ref x9, .ref x11, .int 0, .int 0])), (x45, .inr (4, [.ref x2, .ref x46, .ref x47, .ref x49, .ref x51, .int 0, .int 0, .int (-2)]))]) hP hD [0, 1, 2] [3, 4] rfl rfl (by decide) (by decide) hk1 hFc hP1 hD1
  generalize H1 = H at hP hS ⊢
  have hP : va_P (dC, dI) vwCl [(m0, .inr (9, [.int 0, .ref m1, .ref m2, .ref m3, .int 0, .int 0, .int 0])), (m2, .inr (3, [.int 0, .ref gde, .int 0])), (x0, .inr (7, [.ref x1, .ref x2, .ref x45, .ref x53, .ref x55, .ref x57, .int 0, .int 0, .int 0])), (x2, .inr (5, [.ref x3, .ref x4, .ref x5, .ref x7, .ref x9, .ref x11, .int 0, .int 0])), (x45, .inr (4, [.ref x2, .ref x46, .ref x47, .ref x49, .ref x51, .int 0, .int 0, .int (-2)]))] H := hP
  have hD : va_D A [(m0, .inr (9, [.int 0, .ref m1, .ref m2, .ref m3, .int 0, .int 0, .int 0])), (m2, .inr (3, [.int 0, .ref gde, .int 0])), (x0, .inr (7, [.ref x1, .ref x2, .ref x45, .ref x53, .ref x55, .ref x57, .int 0, .int 0, .int 0])), (x2, .inr (5, [.ref x3, .ref x4, .ref x5, .ref x7, .ref x9, .ref x11, .int 0, .int 0])), (x45, .inr (4, [.ref x2, .ref x46, .ref x47, .ref x49, .ref x51, .int 0, .int 0, .int (-2)]))] := hD
  refine W.widen (k := 73) (n := 2754) (by omega) (by omega) ?_
  refine lv_istore (lv' := [(5, .int 1), (4, .int 0), (3, .ref o0), (2, .ref m0), (1, .ref x0), (0, .ref b)]) hx hb dL_law_2153 hl (by decide) rfl (fun ls hl => ?_)
  refine lv_aload_n hx hb dL_law_2155 rfl (lv_at hl 3 rfl) ?_
  refine lv_aload_n hx hb dL_law_2156 rfl (lv_at hl 5 rfl) ?_
  refine lv_iload hx hb dL_law_2157 (lv_at hl 1 rfl) ?_
  refine lv_iconst (v := 1) hx hb dL_law_2159 (by decide) ?_
  refine lv_iadd hx hb dL_law_2160 ?_
  refine lv_topi (fun y2 ey2 => ?_)
  obtain rfl : y2 = 1 := ey2.trans (by decide)
  refine va_sld hx hb hX hbl hbA hS (by unfold vp_in; decide) dL_law_2161 ?_
  rw [show xs (Int32.toNatClampNeg 1) = v1 from hx1]
  have hPc := hP.sub (ws' := [(m0, .inr (9, [.int 0, .ref m1, .ref m2, .ref m3, .int 0, .int 0, .int 0])), (m2, .inr (3, [.int 0, .ref gde, .int 0]))]) [0, 1] rfl
  have hDc := hD.sub (ws' := [(m0, .inr (9, [.int 0, .ref m1, .ref m2, .ref m3, .int 0, .int 0, .int 0])), (m2, .inr (3, [.int 0, .ref gde, .int 0]))]) [0, 1] (by decide) rfl
  have hKc := hK.sub (tys' := []) [] rfl
  have hFc := va_free (wc := [(m0, .inr (9, [.int 0, .ref m1, .ref m2, .ref m3, .int 0, .int 0, .int 0])), (m2, .inr (3, [.int 0, .ref gde, .int 0]))]) hD hS hA [0, 1] rfl
  refine va_calli (va_runV (As := [.int v1]) (rest := []) ⟨hx, hb, hml, hown, hts⟩ (kx_X5_meets_1 l dC dI ge5 gea gv5 gva gde gic gi0 m0 m2 m1 m3 H.size v1 v1_l v1_u) (cwV 1 hts gL_law_X5_meets rfl rfl rfl (by decide +kernel) ⟨Nat.le_of_ble_eq_true rfl, Nat.le_of_ble_eq_true rfl⟩) ⟨fun a U g mk q => by obtain ⟨q0, q1, qP, qK, qD, qG⟩ := q; exact ⟨q0, q1, qP, va_K.moved (u := U) (U := U.calling g mk a) (Vm.Alike.refl U.vm) qK, qD, gv.fb qG⟩, va_recv hKc hPc (ci := 9) (q0 := 0) rfl rfl, fun U hU hW => ⟨rfl, by rw [hU], by rw [hU]; exact hPc, va_K.moved hW.alike hKc, hDc.weaken (fun _ _ _ _ => trivial), gv.pass hW hU hS hFc hG⟩⟩ rfl rfl hl.1 rfl (lv_room (Nat.le_of_ble_eq_true rfl)) dL_law_2162 ⟨Nat.le_of_ble_eq_true rfl, Nat.le_of_ble_eq_true rfl⟩) hS (fun q _ h => hFc q h) hFc (fun r9 u t H1 locs ht hvm hw hB hz1 hk1 hS => ?_)
  obtain rfl := hw
  obtain ⟨q3, hP1, hK1, hD1⟩ := hB
  rw [ht] at hP1
  have hK1 := va_K.moved hvm.symm hK1
  obtain ⟨hP, hD⟩ := va_join (wr := [(x0, .inr (7, [.ref x1, .ref x2, .ref x45, .ref x53, .ref x55, .ref x57, .int 0, .int 0, .int 0])), (x2, .inr (5, [.ref x3, .ref x4, .ref x5, .ref x7, .ref x9, .ref x11, .int 0, .int 0])), (x45, .inr (4, [.ref x2, .ref x46, .ref x47, .ref x49, .ref x51, .int 0, .int 0, .int (-2)]))]) (w1 := [(m0, .inr (9, [.int 1, .ref m1, .ref m2, .ref m3, .int 0, .int 0, .int 0]))]) hP hD [0, 1] [2, 3, 4] rfl rfl (by decide) (by decide) hk1 hFc hP1 hD1
  generalize H1 = H at hP hS ⊢
  have hP : va_P (dC, dI) vwCl [(x0, .inr (7, [.ref x1, .ref x2, .ref x45, .ref x53, .ref x55, .ref x57, .int 0, .int 0, .int 0])), (x2, .inr (5, [.ref x3, .ref x4, .ref x5, .ref x7, .ref x9, .ref x11, .int 0, .int 0])), (x45, .inr (4, [.ref x2, .ref x46, .ref x47, .ref x49, .ref x51, .int 0, .int 0, .int (-2)])), (m0, .inr (9, [.int 1, .ref m1, .ref m2, .ref m3, .int 0, .int 0, .int 0]))] H := hP
  have hD : va_D A [(x0, .inr (7, [.ref x1, .ref x2, .ref x45, .ref x53, .ref x55, .ref x57, .int 0, .int 0, .int 0])), (x2, .inr (5, [.ref x3, .ref x4, .ref x5, .ref x7, .ref x9, .ref x11, .int 0, .int 0])), (x45, .inr (4, [.ref x2, .ref x46, .ref x47, .ref x49, .ref x51, .int 0, .int 0, .int (-2)])), (m0, .inr (9, [.int 1, .ref m1, .ref m2, .ref m3, .int 0, .int 0, .int 0]))] := hD
  refine W.widen (k := 74) (n := 2757) (by omega) (by omega) ?_
  refine lv_istore (lv' := [(6, .int 0), (5, .int 1), (4, .int 0), (3, .ref o0), (2, .ref m0), (1, .ref x0), (0, .ref b)]) hx hb dL_law_2165 hl (by decide) rfl (fun ls hl => ?_)
  refine lv_aload_n hx hb dL_law_2167 rfl (lv_at hl 4 rfl) ?_
  have hPc := hP.sub (ws' := [(m0, .inr (9, [.int 1, .ref m1, .ref m2, .ref m3, .int 0, .int 0, .int 0]))]) [3] rfl
  have hDc := hD.sub (ws' := [(m0, .inr (9, [.int 1, .ref m1, .ref m2, .ref m3, .int 0, .int 0, .int 0]))]) [3] (by decide) rfl
  have hKc := hK.sub (tys' := []) [] rfl
  have hFc := va_free (wc := [(m0, .inr (9, [.int 1, .ref m1, .ref m2, .ref m3, .int 0, .int 0, .int 0]))]) hD hS hA [3] rfl
  refine va_calli (va_runV (As := []) (rest := []) ⟨hx, hb, hml, hown, hts⟩ (kx_X5_thrown_0 l dC dI m0 m1 m2 m3 H.size) (cwV 0 hts gL_law_X5_thrown rfl rfl rfl (by decide +kernel) ⟨Nat.le_of_ble_eq_true rfl, Nat.le_of_ble_eq_true rfl⟩) ⟨fun a U g mk q => by obtain ⟨q0, q1, qP, qK, qD⟩ := q; exact ⟨q0, q1, qP, va_K.moved (u := U) (U := U.calling g mk a) (Vm.Alike.refl U.vm) qK, qD⟩, va_recv hKc hPc (ci := 9) (q0 := 0) rfl rfl, fun U hU hW => ⟨rfl, by rw [hU], by rw [hU]; exact hPc, va_K.moved hW.alike hKc, hDc.weaken (fun _ _ _ _ => trivial)⟩⟩ rfl rfl hl.1 rfl (lv_room (Nat.le_of_ble_eq_true rfl)) dL_law_2168 ⟨Nat.le_of_ble_eq_true rfl, Nat.le_of_ble_eq_true rfl⟩) hS (fun q _ h => hFc q h) hFc (fun r9 u t H1 locs ht hvm hw hB hz1 hk1 hS => ?_)
  obtain rfl := hw
  obtain ⟨hP1, hK1, hD1⟩ := hB
  rw [ht] at hP1
  have hK1 := va_K.moved hvm.symm hK1
  obtain ⟨hP, hD⟩ := va_join (wr := [(x0, .inr (7, [.ref x1, .ref x2, .ref x45, .ref x53, .ref x55, .ref x57, .int 0, .int 0, .int 0])), (x2, .inr (5, [.ref x3, .ref x4, .ref x5, .ref x7, .ref x9, .ref x11, .int 0, .int 0])), (x45, .inr (4, [.ref x2, .ref x46, .ref x47, .ref x49, .ref x51, .int 0, .int 0, .int (-2)]))]) (w1 := [(m0, .inr (9, [.int 1, .ref m1, .ref m2, .ref m3, .int 0, .int 0, .int 0]))]) hP hD [3] [0, 1, 2] rfl rfl (by decide) (by decide) hk1 hFc hP1 hD1
  generalize H1 = H at hP hS ⊢
  have hP : va_P (dC, dI) vwCl [(x0, .inr (7, [.ref x1, .ref x2, .ref x45, .ref x53, .ref x55, .ref x57, .int 0, .int 0, .int 0])), (x2, .inr (5, [.ref x3, .ref x4, .ref x5, .ref x7, .ref x9, .ref x11, .int 0, .int 0])), (x45, .inr (4, [.ref x2, .ref x46, .ref x47, .ref x49, .ref x51, .int 0, .int 0, .int (-2)])), (m0, .inr (9, [.int 1, .ref m1, .ref m2, .ref m3, .int 0, .int 0, .int 0]))] H := hP
  have hD : va_D A [(x0, .inr (7, [.ref x1, .ref x2, .ref x45, .ref x53, .ref x55, .ref x57, .int 0, .int 0, .int 0])), (x2, .inr (5, [.ref x3, .ref x4, .ref x5, .ref x7, .ref x9, .ref x11, .int 0, .int 0])), (x45, .inr (4, [.ref x2, .ref x46, .ref x47, .ref x49, .ref x51, .int 0, .int 0, .int (-2)])), (m0, .inr (9, [.int 1, .ref m1, .ref m2, .ref m3, .int 0, .int 0, .int 0]))] := hD
  refine lv_iload hx hb dL_law_2171 (lv_at hl 1 rfl) ?_
  refine lv_icmp_eq (tgt := 2178) hx hb dL_law_2173 (by decide) (fun _ => ?_) (fun c9 => absurd (by decide) c9)
  refine lv_iload hx hb dL_law_2178 (lv_at hl 1 rfl) ?_
  refine lv_if_ne (tgt := 2203) hx hb dL_law_2180 (by decide) (fun _ => ?_) (fun c9 => absurd c9 (by decide))
  refine lv_goto (tgt := 2342) hx hb dL_law_2203 (by decide) ?_
  refine lv_iinc (v := 7) (lv' := [(4, .int 7), (6, .int 0), (5, .int 1), (3, .ref o0), (2, .ref m0), (1, .ref x0), (0, .ref b)]) hx hb dL_law_2342 hl (k := 2) rfl (by decide) (by decide) rfl (fun ls hl => ?_)
  refine lv_goto (tgt := 27) hx hb dL_law_2345 (by decide) ?_
  refine lv_iload hx hb dL_law_27 (lv_at hl 0 rfl) ?_
  refine lv_aload_n hx hb dL_law_29 rfl (lv_at hl 6 rfl) ?_
  refine va_slen hx hb hX hbl hbA hS dL_law_30 ?_
  refine lv_topi (fun y4 ey4 => ?_)
  obtain rfl : y4 = 7 := ey4.trans (by decide)
  refine lv_bipush (v := 7) hx hb dL_law_31 (by decide) ?_
  refine lv_isub hx hb dL_law_33 ?_
  refine lv_topi (fun y5 ey5 => ?_)
  obtain rfl : y5 = 0 := ey5.trans (by decide)
  refine lv_icmp_gt (tgt := 2348) hx hb dL_law_34 (by decide) (fun _ => ?_) (fun c9 => absurd (by decide) c9)
  refine lv_iconst (v := 1) hx hb dL_law_2348 (by decide) ?_
  refine va_forget (fun q hq => (by have h := hS.2.2 q hq; rw [hAe] at h; exact h)) ?_
  refine W.widen (k := 600002) (n := 7302232) (Nat.le_of_ble_eq_true rfl) (Nat.le_of_ble_eq_true rfl) ?_
  exact lw_ret hx hb hr hlocks dL_law_2349
set_option maxHeartbeats 4000000 in
set_option maxRecDepth 100000 in
theorem lc_unmet_0 {p : Program} {e : Env} {s : State} {m : MethodId} {below : List Frame} {meth : Method} {c : Code} {l : Launch} (hst : l.stackTraces = false) {b : Nat} {xs : Nat → Int32} (C9 : lx_At p s m meth c b xs) {dC : Nat → ClassId} {dI : Nat → Nat → Nat} {ge5 gea gv5 gva gde gic gi0 : Nat} {x0 x2 x45 m0 m2 x1 x53 x55 x57 x3 x4 x5 x7 x9 x11 x46 x47 x49 x51 m1 m3 o0 : Nat} (hG : gv ge5 gea gv5 gva gde gic gi0 (fun q => s.heap.size ≤ q) s s.heap) {H : Heap} {locs : List Loc} (hK : va_K (dC, dI) vwCl [] s) (hP : va_P (dC, dI) vwCl [(x0, .inr (7, [.ref x1, .ref x2, .ref x45, .ref x53, .ref x55, .ref x57, .int 0, .int 0, .int 0])), (x2, .inr (5, [.ref x3, .ref x4, .ref x5, .ref x7, .ref x9, .ref x11, .int 0, .int 0])), (x45, .inr (4, [.ref x2, .ref x46, .ref x47, .ref x49, .ref x51, .int 0, .int 0, .int (-2)])), (m0, .inr (9, [.int 0, .ref m1, .ref m2, .ref m3, .int 0, .int 0, .int 0])), (m2, .inr (3, [.int 0, .ref gde, .int 0]))] H) (hD : va_D (fun q => s.heap.size ≤ q) [(x0, .inr (7, [.ref x1, .ref x2, .ref x45, .ref x53, .ref x55, .ref x57, .int 0, .int 0, .int 0])), (x2, .inr (5, [.ref x3, .ref x4, .ref x5, .ref x7, .ref x9, .ref x11, .int 0, .int 0])), (x45, .inr (4, [.ref x2, .ref x46, .ref x47, .ref x49, .ref x51, .int 0, .int 0, .int (-2)])), (m0, .inr (9, [.int 0, .ref m1, .ref m2, .ref m3, .int 0, .int 0, .int 0])), (m2, .inr (3, [.int 0, .ref gde, .int 0]))]) (hS : va_S (fun q => s.heap.size ≤ q) s.heap H locs) {ls : Array Slot} (hl : lv_has ls 7 [(4, .int 0), (3, .ref o0), (2, .ref m0), (1, .ref x0), (0, .ref b)]) : W p l e room_1 s m #[Value.ref b] below meth c H locs 72 2748 (lw_Z below #[Value.ref b] s) (F0 m 2206 ls []) := by
  obtain ⟨hx, hb, hr, hml, hown, hts, hX, hbl, hlocks⟩ := id C9
  have hA : ∀ q : Nat, s.heap.size ≤ q → (fun q : Nat => s.heap.size ≤ q) q := fun _ h => h
  have hbA : ¬ (fun q : Nat => s.heap.size ≤ q) b := Nat.not_le.mpr hbl
  obtain ⟨A, hAe⟩ : ∃ A : Nat → Prop, A = (fun q : Nat => s.heap.size ≤ q) := ⟨_, rfl⟩
  rw [← hAe] at hG hD hS hA hbA
  obtain ⟨⟨g_AO_Text, g_AO_String, g_AO_Object, g_nm_RX1_20, g_nm_RX0_17, g_nm_RX3_31, g_nm_RX2_44, g_nm_RL_121, g_nf_RL_13, g_nf_RL_47, g_ca_IO, g_ca_IA, g_ca_IS, g_ca_IntObj, g_ca_StrObj, g_de_RT, g_de_EX, g_de_TH, g_nc_IA_IO, g_nc_IS_IO, g_nc_IS_IA⟩, ⟨g_s3, g_s5, g_sa, g_x278, g_x280, g_x282, g_x284, g_x286, g_x180, g_x238, g_x250⟩, ⟨g_o5, g_c5, g_v5, g_t5, g_oa, g_ca, g_va, g_ta, g_zc, g_zd, g_td, g_zf, g_zU, g_zN, g_zh, g_zk, g_tk, g_oi, g_vi⟩⟩ := id hG
  refine lv_aload_n hx hb dL_law_2206 rfl (lv_at hl 3 rfl) ?_
  have hPc := hP.sub (ws' := [(x0, .inr (7, [.ref x1, .ref x2, .ref x45, .ref x53, .ref x55, .ref x57, .int 0, .int 0, .int 0])), (x2, .inr (5, [.ref x3, .ref x4, .ref x5, .ref x7, .ref x9, .ref x11, .int 0, .int 0])), (x45, .inr (4, [.ref x2, .ref x46, .ref x47, .ref x49, .ref x51, .int 0, .int 0, .int (-2)]))]) [0, 1, 2] rfl
  have hDc := hD.sub (ws' := [(x0, .inr (7, [.ref x1, .ref x2, .ref x45, .ref x53, .ref x55, .ref x57, .int 0, .int 0, .int 0])), (x2, .inr (5, [.ref x3, .ref x4, .ref x5, .ref x7, .ref x9, .ref x11, .int 0, .int 0])), (x45, .inr (4, [.ref x2, .ref x46, .ref x47, .ref x49, .ref x51, .int 0, .int 0, .int (-2)]))]) [0, 1, 2] (by decide) rfl
  have hKc := hK.sub (tys' := []) [] rfl
  have hFc := va_free (wc := [(x0, .inr (7, [.ref x1, .ref x2, .ref x45, .ref x53, .ref x55, .ref x57, .int 0, .int 0, .int 0])), (x2, .inr (5, [.ref x3, .ref x4, .ref x5, .ref x7, .ref x9, .ref x11, .int 0, .int 0])), (x45, .inr (4, [.ref x2, .ref x46, .ref x47, .ref x49, .ref x51, .int 0, .int 0, .int (-2)]))]) hD hS hA [0, 1, 2] rfl
  refine va_calli (va_runV (As := []) (rest := []) ⟨hx, hb, hml, hown, hts⟩ (kx_X3_unmet_0 l dC dI x0 x2 x45 x1 x53 x55 x57 x3 x4 x5 x7 x9 x11 x46 x47 x49 x51 H.size) (cwV 0 hts gL_law_X3_unmet rfl rfl rfl (by decide +kernel) ⟨Nat.le_of_ble_eq_true rfl, Nat.le_of_ble_eq_true rfl⟩) ⟨fun a U g mk q => by obtain ⟨q0, q1, qP, qK, qD⟩ := q; exact ⟨q0, q1, qP, va_K.moved (u := U) (U := U.calling g mk a) (Vm.Alike.refl U.vm) qK, qD⟩, va_recv hKc hPc (ci := 7) (q0 := 0) rfl rfl, fun U hU hW => ⟨rfl, by rw [hU], by rw [hU]; exact hPc, va_K.moved hW.alike hKc, hDc.weaken (fun _ _ _ _ => trivial)⟩⟩ rfl rfl hl.1 rfl (lv_room (Nat.le_of_ble_eq_true rfl)) dL_law_2207 ⟨Nat.le_of_ble_eq_true rfl, Nat.le_of_ble_eq_true rfl⟩) hS (fun q _ h => hFc q h) hFc (fun r9 u t H1 locs ht hvm hw hB hz1 hk1 hS => ?_)
  obtain rfl := hw
  obtain ⟨hP1, hK1, hD1⟩ := hB
  rw [ht] at hP1
  have hK1 := va_K.moved hvm.symm hK1
  obtain ⟨hP, hD⟩ := va_join (wr := [(m0, .inr (9, [.int 0, .ref m1, .ref m2, .ref m3, .int 0, .int 0, .int 0])), (m2, .inr (3, [.int 0, .ref gde, .int 0]))]) (w1 := [(x0, .inr (7, [.ref x1, .ref x2, .ref x45, .ref x53, .ref x55, .ref x57, .int 0, .int 0, .int 0])), (x2, .inr (5, [.ref x3, .ref x4, .ref x5, .ref x7, .ref x9, .ref x11, .int 0, .int 0])), (x45, .inr (4, [.ref x2, .ref x46, .ref x47, .ref x49, .ref x51, .int 0, .int 0, .int (-1)]))]) hP hD [0, 1, 2] [3, 4] rfl rfl (by decide) (by decide) hk1 hFc hP1 hD1
  generalize H1 = H at hP hS ⊢
  have hP : va_P (dC, dI) vwCl [(m0, .inr (9, [.int 0, .ref m1, .ref m2, .ref m3, .int 0, .int 0, .int 0])), (m2, .inr (3, [.int 0, .ref gde, .int 0])), (x0, .inr (7, [.ref x1, .ref x2, .ref x45, .ref x53, .ref x55, .ref x57, .int 0, .int 0, .int 0])), (x2, .inr (5, [.ref x3, .ref x4, .ref x5, .ref x7, .ref x9, .ref x11, .int 0, .int 0])), (x45, .inr (4, [.ref x2, .ref x46, .ref x47, .ref x49, .ref x51, .int 0, .int 0, .int (-1)]))] H := hP
  have hD : va_D A [(m0, .inr (9, [.int 0, .ref m1, .ref m2, .ref m3, .int 0, .int 0, .int 0])), (m2, .inr (3, [.int 0, .ref gde, .int 0])), (x0, .inr (7, [.ref x1, .ref x2, .ref x45, .ref x53, .ref x55, .ref x57, .int 0, .int 0, .int 0])), (x2, .inr (5, [.ref x3, .ref x4, .ref x5, .ref x7, .ref x9, .ref x11, .int 0, .int 0])), (x45, .inr (4, [.ref x2, .ref x46, .ref x47, .ref x49, .ref x51, .int 0, .int 0, .int (-1)]))] := hD
  refine lv_aload_n hx hb dL_law_2210 rfl (lv_at hl 2 rfl) ?_
  have hPc := hP.sub (ws' := [(m0, .inr (9, [.int 0, .ref m1, .ref m2, .ref m3, .int 0, .int 0, .int 0])), (m2, .inr (3, [.int 0, .ref gde, .int 0]))]) [0, 1] rfl
  have hDc := hD.sub (ws' := [(m0, .inr (9, [.int 0, .ref m1, .ref m2, .ref m3, .int 0, .int 0, .int 0])), (m2, .inr (3, [.int 0, .ref gde, .int 0]))]) [0, 1] (by decide) rfl
  have hKc := hK.sub (tys' := []) [] rfl
  have hFc := va_free (wc := [(m0, .inr (9, [.int 0, .ref m1, .ref m2, .ref m3, .int 0, .int 0, .int 0])), (m2, .inr (3, [.int 0, .ref gde, .int 0]))]) hD hS hA [0, 1] rfl
  refine va_calli (va_runV (As := []) (rest := [.int (-1)]) ⟨hx, hb, hml, hown, hts⟩ (kx_X5_unmet_0 l dC dI ge5 gea gv5 gva gde gic gi0 m0 m2 m1 m3 H.size) (cwV 0 hts gL_law_X5_unmet rfl rfl rfl (by decide +kernel) ⟨Nat.le_of_ble_eq_true rfl, Nat.le_of_ble_eq_true rfl⟩) ⟨fun a U g mk q => by obtain ⟨q0, q1, qP, qK, qD, qG⟩ := q; exact ⟨q0, q1, qP, va_K.moved (u := U) (U := U.calling g mk a) (Vm.Alike.refl U.vm) qK, qD, gv.fb qG⟩, va_recv hKc hPc (ci := 9) (q0 := 0) rfl rfl, fun U hU hW => ⟨rfl, by rw [hU], by rw [hU]; exact hPc, va_K.moved hW.alike hKc, hDc.weaken (fun _ _ _ _ => trivial), gv.pass hW hU hS hFc hG⟩⟩ rfl rfl hl.1 rfl (lv_room (Nat.le_of_ble_eq_true rfl)) dL_law_2211 ⟨Nat.le_of_ble_eq_true rfl, Nat.le_of_ble_eq_true rfl⟩) hS (fun q _ h => hFc q h) hFc (fun r9 u t H1 locs ht hvm hw hB hz1 hk1 hS => ?_)
  obtain rfl := hw
  obtain ⟨q1, hP1, hK1, hD1⟩ := hB
  rw [ht] at hP1
  have hK1 := va_K.moved hvm.symm hK1
  obtain ⟨hP, hD⟩ := va_join (wr := [(x0, .inr (7, [.ref x1, .ref x2, .ref x45, .ref x53, .ref x55, .ref x57, .int 0, .int 0, .int 0])), (x2, .inr (5, [.ref x3, .ref x4, .ref x5, .ref x7, .ref x9, .ref x11, .int 0, .int 0])), (x45, .inr (4, [.ref x2, .ref x46, .ref x47, .ref x49, .ref x51, .int 0, .int 0, .int (-1)]))]) (w1 := [(m0, .inr (9, [.int 0, .ref m1, .ref m2, .ref m3, .int 0, .int 0, .int 0]))]) hP hD [0, 1] [2, 3, 4] rfl rfl (by decide) (by decide) hk1 hFc hP1 hD1
  generalize H1 = H at hP hS ⊢
  have hP : va_P (dC, dI) vwCl [(x0, .inr (7, [.ref x1, .ref x2, .ref x45, .ref x53, .ref x55, .ref x57, .int 0, .int 0, .int 0])), (x2, .inr (5, [.ref x3, .ref x4, .ref x5, .ref x7, .ref x9, .ref x11, .int 0, .int 0])), (x45, .inr (4, [.ref x2, .ref x46, .ref x47, .ref x49, .ref x51, .int 0, .int 0, .int (-1)])), (m0, .inr (9, [.int 0, .ref m1, .ref m2, .ref m3, .int 0, .int 0, .int 0]))] H := hP
  have hD : va_D A [(x0, .inr (7, [.ref x1, .ref x2, .ref x45, .ref x53, .ref x55, .ref x57, .int 0, .int 0, .int 0])), (x2, .inr (5, [.ref x3, .ref x4, .ref x5, .ref x7, .ref x9, .ref x11, .int 0, .int 0])), (x45, .inr (4, [.ref x2, .ref x46, .ref x47, .ref x49, .ref x51, .int 0, .int 0, .int (-1)])), (m0, .inr (9, [.int 0, .ref m1, .ref m2, .ref m3, .int 0, .int 0, .int 0]))] := hD
  refine W.widen (k := 73) (n := 2751) (by omega) (by omega) ?_
  refine lv_icmp_eq (tgt := 2342) hx hb dL_law_2214 (by decide) (fun _ => ?_) (fun c9 => absurd (by decide) c9)
  refine lv_iinc (v := 7) (lv' := [(4, .int 7), (3, .ref o0), (2, .ref m0), (1, .ref x0), (0, .ref b)]) hx hb dL_law_2342 hl (k := 0) rfl (by decide) (by decide) rfl (fun ls hl => ?_)
  refine lv_goto (tgt := 27) hx hb dL_law_2345 (by decide) ?_
  refine lv_iload hx hb dL_law_27 (lv_at hl 0 rfl) ?_
  refine lv_aload_n hx hb dL_law_29 rfl (lv_at hl 4 rfl) ?_
  refine va_slen hx hb hX hbl hbA hS dL_law_30 ?_
  refine lv_topi (fun y2 ey2 => ?_)
  obtain rfl : y2 = 7 := ey2.trans (by decide)
  refine lv_bipush (v := 7) hx hb dL_law_31 (by decide) ?_
  refine lv_isub hx hb dL_law_33 ?_
  refine lv_topi (fun y3 ey3 => ?_)
  obtain rfl : y3 = 0 := ey3.trans (by decide)
  refine lv_icmp_gt (tgt := 2348) hx hb dL_law_34 (by decide) (fun _ => ?_) (fun c9 => absurd (by decide) c9)
  refine lv_iconst (v := 1) hx hb dL_law_2348 (by decide) ?_
  refine va_forget (fun q hq => (by have h := hS.2.2 q hq; rw [hAe] at h; exact h)) ?_
  refine W.widen (k := 600002) (n := 7302232) (Nat.le_of_ble_eq_true rfl) (Nat.le_of_ble_eq_true rfl) ?_
  exact lw_ret hx hb hr hlocks dL_law_2349
set_option maxHeartbeats 4000000 in
set_option maxRecDepth 100000 in
theorem lc_complete_0 {p : Program} {e : Env} {s : State} {m : MethodId} {below : List Frame} {meth : Method} {c : Code} {l : Launch} (hst : l.stackTraces = false) {b : Nat} {xs : Nat → Int32} (C9 : lx_At p s m meth c b xs) {dC : Nat → ClassId} {dI : Nat → Nat → Nat} {ge5 gea gv5 gva gde gic gi0 : Nat} {x0 x2 x45 m0 m2 x1 x53 x55 x57 x3 x4 x5 x7 x9 x11 x46 x47 x49 x51 m1 m3 o0 : Nat} (hG : gv ge5 gea gv5 gva gde gic gi0 (fun q => s.heap.size ≤ q) s s.heap) {H : Heap} {locs : List Loc} (hK : va_K (dC, dI) vwCl [] s) (hP : va_P (dC, dI) vwCl [(x0, .inr (7, [.ref x1, .ref x2, .ref x45, .ref x53, .ref x55, .ref x57, .int 0, .int 0, .int 0])), (x2, .inr (5, [.ref x3, .ref x4, .ref x5, .ref x7, .ref x9, .ref x11, .int 0, .int 0])), (x45, .inr (4, [.ref x2, .ref x46, .ref x47, .ref x49, .ref x51, .int 0, .int 0, .int (-2)])), (m0, .inr (9, [.int 0, .ref m1, .ref m2, .ref m3, .int 0, .int 0, .int 0])), (m2, .inr (3, [.int 0, .ref gde, .int 0]))] H) (hD : va_D (fun q => s.heap.size ≤ q) [(x0, .inr (7, [.ref x1, .ref x2, .ref x45, .ref x53, .ref x55, .ref x57, .int 0, .int 0, .int 0])), (x2, .inr (5, [.ref x3, .ref x4, .ref x5, .ref x7, .ref x9, .ref x11, .int 0, .int 0])), (x45, .inr (4, [.ref x2, .ref x46, .ref x47, .ref x49, .ref x51, .int 0, .int 0, .int (-2)])), (m0, .inr (9, [.int 0, .ref m1, .ref m2, .ref m3, .int 0, .int 0, .int 0])), (m2, .inr (3, [.int 0, .ref gde, .int 0]))]) (hS : va_S (fun q => s.heap.size ≤ q) s.heap H locs) {ls : Array Slot} (hl : lv_has ls 7 [(4, .int 0), (3, .ref o0), (2, .ref m0), (1, .ref x0), (0, .ref b)]) : W p l e room_1 s m #[Value.ref b] below meth c H locs 72 2748 (lw_Z below #[Value.ref b] s) (F0 m 2219 ls []) := by
  obtain ⟨hx, hb, hr, hml, hown, hts, hX, hbl, hlocks⟩ := id C9
  have hA : ∀ q : Nat, s.heap.size ≤ q → (fun q : Nat => s.heap.size ≤ q) q := fun _ h => h
  have hbA : ¬ (fun q : Nat => s.heap.size ≤ q) b := Nat.not_le.mpr hbl
  obtain ⟨A, hAe⟩ : ∃ A : Nat → Prop, A = (fun q : Nat => s.heap.size ≤ q) := ⟨_, rfl⟩
  rw [← hAe] at hG hD hS hA hbA
  obtain ⟨⟨g_AO_Text, g_AO_String, g_AO_Object, g_nm_RX1_20, g_nm_RX0_17, g_nm_RX3_31, g_nm_RX2_44, g_nm_RL_121, g_nf_RL_13, g_nf_RL_47, g_ca_IO, g_ca_IA, g_ca_IS, g_ca_IntObj, g_ca_StrObj, g_de_RT, g_de_EX, g_de_TH, g_nc_IA_IO, g_nc_IS_IO, g_nc_IS_IA⟩, ⟨g_s3, g_s5, g_sa, g_x278, g_x280, g_x282, g_x284, g_x286, g_x180, g_x238, g_x250⟩, ⟨g_o5, g_c5, g_v5, g_t5, g_oa, g_ca, g_va, g_ta, g_zc, g_zd, g_td, g_zf, g_zU, g_zN, g_zh, g_zk, g_tk, g_oi, g_vi⟩⟩ := id hG
  refine lv_aload_n hx hb dL_law_2219 rfl (lv_at hl 3 rfl) ?_
  have hPc := hP.sub (ws' := [(x0, .inr (7, [.ref x1, .ref x2, .ref x45, .ref x53, .ref x55, .ref x57, .int 0, .int 0, .int 0])), (x2, .inr (5, [.ref x3, .ref x4, .ref x5, .ref x7, .ref x9, .ref x11, .int 0, .int 0])), (x45, .inr (4, [.ref x2, .ref x46, .ref x47, .ref x49, .ref x51, .int 0, .int 0, .int (-2)]))]) [0, 1, 2] rfl
  have hDc := hD.sub (ws' := [(x0, .inr (7, [.ref x1, .ref x2, .ref x45, .ref x53, .ref x55, .ref x57, .int 0, .int 0, .int 0])), (x2, .inr (5, [.ref x3, .ref x4, .ref x5, .ref x7, .ref x9, .ref x11, .int 0, .int 0])), (x45, .inr (4, [.ref x2, .ref x46, .ref x47, .ref x49, .ref x51, .int 0, .int 0, .int (-2)]))]) [0, 1, 2] (by decide) rfl
  have hKc := hK.sub (tys' := []) [] rfl
  have hFc := va_free (wc := [(x0, .inr (7, [.ref x1, .ref x2, .ref x45, .ref x53, .ref x55, .ref x57, .int 0, .int 0, .int 0])), (x2, .inr (5, [.ref x3, .ref x4, .ref x5, .ref x7, .ref x9, .ref x11, .int 0, .int 0])), (x45, .inr (4, [.ref x2, .ref x46, .ref x47, .ref x49, .ref x51, .int 0, .int 0, .int (-2)]))]) hD hS hA [0, 1, 2] rfl
  refine va_calli (va_runV (As := []) (rest := []) ⟨hx, hb, hml, hown, hts⟩ (kx_X3_complete_0 l dC dI x0 x2 x45 x1 x53 x55 x57 x3 x4 x5 x7 x9 x11 x46 x47 x49 x51 H.size) (cwV 0 hts gL_law_X3_complete rfl rfl rfl (by decide +kernel) ⟨Nat.le_of_ble_eq_true rfl, Nat.le_of_ble_eq_true rfl⟩) ⟨fun a U g mk q => by obtain ⟨q0, q1, qP, qK, qD⟩ := q; exact ⟨q0, q1, qP, va_K.moved (u := U) (U := U.calling g mk a) (Vm.Alike.refl U.vm) qK, qD⟩, va_recv hKc hPc (ci := 7) (q0 := 0) rfl rfl, fun U hU hW => ⟨rfl, by rw [hU], by rw [hU]; exact hPc, va_K.moved hW.alike hKc, hDc.weaken (fun _ _ _ _ => trivial)⟩⟩ rfl rfl hl.1 rfl (lv_room (Nat.le_of_ble_eq_true rfl)) dL_law_2220 ⟨Nat.le_of_ble_eq_true rfl, Nat.le_of_ble_eq_true rfl⟩) hS (fun q _ h => hFc q h) hFc (fun r9 u t H1 locs ht hvm hw hB hz1 hk1 hS => ?_)
  obtain rfl := hw
  obtain ⟨hP1, hK1, hD1⟩ := hB
  rw [ht] at hP1
  have hK1 := va_K.moved hvm.symm hK1
  obtain ⟨hP, hD⟩ := va_join (wr := [(m0, .inr (9, [.int 0, .ref m1, .ref m2, .ref m3, .int 0, .int 0, .int 0])), (m2, .inr (3, [.int 0, .ref gde, .int 0]))]) (w1 := [(x0, .inr (7, [.ref x1, .ref x2, .ref x45, .ref x53, .ref x55, .ref x57, .int 0, .int 0, .int 0])), (x2, .inr (5, [.ref x3, .ref x4, .ref x5, .ref x7, .ref x9, .ref x11, .int 0, .int 0])), (x45, .inr (4, [.ref x2, .ref x46, .ref x47, .ref x49, .ref x51, .int 0, .int 0, .int (-1)]))]) hP hD [0, 1, 2] [3, 4] rfl rfl (by decide) (by decide) hk1 hFc hP1 hD1
  generalize H1 = H at hP hS ⊢
  have hP : va_P (dC, dI) vwCl [(m0, .inr (9, [.int 0, .ref m1, .ref m2, .ref m3, .int 0, .int 0, .int 0])), (m2, .inr (3, [.int 0, .ref gde, .int 0])), (x0, .inr (7, [.ref x1, .ref x2, .ref x45, .ref x53, .ref x55, .ref x57, .int 0, .int 0, .int 0])), (x2, .inr (5, [.ref x3, .ref x4, .ref x5, .ref x7, .ref x9, .ref x11, .int 0, .int 0])), (x45, .inr (4, [.ref x2, .ref x46, .ref x47, .ref x49, .ref x51, .int 0, .int 0, .int (-1)]))] H := hP
  have hD : va_D A [(m0, .inr (9, [.int 0, .ref m1, .ref m2, .ref m3, .int 0, .int 0, .int 0])), (m2, .inr (3, [.int 0, .ref gde, .int 0])), (x0, .inr (7, [.ref x1, .ref x2, .ref x45, .ref x53, .ref x55, .ref x57, .int 0, .int 0, .int 0])), (x2, .inr (5, [.ref x3, .ref x4, .ref x5, .ref x7, .ref x9, .ref x11, .int 0, .int 0])), (x45, .inr (4, [.ref x2, .ref x46, .ref x47, .ref x49, .ref x51, .int 0, .int 0, .int (-1)]))] := hD
  refine lv_aload_n hx hb dL_law_2223 rfl (lv_at hl 2 rfl) ?_
  have hPc := hP.sub (ws' := [(m0, .inr (9, [.int 0, .ref m1, .ref m2, .ref m3, .int 0, .int 0, .int 0])), (m2, .inr (3, [.int 0, .ref gde, .int 0]))]) [0, 1] rfl
  have hDc := hD.sub (ws' := [(m0, .inr (9, [.int 0, .ref m1, .ref m2, .ref m3, .int 0, .int 0, .int 0])), (m2, .inr (3, [.int 0, .ref gde, .int 0]))]) [0, 1] (by decide) rfl
  have hKc := hK.sub (tys' := []) [] rfl
  have hFc := va_free (wc := [(m0, .inr (9, [.int 0, .ref m1, .ref m2, .ref m3, .int 0, .int 0, .int 0])), (m2, .inr (3, [.int 0, .ref gde, .int 0]))]) hD hS hA [0, 1] rfl
  refine va_calli (va_runV (As := []) (rest := [.int (-1)]) ⟨hx, hb, hml, hown, hts⟩ (kx_X5_complete_0 l dC dI ge5 gea gv5 gva gde gic gi0 m0 m2 m1 m3 H.size) (cwV 0 hts gL_law_X5_complete rfl rfl rfl (by decide +kernel) ⟨Nat.le_of_ble_eq_true rfl, Nat.le_of_ble_eq_true rfl⟩) ⟨fun a U g mk q => by obtain ⟨q0, q1, qP, qK, qD, qG⟩ := q; exact ⟨q0, q1, qP, va_K.moved (u := U) (U := U.calling g mk a) (Vm.Alike.refl U.vm) qK, qD, gv.fb qG⟩, va_recv hKc hPc (ci := 9) (q0 := 0) rfl rfl, fun U hU hW => ⟨rfl, by rw [hU], by rw [hU]; exact hPc, va_K.moved hW.alike hKc, hDc.weaken (fun _ _ _ _ => trivial), gv.pass hW hU hS hFc hG⟩⟩ rfl rfl hl.1 rfl (lv_room (Nat.le_of_ble_eq_true rfl)) dL_law_2224 ⟨Nat.le_of_ble_eq_true rfl, Nat.le_of_ble_eq_true rfl⟩) hS (fun q _ h => hFc q h) hFc (fun r9 u t H1 locs ht hvm hw hB hz1 hk1 hS => ?_)
  obtain rfl := hw
  obtain ⟨q1, hP1, hK1, hD1⟩ := hB
  rw [ht] at hP1
  have hK1 := va_K.moved hvm.symm hK1
  obtain ⟨hP, hD⟩ := va_join (wr := [(x0, .inr (7, [.ref x1, .ref x2, .ref x45, .ref x53, .ref x55, .ref x57, .int 0, .int 0, .int 0])), (x2, .inr (5, [.ref x3, .ref x4, .ref x5, .ref x7, .ref x9, .ref x11, .int 0, .int 0])), (x45, .inr (4, [.ref x2, .ref x46, .ref x47, .ref x49, .ref x51, .int 0, .int 0, .int (-1)]))]) (w1 := [(m0, .inr (9, [.int 0, .ref m1, .ref m2, .ref m3, .int 0, .int 0, .int 0]))]) hP hD [0, 1] [2, 3, 4] rfl rfl (by decide) (by decide) hk1 hFc hP1 hD1
  generalize H1 = H at hP hS ⊢
  have hP : va_P (dC, dI) vwCl [(x0, .inr (7, [.ref x1, .ref x2, .ref x45, .ref x53, .ref x55, .ref x57, .int 0, .int 0, .int 0])), (x2, .inr (5, [.ref x3, .ref x4, .ref x5, .ref x7, .ref x9, .ref x11, .int 0, .int 0])), (x45, .inr (4, [.ref x2, .ref x46, .ref x47, .ref x49, .ref x51, .int 0, .int 0, .int (-1)])), (m0, .inr (9, [.int 0, .ref m1, .ref m2, .ref m3, .int 0, .int 0, .int 0]))] H := hP
  have hD : va_D A [(x0, .inr (7, [.ref x1, .ref x2, .ref x45, .ref x53, .ref x55, .ref x57, .int 0, .int 0, .int 0])), (x2, .inr (5, [.ref x3, .ref x4, .ref x5, .ref x7, .ref x9, .ref x11, .int 0, .int 0])), (x45, .inr (4, [.ref x2, .ref x46, .ref x47, .ref x49, .ref x51, .int 0, .int 0, .int (-1)])), (m0, .inr (9, [.int 0, .ref m1, .ref m2, .ref m3, .int 0, .int 0, .int 0]))] := hD
  refine W.widen (k := 73) (n := 2751) (by omega) (by omega) ?_
  refine lv_icmp_eq (tgt := 2342) hx hb dL_law_2227 (by decide) (fun _ => ?_) (fun c9 => absurd (by decide) c9)
  refine lv_iinc (v := 7) (lv' := [(4, .int 7), (3, .ref o0), (2, .ref m0), (1, .ref x0), (0, .ref b)]) hx hb dL_law_2342 hl (k := 0) rfl (by decide) (by decide) rfl (fun ls hl => ?_)
  refine lv_goto (tgt := 27) hx hb dL_law_2345 (by decide) ?_
  refine lv_iload hx hb dL_law_27 (lv_at hl 0 rfl) ?_
  refine lv_aload_n hx hb dL_law_29 rfl (lv_at hl 4 rfl) ?_
  refine va_slen hx hb hX hbl hbA hS dL_law_30 ?_
  refine lv_topi (fun y2 ey2 => ?_)
  obtain rfl : y2 = 7 := ey2.trans (by decide)
  refine lv_bipush (v := 7) hx hb dL_law_31 (by decide) ?_
  refine lv_isub hx hb dL_law_33 ?_
  refine lv_topi (fun y3 ey3 => ?_)
  obtain rfl : y3 = 0 := ey3.trans (by decide)
  refine lv_icmp_gt (tgt := 2348) hx hb dL_law_34 (by decide) (fun _ => ?_) (fun c9 => absurd (by decide) c9)
  refine lv_iconst (v := 1) hx hb dL_law_2348 (by decide) ?_
  refine va_forget (fun q hq => (by have h := hS.2.2 q hq; rw [hAe] at h; exact h)) ?_
  refine W.widen (k := 600002) (n := 7302232) (Nat.le_of_ble_eq_true rfl) (Nat.le_of_ble_eq_true rfl) ?_
  exact lw_ret hx hb hr hlocks dL_law_2349
set_option maxHeartbeats 4000000 in
set_option maxRecDepth 100000 in
theorem lc_tidy_0 {p : Program} {e : Env} {s : State} {m : MethodId} {below : List Frame} {meth : Method} {c : Code} {l : Launch} (hst : l.stackTraces = false) {b : Nat} {xs : Nat → Int32} (C9 : lx_At p s m meth c b xs) {dC : Nat → ClassId} {dI : Nat → Nat → Nat} {ge5 gea gv5 gva gde gic gi0 : Nat} {x0 x2 m0 m2 x1 x45 x53 x55 x57 x3 x4 x5 x7 x9 x11 m1 m3 o0 : Nat} (hG : gv ge5 gea gv5 gva gde gic gi0 (fun q => s.heap.size ≤ q) s s.heap) {H : Heap} {locs : List Loc} (hK : va_K (dC, dI) vwCl [] s) (hP : va_P (dC, dI) vwCl [(x0, .inr (7, [.ref x1, .ref x2, .ref x45, .ref x53, .ref x55, .ref x57, .int 0, .int 0, .int 0])), (x2, .inr (5, [.ref x3, .ref x4, .ref x5, .ref x7, .ref x9, .ref x11, .int 0, .int 0])), (m0, .inr (9, [.int 0, .ref m1, .ref m2, .ref m3, .int 0, .int 0, .int 0])), (m2, .inr (3, [.int 0, .ref gde, .int 0]))] H) (hD : va_D (fun q => s.heap.size ≤ q) [(x0, .inr (7, [.ref x1, .ref x2, .ref x45, .ref x53, .ref x55, .ref x57, .int 0, .int 0, .int 0])), (x2, .inr (5, [.ref x3, .ref x4, .ref x5, .ref x7, .ref x9, .ref x11, .int 0, .int 0])), (m0, .inr (9, [.int 0, .ref m1, .ref m2, .ref m3, .int 0, .int 0, .int 0])), (m2, .inr (3, [.int 0, .ref gde, .int 0]))]) (hS : va_S (fun q => s.heap.size ≤ q) s.heap H locs) {ls : Array Slot} (hl : lv_has ls 7 [(4, .int 0), (3, .ref o0), (2, .ref m0), (1, .ref x0), (0, .ref b)]) : W p l e room_1 s m #[Value.ref b] below meth c H locs 72 2748 (lw_Z below #[Value.ref b] s) (F0 m 2232 ls []) := by
  obtain ⟨hx, hb, hr, hml, hown, hts, hX, hbl, hlocks⟩ := id C9
  have hA : ∀ q : Nat, s.heap.size ≤ q → (fun q : Nat => s.heap.size ≤ q) q := fun _ h => h
  have hbA : ¬ (fun q : Nat => s.heap.size ≤ q) b := Nat.not_le.mpr hbl
  obtain ⟨A, hAe⟩ : ∃ A : Nat → Prop, A = (fun q : Nat => s.heap.size ≤ q) := ⟨_, rfl⟩
  rw [← hAe] at hG hD hS hA hbA
  obtain ⟨⟨g_AO_Text, g_AO_String, g_AO_Object, g_nm_RX1_20, g_nm_RX0_17, g_nm_RX3_31, g_nm_RX2_44, g_nm_RL_121, g_nf_RL_13, g_nf_RL_47, g_ca_IO, g_ca_IA, g_ca_IS, g_ca_IntObj, g_ca_StrObj, g_de_RT, g_de_EX, g_de_TH, g_nc_IA_IO, g_nc_IS_IO, g_nc_IS_IA⟩, ⟨g_s3, g_s5, g_sa, g_x278, g_x280, g_x282, g_x284, g_x286, g_x180, g_x238, g_x250⟩, ⟨g_o5, g_c5, g_v5, g_t5, g_oa, g_ca, g_va, g_ta, g_zc, g_zd, g_td, g_zf, g_zU, g_zN, g_zh, g_zk, g_tk, g_oi, g_vi⟩⟩ := id hG
  refine lv_aload_n hx hb dL_law_2232 rfl (lv_at hl 3 rfl) ?_
  have hPc := hP.sub (ws' := [(x0, .inr (7, [.ref x1, .ref x2, .ref x45, .ref x53, .ref x55, .ref x57, .int 0, .int 0, .int 0])), (x2, .inr (5, [.ref x3, .ref x4, .ref x5, .ref x7, .ref x9, .ref x11, .int 0, .int 0]))]) [0, 1] rfl
  have hDc := hD.sub (ws' := [(x0, .inr (7, [.ref x1, .ref x2, .ref x45, .ref x53, .ref x55, .ref x57, .int 0, .int 0, .int 0])), (x2, .inr (5, [.ref x3, .ref x4, .ref x5, .ref x7, .ref x9, .ref x11, .int 0, .int 0]))]) [0, 1] (by decide) rfl
  have hKc := hK.sub (tys' := []) [] rfl
  have hFc := va_free (wc := [(x0, .inr (7, [.ref x1, .ref x2, .ref x45, .ref x53, .ref x55, .ref x57, .int 0, .int 0, .int 0])), (x2, .inr (5, [.ref x3, .ref x4, .ref x5, .ref x7, .ref x9, .ref x11, .int 0, .int 0]))]) hD hS hA [0, 1] rfl
  refine va_calli (va_runV (As := []) (rest := []) ⟨hx, hb, hml, hown, hts⟩ (kx_X3_tidy_0 l dC dI x0 x2 x1 x45 x53 x55 x57 x3 x4 x5 x7 x9 x11 H.size) (cwV 0 hts gL_law_X3_tidy rfl rfl rfl (by decide +kernel) ⟨Nat.le_of_ble_eq_true rfl, Nat.le_of_ble_eq_true rfl⟩) ⟨fun a U g mk q => by obtain ⟨q0, q1, qP, qK, qD⟩ := q; exact ⟨q0, q1, qP, va_K.moved (u := U) (U := U.calling g mk a) (Vm.Alike.refl U.vm) qK, qD⟩, va_recv hKc hPc (ci := 7) (q0 := 0) rfl rfl, fun U hU hW => ⟨rfl, by rw [hU], by rw [hU]; exact hPc, va_K.moved hW.alike hKc, hDc.weaken (fun _ _ _ _ => trivial)⟩⟩ rfl rfl hl.1 rfl (lv_room (Nat.le_of_ble_eq_true rfl)) dL_law_2233 ⟨Nat.le_of_ble_eq_true rfl, Nat.le_of_ble_eq_true rfl⟩) hS (fun q _ h => hFc q h) hFc (fun r9 u t H1 locs ht hvm hw hB hz1 hk1 hS => ?_)
  obtain rfl := hw
  obtain ⟨hP1, hK1, hD1⟩ := hB
  rw [ht] at hP1
  have hK1 := va_K.moved hvm.symm hK1
  obtain ⟨hP, hD⟩ := va_join (wr := [(m0, .inr (9, [.int 0, .ref m1, .ref m2, .ref m3, .int 0, .int 0, .int 0])), (m2, .inr (3, [.int 0, .ref gde, .int 0]))]) (w1 := [(x0, .inr (7, [.ref x1, .ref x2, .ref x45, .ref x53, .ref x55, .ref x57, .int 0, .int 0, .int 0])), (x2, .inr (5, [.ref x3, .ref x4, .ref x5, .ref x7, .ref x9, .ref x11, .int 0, .int 0]))]) hP hD [0, 1] [2, 3] rfl rfl (by decide) (by decide) hk1 hFc hP1 hD1
  generalize H1 = H at hP hS ⊢
  have hP : va_P (dC, dI) vwCl [(m0, .inr (9, [.int 0, .ref m1, .ref m2, .ref m3, .int 0, .int 0, .int 0])), (m2, .inr (3, [.int 0, .ref gde, .int 0])), (x0, .inr (7, [.ref x1, .ref x2, .ref x45, .ref x53, .ref x55, .ref x57, .int 0, .int 0, .int 0])), (x2, .inr (5, [.ref x3, .ref x4, .ref x5, .ref x7, .ref x9, .ref x11, .int 0, .int 0]))] H := hP
  have hD : va_D A [(m0, .inr (9, [.int 0, .ref m1, .ref m2, .ref m3, .int 0, .int 0, .int 0])), (m2, .inr (3, [.int 0, .ref gde, .int 0])), (x0, .inr (7, [.ref x1, .ref x2, .ref x45, .ref x53, .ref x55, .ref x57, .int 0, .int 0, .int 0])), (x2, .inr (5, [.ref x3, .ref x4, .ref x5, .ref x7, .ref x9, .ref x11, .int 0, .int 0]))] := hD
  refine lv_aload_n hx hb dL_law_2236 rfl (lv_at hl 2 rfl) ?_
  have hPc := hP.sub (ws' := [(m0, .inr (9, [.int 0, .ref m1, .ref m2, .ref m3, .int 0, .int 0, .int 0])), (m2, .inr (3, [.int 0, .ref gde, .int 0]))]) [0, 1] rfl
  have hDc := hD.sub (ws' := [(m0, .inr (9, [.int 0, .ref m1, .ref m2, .ref m3, .int 0, .int 0, .int 0])), (m2, .inr (3, [.int 0, .ref gde, .int 0]))]) [0, 1] (by decide) rfl
  have hKc := hK.sub (tys' := []) [] rfl
  have hFc := va_free (wc := [(m0, .inr (9, [.int 0, .ref m1, .ref m2, .ref m3, .int 0, .int 0, .int 0])), (m2, .inr (3, [.int 0, .ref gde, .int 0]))]) hD hS hA [0, 1] rfl
  refine va_calli (va_runV (As := []) (rest := [.int 0]) ⟨hx, hb, hml, hown, hts⟩ (kx_X5_tidy_0 l dC dI ge5 gea gv5 gva gde gic gi0 m0 m2 m1 m3 H.size) (cwV 0 hts gL_law_X5_tidy rfl rfl rfl (by decide +kernel) ⟨Nat.le_of_ble_eq_true rfl, Nat.le_of_ble_eq_true rfl⟩) ⟨fun a U g mk q => by obtain ⟨q0, q1, qP, qK, qD, qG⟩ := q; exact ⟨q0, q1, qP, va_K.moved (u := U) (U := U.calling g mk a) (Vm.Alike.refl U.vm) qK, qD, gv.fb qG⟩, va_recv hKc hPc (ci := 9) (q0 := 0) rfl rfl, fun U hU hW => ⟨rfl, by rw [hU], by rw [hU]; exact hPc, va_K.moved hW.alike hKc, hDc.weaken (fun _ _ _ _ => trivial), gv.pass hW hU hS hFc hG⟩⟩ rfl rfl hl.1 rfl (lv_room (Nat.le_of_ble_eq_true rfl)) dL_law_2237 ⟨Nat.le_of_ble_eq_true rfl, Nat.le_of_ble_eq_true rfl⟩) hS (fun q _ h => hFc q h) hFc (fun r9 u t H1 locs ht hvm hw hB hz1 hk1 hS => ?_)
  obtain rfl := hw
  obtain ⟨hP1, hK1, hD1⟩ := hB
  rw [ht] at hP1
  have hK1 := va_K.moved hvm.symm hK1
  obtain ⟨hP, hD⟩ := va_join (wr := [(x0, .inr (7, [.ref x1, .ref x2, .ref x45, .ref x53, .ref x55, .ref x57, .int 0, .int 0, .int 0])), (x2, .inr (5, [.ref x3, .ref x4, .ref x5, .ref x7, .ref x9, .ref x11, .int 0, .int 0]))]) (w1 := [(m0, .inr (9, [.int 0, .ref m1, .ref m2, .ref m3, .int 0, .int 0, .int 0]))]) hP hD [0, 1] [2, 3] rfl rfl (by decide) (by decide) hk1 hFc hP1 hD1
  generalize H1 = H at hP hS ⊢
  have hP : va_P (dC, dI) vwCl [(x0, .inr (7, [.ref x1, .ref x2, .ref x45, .ref x53, .ref x55, .ref x57, .int 0, .int 0, .int 0])), (x2, .inr (5, [.ref x3, .ref x4, .ref x5, .ref x7, .ref x9, .ref x11, .int 0, .int 0])), (m0, .inr (9, [.int 0, .ref m1, .ref m2, .ref m3, .int 0, .int 0, .int 0]))] H := hP
  have hD : va_D A [(x0, .inr (7, [.ref x1, .ref x2, .ref x45, .ref x53, .ref x55, .ref x57, .int 0, .int 0, .int 0])), (x2, .inr (5, [.ref x3, .ref x4, .ref x5, .ref x7, .ref x9, .ref x11, .int 0, .int 0])), (m0, .inr (9, [.int 0, .ref m1, .ref m2, .ref m3, .int 0, .int 0, .int 0]))] := hD
  refine lv_icmp_eq (tgt := 2342) hx hb dL_law_2240 (by decide) (fun _ => ?_) (fun c9 => absurd (by decide) c9)
  refine lv_iinc (v := 7) (lv' := [(4, .int 7), (3, .ref o0), (2, .ref m0), (1, .ref x0), (0, .ref b)]) hx hb dL_law_2342 hl (k := 0) rfl (by decide) (by decide) rfl (fun ls hl => ?_)
  refine lv_goto (tgt := 27) hx hb dL_law_2345 (by decide) ?_
  refine lv_iload hx hb dL_law_27 (lv_at hl 0 rfl) ?_
  refine lv_aload_n hx hb dL_law_29 rfl (lv_at hl 4 rfl) ?_
  refine va_slen hx hb hX hbl hbA hS dL_law_30 ?_
  refine lv_topi (fun y1 ey1 => ?_)
  obtain rfl : y1 = 7 := ey1.trans (by decide)
  refine lv_bipush (v := 7) hx hb dL_law_31 (by decide) ?_
  refine lv_isub hx hb dL_law_33 ?_
  refine lv_topi (fun y2 ey2 => ?_)
  obtain rfl : y2 = 0 := ey2.trans (by decide)
  refine lv_icmp_gt (tgt := 2348) hx hb dL_law_34 (by decide) (fun _ => ?_) (fun c9 => absurd (by decide) c9)
  refine lv_iconst (v := 1) hx hb dL_law_2348 (by decide) ?_
  refine va_forget (fun q hq => (by have h := hS.2.2 q hq; rw [hAe] at h; exact h)) ?_
  refine W.widen (k := 600002) (n := 7302232) (Nat.le_of_ble_eq_true rfl) (Nat.le_of_ble_eq_true rfl) ?_
  exact lw_ret hx hb hr hlocks dL_law_2349
set_option maxHeartbeats 4000000 in
set_option maxRecDepth 100000 in
theorem lc_house_0 {p : Program} {e : Env} {s : State} {m : MethodId} {below : List Frame} {meth : Method} {c : Code} {l : Launch} (hst : l.stackTraces = false) {b : Nat} {xs : Nat → Int32} (C9 : lx_At p s m meth c b xs) {dC : Nat → ClassId} {dI : Nat → Nat → Nat} {ge5 gea gv5 gva gde gic gi0 : Nat} {x0 x1 x59 x61 x63 x65 m0 m1 o0 x2 x45 x53 x55 x57 x60 x62 x64 x66 m2 m3 : Nat} {xc0 mc0 : ClassId} (hG : gv ge5 gea gv5 gva gde gic gi0 (fun q => s.heap.size ≤ q) s s.heap) {v1 : Int32} (v1_l : (0 : Int) ≤ v1.toInt) (v1_u : v1.toInt ≤ (3 : Int)) (hx1 : xs 1 = v1) {H : Heap} {locs : List Loc} (hK : va_K (dC, dI) vwCl [(xc0, .object "Rewriterope$Text"), (mc0, .object "java/lang/String")] s) (hP : va_P (dC, dI) vwCl [(x0, .inr (7, [.ref x1, .ref x2, .ref x45, .ref x53, .ref x55, .ref x57, .int 0, .int 0, .int 0])), (x1, .inl (xc0, 4, .inr (.inr (.inr (.inr (va_up (va_up (va_up (va_up (fun _ => none) 0 (some x59)) 1 (some x61)) 2 (some x63)) 3 (some x65))))))), (x59, .inr (6, [.ref x60, .int 0])), (x61, .inr (6, [.ref x62, .int 0])), (x63, .inr (6, [.ref x64, .int 0])), (x65, .inr (6, [.ref x66, .int 0])), (m0, .inr (9, [.int 0, .ref m1, .ref m2, .ref m3, .int 0, .int 0, .int 0])), (m1, .inl (mc0, 4, .inr (.inr (.inr (.inr (va_up (va_up (va_up (va_up (fun _ => none) 0 (some ge5)) 1 (some ge5)) 2 (some ge5)) 3 (some ge5))))))), (o0, .inr (8, [.long 0, .null]))] H) (hD : va_D (fun q => s.heap.size ≤ q) [(x0, .inr (7, [.ref x1, .ref x2, .ref x45, .ref x53, .ref x55, .ref x57, .int 0, .int 0, .int 0])), (x1, .inl (xc0, 4, .inr (.inr (.inr (.inr (va_up (va_up (va_up (va_up (fun _ => none) 0 (some x59)) 1 (some x61)) 2 (some x63)) 3 (some x65))))))), (x59, .inr (6, [.ref x60, .int 0])), (x61, .inr (6, [.ref x62, .int 0])), (x63, .inr (6, [.ref x64, .int 0])), (x65, .inr (6, [.ref x66, .int 0])), (m0, .inr (9, [.int 0, .ref m1, .ref m2, .ref m3, .int 0, .int 0, .int 0])), (m1, .inl (mc0, 4, .inr (.inr (.inr (.inr (va_up (va_up (va_up (va_up (fun _ => none) 0 (some ge5)) 1 (some ge5)) 2 (some ge5)) 3 (some ge5))))))), (o0, .inr (8, [.long 0, .null]))]) (hS : va_S (fun q => s.heap.size ≤ q) s.heap H locs) {ls : Array Slot} (hl : lv_has ls 7 [(4, .int 0), (3, .ref o0), (2, .ref m0), (1, .ref x0), (0, .ref b)]) : W p l e room_1 s m #[Value.ref b] below meth c H locs 72 2748 (lw_Z below #[Value.ref b] s) (F0 m 2245 ls []) := by
  obtain ⟨hx, hb, hr, hml, hown, hts, hX, hbl, hlocks⟩ := id C9
  have hA : ∀ q : Nat, s.heap.size ≤ q → (fun q : Nat => s.heap.size ≤ q) q := fun _ h => h
  have hbA : ¬ (fun q : Nat => s.heap.size ≤ q) b := Nat.not_le.mpr hbl
  obtain ⟨A, hAe⟩ : ∃ A : Nat → Prop, A = (fun q : Nat => s.heap.size ≤ q) := ⟨_, rfl⟩
  rw [← hAe] at hG hD hS hA hbA
  obtain ⟨⟨g_AO_Text, g_AO_String, g_AO_Object, g_nm_RX1_20, g_nm_RX0_17, g_nm_RX3_31, g_nm_RX2_44, g_nm_RL_121, g_nf_RL_13, g_nf_RL_47, g_ca_IO, g_ca_IA, g_ca_IS, g_ca_IntObj, g_ca_StrObj, g_de_RT, g_de_EX, g_de_TH, g_nc_IA_IO, g_nc_IS_IO, g_nc_IS_IA⟩, ⟨g_s3, g_s5, g_sa, g_x278, g_x280, g_x282, g_x284, g_x286, g_x180, g_x238, g_x250⟩, ⟨g_o5, g_c5, g_v5, g_t5, g_oa, g_ca, g_va, g_ta, g_zc, g_zd, g_td, g_zf, g_zU, g_zN, g_zh, g_zk, g_tk, g_oi, g_vi⟩⟩ := id hG
  refine lv_aload_n hx hb dL_law_2245 rfl (lv_at hl 3 rfl) ?_
  refine lv_aload_n hx hb dL_law_2246 rfl (lv_at hl 4 rfl) ?_
  refine lv_iload hx hb dL_law_2247 (lv_at hl 0 rfl) ?_
  refine lv_iconst (v := 1) hx hb dL_law_2249 (by decide) ?_
  refine lv_iadd hx hb dL_law_2250 ?_
  refine lv_topi (fun y1 ey1 => ?_)
  obtain rfl : y1 = 1 := ey1.trans (by decide)
  refine va_sld hx hb hX hbl hbA hS (by unfold vp_in; decide) dL_law_2251 ?_
  rw [show xs (Int32.toNatClampNeg 1) = v1 from hx1]
  refine lv_aload_n hx hb dL_law_2252 rfl (lv_at hl 1 rfl) ?_
  have hPc := hP.sub (ws' := [(x0, .inr (7, [.ref x1, .ref x2, .ref x45, .ref x53, .ref x55, .ref x57, .int 0, .int 0, .int 0])), (x1, .inl (xc0, 4, .inr (.inr (.inr (.inr (va_up (va_up (va_up (va_up (fun _ => none) 0 (some x59)) 1 (some x61)) 2 (some x63)) 3 (some x65))))))), (x59, .inr (6, [.ref x60, .int 0])), (x61, .inr (6, [.ref x62, .int 0])), (x63, .inr (6, [.ref x64, .int 0])), (x65, .inr (6, [.ref x66, .int 0])), (o0, .inr (8, [.long 0, .null]))]) [0, 1, 2, 3, 4, 5, 8] rfl
  have hDc := hD.sub (ws' := [(x0, .inr (7, [.ref x1, .ref x2, .ref x45, .ref x53, .ref x55, .ref x57, .int 0, .int 0, .int 0])), (x1, .inl (xc0, 4, .inr (.inr (.inr (.inr (va_up (va_up (va_up (va_up (fun _ => none) 0 (some x59)) 1 (some x61)) 2 (some x63)) 3 (some x65))))))), (x59, .inr (6, [.ref x60, .int 0])), (x61, .inr (6, [.ref x62, .int 0])), (x63, .inr (6, [.ref x64, .int 0])), (x65, .inr (6, [.ref x66, .int 0])), (o0, .inr (8, [.long 0, .null]))]) [0, 1, 2, 3, 4, 5, 8] (by decide) rfl
  have hKc := hK.sub (tys' := [(xc0, .object "Rewriterope$Text")]) [0] rfl
  have hFc := va_free (wc := [(x0, .inr (7, [.ref x1, .ref x2, .ref x45, .ref x53, .ref x55, .ref x57, .int 0, .int 0, .int 0])), (x1, .inl (xc0, 4, .inr (.inr (.inr (.inr (va_up (va_up (va_up (va_up (fun _ => none) 0 (some x59)) 1 (some x61)) 2 (some x63)) 3 (some x65))))))), (x59, .inr (6, [.ref x60, .int 0])), (x61, .inr (6, [.ref x62, .int 0])), (x63, .inr (6, [.ref x64, .int 0])), (x65, .inr (6, [.ref x66, .int 0])), (o0, .inr (8, [.long 0, .null]))]) hD hS hA [0, 1, 2, 3, 4, 5, 8] rfl
  refine va_calli (vx_runSW (As := [.ref x0, .int v1, .ref o0]) (rest := []) ⟨hx, hb, hml, hown, hts⟩ (kx_L_house_0 l dC dI ge5 gea gv5 gva gde gic gi0 x0 x1 x59 x61 x63 x65 o0 x2 x45 x53 x55 x57 x60 x62 x64 x66 xc0 H.size v1 v1_l v1_u) (vx_cwSW 3 hts gL_law_L_house rfl rfl rfl (by decide +kernel) ⟨Nat.le_of_ble_eq_true rfl, Nat.le_of_ble_eq_true rfl⟩) ⟨fun a U g mk q => by obtain ⟨q0, q1, qP, qK, qD, qG⟩ := q; exact ⟨q0, q1, qP, va_K.moved (u := U) (U := U.calling g mk a) (Vm.Alike.refl U.vm) qK, qD, gv.fb qG⟩, fun U hU hW => ⟨rfl, by rw [hU], by rw [hU]; exact hPc, va_K.moved hW.alike hKc, hDc.weaken (fun _ _ _ _ => trivial), gv.pass hW hU hS hFc hG⟩⟩ rfl rfl hl.1 rfl (lv_room (Nat.le_of_ble_eq_true rfl)) dL_law_2253 ⟨Nat.le_of_ble_eq_true rfl, Nat.le_of_ble_eq_true rfl⟩) hS (fun q _ h => hFc q h) hFc (fun r9 u t H1 locs ht hvm hw hB hz1 hk1 hS => ?_)
  obtain rfl := hw
  obtain ⟨hP1, hK1, hD1⟩ := hB
  rw [ht] at hP1
  have hK1 := va_K.moved hvm.symm hK1
  obtain ⟨hP, hD⟩ := va_join (wr := [(m0, .inr (9, [.int 0, .ref m1, .ref m2, .ref m3, .int 0, .int 0, .int 0])), (m1, .inl (mc0, 4, .inr (.inr (.inr (.inr (va_up (va_up (va_up (va_up (fun _ => none) 0 (some ge5)) 1 (some ge5)) 2 (some ge5)) 3 (some ge5)))))))]) (w1 := [(x0, .inr (7, [.ref x1, .ref x2, .ref x45, .ref x53, .ref x55, .ref x57, .int 0, .int 0, .int 0])), (x1, .inl (xc0, 4, .inr (.inr (.inr (.inr (va_up (va_up (va_up (va_up (fun _ => none) 0 (some x59)) 1 (some x61)) 2 (some x63)) 3 (some x65))))))), (x59, .inr (6, [.ref x60, .int 0])), (x61, .inr (6, [.ref x62, .int 0])), (x63, .inr (6, [.ref x64, .int 0])), (x65, .inr (6, [.ref x66, .int 0])), (o0, .inr (8, [.long 0, .null]))]) hP hD [0, 1, 2, 3, 4, 5, 8] [6, 7] rfl rfl (by decide) (by decide) hk1 hFc hP1 hD1
  generalize H1 = H at hP hS ⊢
  have hP : va_P (dC, dI) vwCl [(m0, .inr (9, [.int 0, .ref m1, .ref m2, .ref m3, .int 0, .int 0, .int 0])), (m1, .inl (mc0, 4, .inr (.inr (.inr (.inr (va_up (va_up (va_up (va_up (fun _ => none) 0 (some ge5)) 1 (some ge5)) 2 (some ge5)) 3 (some ge5))))))), (x0, .inr (7, [.ref x1, .ref x2, .ref x45, .ref x53, .ref x55, .ref x57, .int 0, .int 0, .int 0])), (x1, .inl (xc0, 4, .inr (.inr (.inr (.inr (va_up (va_up (va_up (va_up (fun _ => none) 0 (some x59)) 1 (some x61)) 2 (some x63)) 3 (some x65))))))), (x59, .inr (6, [.ref x60, .int 0])), (x61, .inr (6, [.ref x62, .int 0])), (x63, .inr (6, [.ref x64, .int 0])), (x65, .inr (6, [.ref x66, .int 0])), (o0, .inr (8, [.long 0, .null]))] H := hP
  have hD : va_D A [(m0, .inr (9, [.int 0, .ref m1, .ref m2, .ref m3, .int 0, .int 0, .int 0])), (m1, .inl (mc0, 4, .inr (.inr (.inr (.inr (va_up (va_up (va_up (va_up (fun _ => none) 0 (some ge5)) 1 (some ge5)) 2 (some ge5)) 3 (some ge5))))))), (x0, .inr (7, [.ref x1, .ref x2, .ref x45, .ref x53, .ref x55, .ref x57, .int 0, .int 0, .int 0])), (x1, .inl (xc0, 4, .inr (.inr (.inr (.inr (va_up (va_up (va_up (va_up (fun _ => none) 0 (some x59)) 1 (some x61)) 2 (some x63)) 3 (some x65))))))), (x59, .inr (6, [.ref x60, .int 0])), (x61, .inr (6, [.ref x62, .int 0])), (x63, .inr (6, [.ref x64, .int 0])), (x65, .inr (6, [.ref x66, .int 0])), (o0, .inr (8, [.long 0, .null]))] := hD
  refine lv_istore (lv' := [(5, .int 0), (4, .int 0), (3, .ref o0), (2, .ref m0), (1, .ref x0), (0, .ref b)]) hx hb dL_law_2256 hl (by decide) rfl (fun ls hl => ?_)
  refine lv_aload_n hx hb dL_law_2258 rfl (lv_at hl 3 rfl) ?_
  refine lv_aload_n hx hb dL_law_2259 rfl (lv_at hl 5 rfl) ?_
  refine lv_iload hx hb dL_law_2260 (lv_at hl 1 rfl) ?_
  refine lv_iconst (v := 1) hx hb dL_law_2262 (by decide) ?_
  refine lv_iadd hx hb dL_law_2263 ?_
  refine lv_topi (fun y2 ey2 => ?_)
  obtain rfl : y2 = 1 := ey2.trans (by decide)
  refine va_sld hx hb hX hbl hbA hS (by unfold vp_in; decide) dL_law_2264 ?_
  rw [show xs (Int32.toNatClampNeg 1) = v1 from hx1]
  have hPc := hP.sub (ws' := [(m0, .inr (9, [.int 0, .ref m1, .ref m2, .ref m3, .int 0, .int 0, .int 0])), (m1, .inl (mc0, 4, .inr (.inr (.inr (.inr (va_up (va_up (va_up (va_up (fun _ => none) 0 (some ge5)) 1 (some ge5)) 2 (some ge5)) 3 (some ge5)))))))]) [0, 1] rfl
  have hDc := hD.sub (ws' := [(m0, .inr (9, [.int 0, .ref m1, .ref m2, .ref m3, .int 0, .int 0, .int 0])), (m1, .inl (mc0, 4, .inr (.inr (.inr (.inr (va_up (va_up (va_up (va_up (fun _ => none) 0 (some ge5)) 1 (some ge5)) 2 (some ge5)) 3 (some ge5)))))))]) [0, 1] (by decide) rfl
  have hKc := hK.sub (tys' := [(mc0, .object "java/lang/String")]) [1] rfl
  have hFc := va_free (wc := [(m0, .inr (9, [.int 0, .ref m1, .ref m2, .ref m3, .int 0, .int 0, .int 0])), (m1, .inl (mc0, 4, .inr (.inr (.inr (.inr (va_up (va_up (va_up (va_up (fun _ => none) 0 (some ge5)) 1 (some ge5)) 2 (some ge5)) 3 (some ge5)))))))]) hD hS hA [0, 1] rfl
  refine va_calli (va_runV (As := [.int v1]) (rest := []) ⟨hx, hb, hml, hown, hts⟩ (kx_X5_house_0 l dC dI ge5 gea gv5 gva gde gic gi0 m0 m1 m2 m3 mc0 H.size v1 v1_l v1_u) (cwV 1 hts gL_law_X5_house rfl rfl rfl (by decide +kernel) ⟨Nat.le_of_ble_eq_true rfl, Nat.le_of_ble_eq_true rfl⟩) ⟨fun a U g mk q => by obtain ⟨q0, q1, qP, qK, qD, qG⟩ := q; exact ⟨q0, q1, qP, va_K.moved (u := U) (U := U.calling g mk a) (Vm.Alike.refl U.vm) qK, qD, gv.fb qG⟩, va_recv hKc hPc (ci := 9) (q0 := 0) rfl rfl, fun U hU hW => ⟨rfl, by rw [hU], by rw [hU]; exact hPc, va_K.moved hW.alike hKc, hDc.weaken (fun _ _ _ _ => trivial), gv.pass hW hU hS hFc hG⟩⟩ rfl rfl hl.1 rfl (lv_room (Nat.le_of_ble_eq_true rfl)) dL_law_2265 ⟨Nat.le_of_ble_eq_true rfl, Nat.le_of_ble_eq_true rfl⟩) hS (fun q _ h => hFc q h) hFc (fun r9 u t H1 locs ht hvm hw hB hz1 hk1 hS => ?_)
  obtain rfl := hw
  obtain ⟨q3, cq4, hP1, hK1, hD1⟩ := hB
  rw [ht] at hP1
  have hK1 := va_K.moved hvm.symm hK1
  obtain ⟨hP, hD⟩ := va_join (wr := [(x0, .inr (7, [.ref x1, .ref x2, .ref x45, .ref x53, .ref x55, .ref x57, .int 0, .int 0, .int 0])), (x1, .inl (xc0, 4, .inr (.inr (.inr (.inr (va_up (va_up (va_up (va_up (fun _ => none) 0 (some x59)) 1 (some x61)) 2 (some x63)) 3 (some x65))))))), (x59, .inr (6, [.ref x60, .int 0])), (x61, .inr (6, [.ref x62, .int 0])), (x63, .inr (6, [.ref x64, .int 0])), (x65, .inr (6, [.ref x66, .int 0])), (o0, .inr (8, [.long 0, .null]))]) (w1 := [(m0, .inr (9, [.int 0, .ref m1, .ref m2, .ref m3, .int 0, .int 0, .int 0]))]) hP hD [0, 1] [2, 3, 4, 5, 6, 7, 8] rfl rfl (by decide) (by decide) hk1 hFc hP1 hD1
  have hK := hK.app (hK1.sub (tys' := [(cq4, .int)]) [1] rfl)
  generalize H1 = H at hP hS ⊢
  have hK : va_K (dC, dI) vwCl [(xc0, .object "Rewriterope$Text"), (mc0, .object "java/lang/String"), (cq4, .int)] s := hK
  have hP : va_P (dC, dI) vwCl [(x0, .inr (7, [.ref x1, .ref x2, .ref x45, .ref x53, .ref x55, .ref x57, .int 0, .int 0, .int 0])), (x1, .inl (xc0, 4, .inr (.inr (.inr (.inr (va_up (va_up (va_up (va_up (fun _ => none) 0 (some x59)) 1 (some x61)) 2 (some x63)) 3 (some x65))))))), (x59, .inr (6, [.ref x60, .int 0])), (x61, .inr (6, [.ref x62, .int 0])), (x63, .inr (6, [.ref x64, .int 0])), (x65, .inr (6, [.ref x66, .int 0])), (o0, .inr (8, [.long 0, .null])), (m0, .inr (9, [.int 0, .ref m1, .ref m2, .ref m3, .int 0, .int 0, .int 0]))] H := hP
  have hD : va_D A [(x0, .inr (7, [.ref x1, .ref x2, .ref x45, .ref x53, .ref x55, .ref x57, .int 0, .int 0, .int 0])), (x1, .inl (xc0, 4, .inr (.inr (.inr (.inr (va_up (va_up (va_up (va_up (fun _ => none) 0 (some x59)) 1 (some x61)) 2 (some x63)) 3 (some x65))))))), (x59, .inr (6, [.ref x60, .int 0])), (x61, .inr (6, [.ref x62, .int 0])), (x63, .inr (6, [.ref x64, .int 0])), (x65, .inr (6, [.ref x66, .int 0])), (o0, .inr (8, [.long 0, .null])), (m0, .inr (9, [.int 0, .ref m1, .ref m2, .ref m3, .int 0, .int 0, .int 0]))] := hD
  refine W.widen (k := 73) (n := 2752) (by omega) (by omega) ?_
  refine lv_istore (lv' := [(6, .int 0), (5, .int 0), (4, .int 0), (3, .ref o0), (2, .ref m0), (1, .ref x0), (0, .ref b)]) hx hb dL_law_2268 hl (by decide) rfl (fun ls hl => ?_)
  refine lv_aload_n hx hb dL_law_2270 rfl (lv_at hl 4 rfl) ?_
  have hPc := hP.sub (ws' := [(m0, .inr (9, [.int 0, .ref m1, .ref m2, .ref m3, .int 0, .int 0, .int 0]))]) [7] rfl
  have hDc := hD.sub (ws' := [(m0, .inr (9, [.int 0, .ref m1, .ref m2, .ref m3, .int 0, .int 0, .int 0]))]) [7] (by decide) rfl
  have hKc := hK.sub (tys' := []) [] rfl
  have hFc := va_free (wc := [(m0, .inr (9, [.int 0, .ref m1, .ref m2, .ref m3, .int 0, .int 0, .int 0]))]) hD hS hA [7] rfl
  refine va_calli (va_runV (As := []) (rest := []) ⟨hx, hb, hml, hown, hts⟩ (kx_X5_thrown_2 l dC dI m0 m1 m2 m3 H.size) (cwV 0 hts gL_law_X5_thrown rfl rfl rfl (by decide +kernel) ⟨Nat.le_of_ble_eq_true rfl, Nat.le_of_ble_eq_true rfl⟩) ⟨fun a U g mk q => by obtain ⟨q0, q1, qP, qK, qD⟩ := q; exact ⟨q0, q1, qP, va_K.moved (u := U) (U := U.calling g mk a) (Vm.Alike.refl U.vm) qK, qD⟩, va_recv hKc hPc (ci := 9) (q0 := 0) rfl rfl, fun U hU hW => ⟨rfl, by rw [hU], by rw [hU]; exact hPc, va_K.moved hW.alike hKc, hDc.weaken (fun _ _ _ _ => trivial)⟩⟩ rfl rfl hl.1 rfl (lv_room (Nat.le_of_ble_eq_true rfl)) dL_law_2271 ⟨Nat.le_of_ble_eq_true rfl, Nat.le_of_ble_eq_true rfl⟩) hS (fun q _ h => hFc q h) hFc (fun r9 u t H1 locs ht hvm hw hB hz1 hk1 hS => ?_)
  obtain rfl := hw
  obtain ⟨hP1, hK1, hD1⟩ := hB
  rw [ht] at hP1
  have hK1 := va_K.moved hvm.symm hK1
  obtain ⟨hP, hD⟩ := va_join (wr := [(x0, .inr (7, [.ref x1, .ref x2, .ref x45, .ref x53, .ref x55, .ref x57, .int 0, .int 0, .int 0])), (x1, .inl (xc0, 4, .inr (.inr (.inr (.inr (va_up (va_up (va_up (va_up (fun _ => none) 0 (some x59)) 1 (some x61)) 2 (some x63)) 3 (some x65))))))), (x59, .inr (6, [.ref x60, .int 0])), (x61, .inr (6, [.ref x62, .int 0])), (x63, .inr (6, [.ref x64, .int 0])), (x65, .inr (6, [.ref x66, .int 0])), (o0, .inr (8, [.long 0, .null]))]) (w1 := [(m0, .inr (9, [.int 0, .ref m1, .ref m2, .ref m3, .int 0, .int 0, .int 0]))]) hP hD [7] [0, 1, 2, 3, 4, 5, 6] rfl rfl (by decide) (by decide) hk1 hFc hP1 hD1
  generalize H1 = H at hP hS ⊢
  have hP : va_P (dC, dI) vwCl [(x0, .inr (7, [.ref x1, .ref x2, .ref x45, .ref x53, .ref x55, .ref x57, .int 0, .int 0, .int 0])), (x1, .inl (xc0, 4, .inr (.inr (.inr (.inr (va_up (va_up (va_up (va_up (fun _ => none) 0 (some x59)) 1 (some x61)) 2 (some x63)) 3 (some x65))))))), (x59, .inr (6, [.ref x60, .int 0])), (x61, .inr (6, [.ref x62, .int 0])), (x63, .inr (6, [.ref x64, .int 0])), (x65, .inr (6, [.ref x66, .int 0])), (o0, .inr (8, [.long 0, .null])), (m0, .inr (9, [.int 0, .ref m1, .ref m2, .ref m3, .int 0, .int 0, .int 0]))] H := hP
  have hD : va_D A [(x0, .inr (7, [.ref x1, .ref x2, .ref x45, .ref x53, .ref x55, .ref x57, .int 0, .int 0, .int 0])), (x1, .inl (xc0, 4, .inr (.inr (.inr (.inr (va_up (va_up (va_up (va_up (fun _ => none) 0 (some x59)) 1 (some x61)) 2 (some x63)) 3 (some x65))))))), (x59, .inr (6, [.ref x60, .int 0])), (x61, .inr (6, [.ref x62, .int 0])), (x63, .inr (6, [.ref x64, .int 0])), (x65, .inr (6, [.ref x66, .int 0])), (o0, .inr (8, [.long 0, .null])), (m0, .inr (9, [.int 0, .ref m1, .ref m2, .ref m3, .int 0, .int 0, .int 0]))] := hD
  refine lv_iload hx hb dL_law_2274 (lv_at hl 1 rfl) ?_
  refine lv_icmp_eq (tgt := 2281) hx hb dL_law_2276 (by decide) (fun _ => ?_) (fun c9 => absurd (by decide) c9)
  refine lv_iload hx hb dL_law_2281 (lv_at hl 1 rfl) ?_
  refine lv_if_ne (tgt := 2299) hx hb dL_law_2283 (by decide) (fun c9 => absurd (by decide) c9) (fun _ => ?_)
  refine lv_aload_n hx hb dL_law_2286 rfl (lv_at hl 3 rfl) ?_
  refine va_getN (D := (dC, dI)) (ci := 8) (v := .long 0) (C := RX4) (T := TX4) (N := 2) hx hb hts (by decide +kernel) hown hK hP 6 rfl rfl 0 (by decide) (va_Nw.use rfl g_nf_RL_13) (fun _ h9 => h9) rfl dL_law_2287 ?_
  refine lv_iload hx hb dL_law_2290 (lv_at hl 0 rfl) ?_
  refine lv_i2l (v := 0) hx hb dL_law_2292 (by decide) ?_
  refine W.lcmp hx hb dL_law_2293 ?_
  refine lv_topi (fun y5 ey5 => ?_)
  obtain rfl : y5 = 0 := ey5.trans (by decide)
  refine lv_if_eq (tgt := 2299) hx hb dL_law_2294 (by decide) (fun _ => ?_) (fun c9 => absurd (by decide) c9)
  refine lv_goto (tgt := 2342) hx hb dL_law_2299 (by decide) ?_
  refine lv_iinc (v := 7) (lv' := [(4, .int 7), (6, .int 0), (5, .int 0), (3, .ref o0), (2, .ref m0), (1, .ref x0), (0, .ref b)]) hx hb dL_law_2342 hl (k := 2) rfl (by decide) (by decide) rfl (fun ls hl => ?_)
  refine lv_goto (tgt := 27) hx hb dL_law_2345 (by decide) ?_
  refine lv_iload hx hb dL_law_27 (lv_at hl 0 rfl) ?_
  refine lv_aload_n hx hb dL_law_29 rfl (lv_at hl 6 rfl) ?_
  refine va_slen hx hb hX hbl hbA hS dL_law_30 ?_
  refine lv_topi (fun y6 ey6 => ?_)
  obtain rfl : y6 = 7 := ey6.trans (by decide)
  refine lv_bipush (v := 7) hx hb dL_law_31 (by decide) ?_
  refine lv_isub hx hb dL_law_33 ?_
  refine lv_topi (fun y7 ey7 => ?_)
  obtain rfl : y7 = 0 := ey7.trans (by decide)
  refine lv_icmp_gt (tgt := 2348) hx hb dL_law_34 (by decide) (fun _ => ?_) (fun c9 => absurd (by decide) c9)
  refine lv_iconst (v := 1) hx hb dL_law_2348 (by decide) ?_
  refine va_forget (fun q hq => (by have h := hS.2.2 q hq; rw [hAe] at h; exact h)) ?_
  refine W.widen (k := 600002) (n := 7302232) (Nat.le_of_ble_eq_true rfl) (Nat.le_of_ble_eq_true rfl) ?_
  exact lw_ret hx hb hr hlocks dL_law_2349
set_option maxHeartbeats 4000000 in
set_option maxRecDepth 100000 in
theorem lc_house_1 {p : Program} {e : Env} {s : State} {m : MethodId} {below : List Frame} {meth : Method} {c : Code} {l : Launch} (hst : l.stackTraces = false) {b : Nat} {xs : Nat → Int32} (C9 : lx_At p s m meth c b xs) {dC : Nat → ClassId} {dI : Nat → Nat → Nat} {ge5 gea gv5 gva gde gic gi0 : Nat} {x0 m0 x1 x2 x45 x53 x55 x57 m1 m2 m3 o0 : Nat} (hG : gv ge5 gea gv5 gva gde gic gi0 (fun q => s.heap.size ≤ q) s s.heap) {v1 : Int32} (v1_l : ((-2147483648) : Int) ≤ v1.toInt) (v1_u : v1.toInt ≤ ((-1) : Int)) (hx1 : xs 1 = v1) {H : Heap} {locs : List Loc} (hK : va_K (dC, dI) vwCl [] s) (hP : va_P (dC, dI) vwCl [(x0, .inr (7, [.ref x1, .ref x2, .ref x45, .ref x53, .ref x55, .ref x57, .int 0, .int 0, .int 0])), (m0, .inr (9, [.int 0, .ref m1, .ref m2, .ref m3, .int 0, .int 0, .int 0]))] H) (hD : va_D (fun q => s.heap.size ≤ q) [(x0, .inr (7, [.ref x1, .ref x2, .ref x45, .ref x53, .ref x55, .ref x57, .int 0, .int 0, .int 0])), (m0, .inr (9, [.int 0, .ref m1, .ref m2, .ref m3, .int 0, .int 0, .int 0]))]) (hS : va_S (fun q => s.heap.size ≤ q) s.heap H locs) {ls : Array Slot} (hl : lv_has ls 7 [(4, .int 0), (3, .ref o0), (2, .ref m0), (1, .ref x0), (0, .ref b)]) : W p l e room_1 s m #[Value.ref b] below meth c H locs 72 2748 (lw_Z below #[Value.ref b] s) (F0 m 2245 ls []) := by
  obtain ⟨hx, hb, hr, hml, hown, hts, hX, hbl, hlocks⟩ := id C9
  have hA : ∀ q : Nat, s.heap.size ≤ q → (fun q : Nat => s.heap.size ≤ q) q := fun _ h => h
  have hbA : ¬ (fun q : Nat => s.heap.size ≤ q) b := Nat.not_le.mpr hbl
  obtain ⟨A, hAe⟩ : ∃ A : Nat → Prop, A = (fun q : Nat => s.heap.size ≤ q) := ⟨_, rfl⟩
  rw [← hAe] at hG hD hS hA hbA
  obtain ⟨⟨g_AO_Text, g_AO_String, g_AO_Object, g_nm_RX1_20, g_nm_RX0_17, g_nm_RX3_31, g_nm_RX2_44, g_nm_RL_121, g_nf_RL_13, g_nf_RL_47, g_ca_IO, g_ca_IA, g_ca_IS, g_ca_IntObj, g_ca_StrObj, g_de_RT, g_de_EX, g_de_TH, g_nc_IA_IO, g_nc_IS_IO, g_nc_IS_IA⟩, ⟨g_s3, g_s5, g_sa, g_x278, g_x280, g_x282, g_x284, g_x286, g_x180, g_x238, g_x250⟩, ⟨g_o5, g_c5, g_v5, g_t5, g_oa, g_ca, g_va, g_ta, g_zc, g_zd, g_td, g_zf, g_zU, g_zN, g_zh, g_zk, g_tk, g_oi, g_vi⟩⟩ := id hG
  refine lv_aload_n hx hb dL_law_2245 rfl (lv_at hl 3 rfl) ?_
  refine lv_aload_n hx hb dL_law_2246 rfl (lv_at hl 4 rfl) ?_
  refine lv_iload hx hb dL_law_2247 (lv_at hl 0 rfl) ?_
  refine lv_iconst (v := 1) hx hb dL_law_2249 (by decide) ?_
  refine lv_iadd hx hb dL_law_2250 ?_
  refine lv_topi (fun y1 ey1 => ?_)
  obtain rfl : y1 = 1 := ey1.trans (by decide)
  refine va_sld hx hb hX hbl hbA hS (by unfold vp_in; decide) dL_law_2251 ?_
  rw [show xs (Int32.toNatClampNeg 1) = v1 from hx1]
  refine lv_aload_n hx hb dL_law_2252 rfl (lv_at hl 1 rfl) ?_
  have hPc := hP.sub (ws' := [(x0, .inr (7, [.ref x1, .ref x2, .ref x45, .ref x53, .ref x55, .ref x57, .int 0, .int 0, .int 0]))]) [0] rfl
  have hDc := hD.sub (ws' := [(x0, .inr (7, [.ref x1, .ref x2, .ref x45, .ref x53, .ref x55, .ref x57, .int 0, .int 0, .int 0]))]) [0] (by decide) rfl
  have hKc := hK.sub (tys' := []) [] rfl
  have hFc := va_free (wc := [(x0, .inr (7, [.ref x1, .ref x2, .ref x45, .ref x53, .ref x55, .ref x57, .int 0, .int 0, .int 0]))]) hD hS hA [0] rfl
  refine va_calli (vx_runSW (As := [.ref x0, .int v1, .ref o0]) (rest := []) ⟨hx, hb, hml, hown, hts⟩ (kx_L_house_1 l hst dC dI ge5 gea gv5 gva gde gic gi0 x0 o0 x1 x2 x45 x53 x55 x57 H.size v1 v1_l v1_u) (vx_cwSW 3 hts gL_law_L_house rfl rfl rfl (by decide +kernel) ⟨Nat.le_of_ble_eq_true rfl, Nat.le_of_ble_eq_true rfl⟩) ⟨fun a U g mk q => by obtain ⟨q0, q1, qP, qK, qD, qG⟩ := q; exact ⟨q0, q1, qP, va_K.moved (u := U) (U := U.calling g mk a) (Vm.Alike.refl U.vm) qK, qD, gv.fb qG⟩, fun U hU hW => ⟨rfl, by rw [hU], by rw [hU]; exact hPc, va_K.moved hW.alike hKc, hDc.weaken (fun _ _ _ _ => trivial), gv.pass hW hU hS hFc hG⟩⟩ rfl rfl hl.1 rfl (lv_room (Nat.le_of_ble_eq_true rfl)) dL_law_2253 ⟨Nat.le_of_ble_eq_true rfl, Nat.le_of_ble_eq_true rfl⟩) hS (fun q _ h => hFc q h) hFc (fun r9 u t H1 locs ht hvm hw hB hz1 hk1 hS => ?_)
  obtain rfl := hw
  obtain ⟨hP1, hK1, hD1⟩ := hB
  rw [ht] at hP1
  have hK1 := va_K.moved hvm.symm hK1
  obtain ⟨hP, hD⟩ := va_join (wr := [(m0, .inr (9, [.int 0, .ref m1, .ref m2, .ref m3, .int 0, .int 0, .int 0]))]) (w1 := [(x0, .inr (7, [.ref x1, .ref x2, .ref x45, .ref x53, .ref x55, .ref x57, .int 0, .int 0, .int 0]))]) hP hD [0] [1] rfl rfl (by decide) (by decide) hk1 hFc hP1 hD1
  generalize H1 = H at hP hS ⊢
  have hP : va_P (dC, dI) vwCl [(m0, .inr (9, [.int 0, .ref m1, .ref m2, .ref m3, .int 0, .int 0, .int 0])), (x0, .inr (7, [.ref x1, .ref x2, .ref x45, .ref x53, .ref x55, .ref x57, .int 0, .int 0, .int 0]))] H := hP
  have hD : va_D A [(m0, .inr (9, [.int 0, .ref m1, .ref m2, .ref m3, .int 0, .int 0, .int 0])), (x0, .inr (7, [.ref x1, .ref x2, .ref x45, .ref x53, .ref x55, .ref x57, .int 0, .int 0, .int 0]))] := hD
  refine W.widen (k := 73) (n := 2754) (by omega) (by omega) ?_
  refine lv_istore (lv' := [(5, .int 1), (4, .int 0), (3, .ref o0), (2, .ref m0), (1, .ref x0), (0, .ref b)]) hx hb dL_law_2256 hl (by decide) rfl (fun ls hl => ?_)
  refine lv_aload_n hx hb dL_law_2258 rfl (lv_at hl 3 rfl) ?_
  refine lv_aload_n hx hb dL_law_2259 rfl (lv_at hl 5 rfl) ?_
  refine lv_iload hx hb dL_law_2260 (lv_at hl 1 rfl) ?_
  refine lv_iconst (v := 1) hx hb dL_law_2262 (by decide) ?_
  refine lv_iadd hx hb dL_law_2263 ?_
  refine lv_topi (fun y2 ey2 => ?_)
  obtain rfl : y2 = 1 := ey2.trans (by decide)
  refine va_sld hx hb hX hbl hbA hS (by unfold vp_in; decide) dL_law_2264 ?_
  rw [show xs (Int32.toNatClampNeg 1) = v1 from hx1]
  have hPc := hP.sub (ws' := [(m0, .inr (9, [.int 0, .ref m1, .ref m2, .ref m3, .int 0, .int 0, .int 0]))]) [0] rfl
  have hDc := hD.sub (ws' := [(m0, .inr (9, [.int 0, .ref m1, .ref m2, .ref m3, .int 0, .int 0, .int 0]))]) [0] (by decide) rfl
  have hKc := hK.sub (tys' := []) [] rfl
  have hFc := va_free (wc := [(m0, .inr (9, [.int 0, .ref m1, .ref m2, .ref m3, .int 0, .int 0, .int 0]))]) hD hS hA [0] rfl
  refine va_calli (va_runV (As := [.int v1]) (rest := []) ⟨hx, hb, hml, hown, hts⟩ (kx_X5_house_1 l dC dI m0 m1 m2 m3 H.size v1 v1_l v1_u) (cwV 1 hts gL_law_X5_house rfl rfl rfl (by decide +kernel) ⟨Nat.le_of_ble_eq_true rfl, Nat.le_of_ble_eq_true rfl⟩) ⟨fun a U g mk q => by obtain ⟨q0, q1, qP, qK, qD⟩ := q; exact ⟨q0, q1, qP, va_K.moved (u := U) (U := U.calling g mk a) (Vm.Alike.refl U.vm) qK, qD⟩, va_recv hKc hPc (ci := 9) (q0 := 0) rfl rfl, fun U hU hW => ⟨rfl, by rw [hU], by rw [hU]; exact hPc, va_K.moved hW.alike hKc, hDc.weaken (fun _ _ _ _ => trivial)⟩⟩ rfl rfl hl.1 rfl (lv_room (Nat.le_of_ble_eq_true rfl)) dL_law_2265 ⟨Nat.le_of_ble_eq_true rfl, Nat.le_of_ble_eq_true rfl⟩) hS (fun q _ h => hFc q h) hFc (fun r9 u t H1 locs ht hvm hw hB hz1 hk1 hS => ?_)
  obtain rfl := hw
  obtain ⟨hP1, hK1, hD1⟩ := hB
  rw [ht] at hP1
  have hK1 := va_K.moved hvm.symm hK1
  obtain ⟨hP, hD⟩ := va_join (wr := [(x0, .inr (7, [.ref x1, .ref x2, .ref x45, .ref x53, .ref x55, .ref x57, .int 0, .int 0, .int 0]))]) (w1 := [(m0, .inr (9, [.int 1, .ref m1, .ref m2, .ref m3, .int 0, .int 0, .int 0]))]) hP hD [0] [1] rfl rfl (by decide) (by decide) hk1 hFc hP1 hD1
  generalize H1 = H at hP hS ⊢
  have hP : va_P (dC, dI) vwCl [(x0, .inr (7, [.ref x1, .ref x2, .ref x45, .ref x53, .ref x55, .ref x57, .int 0, .int 0, .int 0])), (m0, .inr (9, [.int 1, .ref m1, .ref m2, .ref m3, .int 0, .int 0, .int 0]))] H := hP
  have hD : va_D A [(x0, .inr (7, [.ref x1, .ref x2, .ref x45, .ref x53, .ref x55, .ref x57, .int 0, .int 0, .int 0])), (m0, .inr (9, [.int 1, .ref m1, .ref m2, .ref m3, .int 0, .int 0, .int 0]))] := hD
  refine lv_istore (lv' := [(6, .int 0), (5, .int 1), (4, .int 0), (3, .ref o0), (2, .ref m0), (1, .ref x0), (0, .ref b)]) hx hb dL_law_2268 hl (by decide) rfl (fun ls hl => ?_)
  refine lv_aload_n hx hb dL_law_2270 rfl (lv_at hl 4 rfl) ?_
  have hPc := hP.sub (ws' := [(m0, .inr (9, [.int 1, .ref m1, .ref m2, .ref m3, .int 0, .int 0, .int 0]))]) [1] rfl
  have hDc := hD.sub (ws' := [(m0, .inr (9, [.int 1, .ref m1, .ref m2, .ref m3, .int 0, .int 0, .int 0]))]) [1] (by decide) rfl
  have hKc := hK.sub (tys' := []) [] rfl
  have hFc := va_free (wc := [(m0, .inr (9, [.int 1, .ref m1, .ref m2, .ref m3, .int 0, .int 0, .int 0]))]) hD hS hA [1] rfl
  refine va_calli (va_runV (As := []) (rest := []) ⟨hx, hb, hml, hown, hts⟩ (kx_X5_thrown_0 l dC dI m0 m1 m2 m3 H.size) (cwV 0 hts gL_law_X5_thrown rfl rfl rfl (by decide +kernel) ⟨Nat.le_of_ble_eq_true rfl, Nat.le_of_ble_eq_true rfl⟩) ⟨fun a U g mk q => by obtain ⟨q0, q1, qP, qK, qD⟩ := q; exact ⟨q0, q1, qP, va_K.moved (u := U) (U := U.calling g mk a) (Vm.Alike.refl U.vm) qK, qD⟩, va_recv hKc hPc (ci := 9) (q0 := 0) rfl rfl, fun U hU hW => ⟨rfl, by rw [hU], by rw [hU]; exact hPc, va_K.moved hW.alike hKc, hDc.weaken (fun _ _ _ _ => trivial)⟩⟩ rfl rfl hl.1 rfl (lv_room (Nat.le_of_ble_eq_true rfl)) dL_law_2271 ⟨Nat.le_of_ble_eq_true rfl, Nat.le_of_ble_eq_true rfl⟩) hS (fun q _ h => hFc q h) hFc (fun r9 u t H1 locs ht hvm hw hB hz1 hk1 hS => ?_)
  obtain rfl := hw
  obtain ⟨hP1, hK1, hD1⟩ := hB
  rw [ht] at hP1
  have hK1 := va_K.moved hvm.symm hK1
  obtain ⟨hP, hD⟩ := va_join (wr := [(x0, .inr (7, [.ref x1, .ref x2, .ref x45, .ref x53, .ref x55, .ref x57, .int 0, .int 0, .int 0]))]) (w1 := [(m0, .inr (9, [.int 1, .ref m1, .ref m2, .ref m3, .int 0, .int 0, .int 0]))]) hP hD [1] [0] rfl rfl (by decide) (by decide) hk1 hFc hP1 hD1
  generalize H1 = H at hP hS ⊢
  have hP : va_P (dC, dI) vwCl [(x0, .inr (7, [.ref x1, .ref x2, .ref x45, .ref x53, .ref x55, .ref x57, .int 0, .int 0, .int 0])), (m0, .inr (9, [.int 1, .ref m1, .ref m2, .ref m3, .int 0, .int 0, .int 0]))] H := hP
  have hD : va_D A [(x0, .inr (7, [.ref x1, .ref x2, .ref x45, .ref x53, .ref x55, .ref x57, .int 0, .int 0, .int 0])), (m0, .inr (9, [.int 1, .ref m1, .ref m2, .ref m3, .int 0, .int 0, .int 0]))] := hD
  refine lv_iload hx hb dL_law_2274 (lv_at hl 1 rfl) ?_
  refine lv_icmp_eq (tgt := 2281) hx hb dL_law_2276 (by decide) (fun _ => ?_) (fun c9 => absurd (by decide) c9)
  refine lv_iload hx hb dL_law_2281 (lv_at hl 1 rfl) ?_
  refine lv_if_ne (tgt := 2299) hx hb dL_law_2283 (by decide) (fun _ => ?_) (fun c9 => absurd c9 (by decide))
  refine lv_goto (tgt := 2342) hx hb dL_law_2299 (by decide) ?_
  refine lv_iinc (v := 7) (lv' := [(4, .int 7), (6, .int 0), (5, .int 1), (3, .ref o0), (2, .ref m0), (1, .ref x0), (0, .ref b)]) hx hb dL_law_2342 hl (k := 2) rfl (by decide) (by decide) rfl (fun ls hl => ?_)
  refine lv_goto (tgt := 27) hx hb dL_law_2345 (by decide) ?_
  refine lv_iload hx hb dL_law_27 (lv_at hl 0 rfl) ?_
  refine lv_aload_n hx hb dL_law_29 rfl (lv_at hl 6 rfl) ?_
  refine va_slen hx hb hX hbl hbA hS dL_law_30 ?_
  refine lv_topi (fun y3 ey3 => ?_)
  obtain rfl : y3 = 7 := ey3.trans (by decide)
  refine lv_bipush (v := 7) hx hb dL_law_31 (by decide) ?_
  refine lv_isub hx hb dL_law_33 ?_
  refine lv_topi (fun y4 ey4 => ?_)
  obtain rfl : y4 = 0 := ey4.trans (by decide)
  refine lv_icmp_gt (tgt := 2348) hx hb dL_law_34 (by decide) (fun _ => ?_) (fun c9 => absurd (by decide) c9)
  refine lv_iconst (v := 1) hx hb dL_law_2348 (by decide) ?_
  refine va_forget (fun q hq => (by have h := hS.2.2 q hq; rw [hAe] at h; exact h)) ?_
  refine W.widen (k := 600002) (n := 7302232) (Nat.le_of_ble_eq_true rfl) (Nat.le_of_ble_eq_true rfl) ?_
  exact lw_ret hx hb hr hlocks dL_law_2349
set_option maxHeartbeats 4000000 in
set_option maxRecDepth 100000 in
theorem lc_house_2 {p : Program} {e : Env} {s : State} {m : MethodId} {below : List Frame} {meth : Method} {c : Code} {l : Launch} (hst : l.stackTraces = false) {b : Nat} {xs : Nat → Int32} (C9 : lx_At p s m meth c b xs) {dC : Nat → ClassId} {dI : Nat → Nat → Nat} {ge5 gea gv5 gva gde gic gi0 : Nat} {x0 m0 x1 x2 x45 x53 x55 x57 m1 m2 m3 o0 : Nat} (hG : gv ge5 gea gv5 gva gde gic gi0 (fun q => s.heap.size ≤ q) s s.heap) {v1 : Int32} (v1_l : (4 : Int) ≤ v1.toInt) (v1_u : v1.toInt ≤ (2147483647 : Int)) (hx1 : xs 1 = v1) {H : Heap} {locs : List Loc} (hK : va_K (dC, dI) vwCl [] s) (hP : va_P (dC, dI) vwCl [(x0, .inr (7, [.ref x1, .ref x2, .ref x45, .ref x53, .ref x55, .ref x57, .int 0, .int 0, .int 0])), (m0, .inr (9, [.int 0, .ref m1, .ref m2, .ref m3, .int 0, .int 0, .int 0]))] H) (hD : va_D (fun q => s.heap.size ≤ q) [(x0, .inr (7, [.ref x1, .ref x2, .ref x45, .ref x53, .ref x55, .ref x57, .int 0, .int 0, .int 0])), (m0, .inr (9, [.int 0, .ref m1, .ref m2, .ref m3, .int 0, .int 0, .int 0]))]) (hS : va_S (fun q => s.heap.size ≤ q) s.heap H locs) {ls : Array Slot} (hl : lv_has ls 7 [(4, .int 0), (3, .ref o0), (2, .ref m0), (1, .ref x0), (0, .ref b)]) : W p l e room_1 s m #[Value.ref b] below meth c H locs 72 2748 (lw_Z below #[Value.ref b] s) (F0 m 2245 ls []) := by
  obtain ⟨hx, hb, hr, hml, hown, hts, hX, hbl, hlocks⟩ := id C9
  have hA : ∀ q : Nat, s.heap.size ≤ q → (fun q : Nat => s.heap.size ≤ q) q := fun _ h => h
  have hbA : ¬ (fun q : Nat => s.heap.size ≤ q) b := Nat.not_le.mpr hbl
  obtain ⟨A, hAe⟩ : ∃ A : Nat → Prop, A = (fun q : Nat => s.heap.size ≤ q) := ⟨_, rfl⟩
  rw [← hAe] at hG hD hS hA hbA
  obtain ⟨⟨g_AO_Text, g_AO_String, g_AO_Object, g_nm_RX1_20, g_nm_RX0_17, g_nm_RX3_31, g_nm_RX2_44, g_nm_RL_121, g_nf_RL_13, g_nf_RL_47, g_ca_IO, g_ca_IA, g_ca_IS, g_ca_IntObj, g_ca_StrObj, g_de_RT, g_de_EX, g_de_TH, g_nc_IA_IO, g_nc_IS_IO, g_nc_IS_IA⟩, ⟨g_s3, g_s5, g_sa, g_x278, g_x280, g_x282, g_x284, g_x286, g_x180, g_x238, g_x250⟩, ⟨g_o5, g_c5, g_v5, g_t5, g_oa, g_ca, g_va, g_ta, g_zc, g_zd, g_td, g_zf, g_zU, g_zN, g_zh, g_zk, g_tk, g_oi, g_vi⟩⟩ := id hG
  refine lv_aload_n hx hb dL_law_2245 rfl (lv_at hl 3 rfl) ?_
  refine lv_aload_n hx hb dL_law_2246 rfl (lv_at hl 4 rfl) ?_
  refine lv_iload hx hb dL_law_2247 (lv_at hl 0 rfl) ?_
  refine lv_iconst (v := 1) hx hb dL_law_2249 (by decide) ?_
  refine lv_iadd hx hb dL_law_2250 ?_
  refine lv_topi (fun y1 ey1 => ?_)
  obtain rfl : y1 = 1 := ey1.trans (by decide)
  refine va_sld hx hb hX hbl hbA hS (by unfold vp_in; decide) dL_law_2251 ?_
  rw [show xs (Int32.toNatClampNeg 1) = v1 from hx1]
  refine lv_aload_n hx hb dL_law_2252 rfl (lv_at hl 1 rfl) ?_
  have hPc := hP.sub (ws' := [(x0, .inr (7, [.ref x1, .ref x2, .ref x45, .ref x53, .ref x55, .ref x57, .int 0, .int 0, .int 0]))]) [0] rfl
  have hDc := hD.sub (ws' := [(x0, .inr (7, [.ref x1, .ref x2, .ref x45, .ref x53, .ref x55, .ref x57, .int 0, .int 0, .int 0]))]) [0] (by decide) rfl
  have hKc := hK.sub (tys' := []) [] rfl
  have hFc := va_free (wc := [(x0, .inr (7, [.ref x1, .ref x2, .ref x45, .ref x53, .ref x55, .ref x57, .int 0, .int 0, .int 0]))]) hD hS hA [0] rfl
  refine va_calli (vx_runSW (As := [.ref x0, .int v1, .ref o0]) (rest := []) ⟨hx, hb, hml, hown, hts⟩ (kx_L_house_2 l hst dC dI ge5 gea gv5 gva gde gic gi0 x0 o0 x1 x2 x45 x53 x55 x57 H.size v1 v1_l v1_u) (vx_cwSW 3 hts gL_law_L_house rfl rfl rfl (by decide +kernel) ⟨Nat.le_of_ble_eq_true rfl, Nat.le_of_ble_eq_true rfl⟩) ⟨fun a U g mk q => by obtain ⟨q0, q1, qP, qK, qD, qG⟩ := q; exact ⟨q0, q1, qP, va_K.moved (u := U) (U := U.calling g mk a) (Vm.Alike.refl U.vm) qK, qD, gv.fb qG⟩, fun U hU hW => ⟨rfl, by rw [hU], by rw [hU]; exact hPc, va_K.moved hW.alike hKc, hDc.weaken (fun _ _ _ _ => trivial), gv.pass hW hU hS hFc hG⟩⟩ rfl rfl hl.1 rfl (lv_room (Nat.le_of_ble_eq_true rfl)) dL_law_2253 ⟨Nat.le_of_ble_eq_true rfl, Nat.le_of_ble_eq_true rfl⟩) hS (fun q _ h => hFc q h) hFc (fun r9 u t H1 locs ht hvm hw hB hz1 hk1 hS => ?_)
  obtain rfl := hw
  obtain ⟨hP1, hK1, hD1⟩ := hB
  rw [ht] at hP1
  have hK1 := va_K.moved hvm.symm hK1
  obtain ⟨hP, hD⟩ := va_join (wr := [(m0, .inr (9, [.int 0, .ref m1, .ref m2, .ref m3, .int 0, .int 0, .int 0]))]) (w1 := [(x0, .inr (7, [.ref x1, .ref x2, .ref x45, .ref x53, .ref x55, .ref x57, .int 0, .int 0, .int 0]))]) hP hD [0] [1] rfl rfl (by decide) (by decide) hk1 hFc hP1 hD1
  generalize H1 = H at hP hS ⊢
  have hP : va_P (dC, dI) vwCl [(m0, .inr (9, [.int 0, .ref m1, .ref m2, .ref m3, .int 0, .int 0, .int 0])), (x0, .inr (7, [.ref x1, .ref x2, .ref x45, .ref x53, .ref x55, .ref x57, .int 0, .int 0, .int 0]))] H := hP
  have hD : va_D A [(m0, .inr (9, [.int 0, .ref m1, .ref m2, .ref m3, .int 0, .int 0, .int 0])), (x0, .inr (7, [.ref x1, .ref x2, .ref x45, .ref x53, .ref x55, .ref x57, .int 0, .int 0, .int 0]))] := hD
  refine W.widen (k := 73) (n := 2754) (by omega) (by omega) ?_
  refine lv_istore (lv' := [(5, .int 1), (4, .int 0), (3, .ref o0), (2, .ref m0), (1, .ref x0), (0, .ref b)]) hx hb dL_law_2256 hl (by decide) rfl (fun ls hl => ?_)
  refine lv_aload_n hx hb dL_law_2258 rfl (lv_at hl 3 rfl) ?_
  refine lv_aload_n hx hb dL_law_2259 rfl (lv_at hl 5 rfl) ?_
  refine lv_iload hx hb dL_law_2260 (lv_at hl 1 rfl) ?_
  refine lv_iconst (v := 1) hx hb dL_law_2262 (by decide) ?_
  refine lv_iadd hx hb dL_law_2263 ?_
  refine lv_topi (fun y2 ey2 => ?_)
  obtain rfl : y2 = 1 := ey2.trans (by decide)
  refine va_sld hx hb hX hbl hbA hS (by unfold vp_in; decide) dL_law_2264 ?_
  rw [show xs (Int32.toNatClampNeg 1) = v1 from hx1]
  have hPc := hP.sub (ws' := [(m0, .inr (9, [.int 0, .ref m1, .ref m2, .ref m3, .int 0, .int 0, .int 0]))]) [0] rfl
  have hDc := hD.sub (ws' := [(m0, .inr (9, [.int 0, .ref m1, .ref m2, .ref m3, .int 0, .int 0, .int 0]))]) [0] (by decide) rfl
  have hKc := hK.sub (tys' := []) [] rfl
  have hFc := va_free (wc := [(m0, .inr (9, [.int 0, .ref m1, .ref m2, .ref m3, .int 0, .int 0, .int 0]))]) hD hS hA [0] rfl
  refine va_calli (va_runV (As := [.int v1]) (rest := []) ⟨hx, hb, hml, hown, hts⟩ (kx_X5_house_2 l dC dI m0 m1 m2 m3 H.size v1 v1_l v1_u) (cwV 1 hts gL_law_X5_house rfl rfl rfl (by decide +kernel) ⟨Nat.le_of_ble_eq_true rfl, Nat.le_of_ble_eq_true rfl⟩) ⟨fun a U g mk q => by obtain ⟨q0, q1, qP, qK, qD⟩ := q; exact ⟨q0, q1, qP, va_K.moved (u := U) (U := U.calling g mk a) (Vm.Alike.refl U.vm) qK, qD⟩, va_recv hKc hPc (ci := 9) (q0 := 0) rfl rfl, fun U hU hW => ⟨rfl, by rw [hU], by rw [hU]; exact hPc, va_K.moved hW.alike hKc, hDc.weaken (fun _ _ _ _ => trivial)⟩⟩ rfl rfl hl.1 rfl (lv_room (Nat.le_of_ble_eq_true rfl)) dL_law_2265 ⟨Nat.le_of_ble_eq_true rfl, Nat.le_of_ble_eq_true rfl⟩) hS (fun q _ h => hFc q h) hFc (fun r9 u t H1 locs ht hvm hw hB hz1 hk1 hS => ?_)
  obtain rfl := hw
  obtain ⟨hP1, hK1, hD1⟩ := hB
  rw [ht] at hP1
  have hK1 := va_K.moved hvm.symm hK1
  obtain ⟨hP, hD⟩ := va_join (wr := [(x0, .inr (7, [.ref x1, .ref x2, .ref x45, .ref x53, .ref x55, .ref x57, .int 0, .int 0, .int 0]))]) (w1 := [(m0, .inr (9, [.int 1, .ref m1, .ref m2, .ref m3, .int 0, .int 0, .int 0]))]) hP hD [0] [1] rfl rfl (by decide) (by decide) hk1 hFc hP1 hD1
  generalize H1 = H at hP hS ⊢
  have hP : va_P (dC, dI) vwCl [(x0, .inr (7, [.ref x1, .ref x2, .ref x45, .ref x53, .ref x55, .ref x57, .int 0, .int 0, .int 0])), (m0, .inr (9, [.int 1, .ref m1, .ref m2, .ref m3, .int 0, .int 0, .int 0]))] H := hP
  have hD : va_D A [(x0, .inr (7, [.ref x1, .ref x2, .ref x45, .ref x53, .ref x55, .ref x57, .int 0, .int 0, .int 0])), (m0, .inr (9, [.int 1, .ref m1, .ref m2, .ref m3, .int 0, .int 0, .int 0]))] := hD
  refine lv_istore (lv' := [(6, .int 0), (5, .int 1), (4, .int 0), (3, .ref o0), (2, .ref m0), (1, .ref x0), (0, .ref b)]) hx hb dL_law_2268 hl (by decide) rfl (fun ls hl => ?_)
  refine lv_aload_n hx hb dL_law_2270 rfl (lv_at hl 4 rfl) ?_
  have hPc := hP.sub (ws' := [(m0, .inr (9, [.int 1, .ref m1, .ref m2, .ref m3, .int 0, .int 0, .int 0]))]) [1] rfl
  have hDc := hD.sub (ws' := [(m0, .inr (9, [.int 1, .ref m1, .ref m2, .ref m3, .int 0, .int 0, .int 0]))]) [1] (by decide) rfl
  have hKc := hK.sub (tys' := []) [] rfl
  have hFc := va_free (wc := [(m0, .inr (9, [.int 1, .ref m1, .ref m2, .ref m3, .int 0, .int 0, .int 0]))]) hD hS hA [1] rfl
  refine va_calli (va_runV (As := []) (rest := []) ⟨hx, hb, hml, hown, hts⟩ (kx_X5_thrown_0 l dC dI m0 m1 m2 m3 H.size) (cwV 0 hts gL_law_X5_thrown rfl rfl rfl (by decide +kernel) ⟨Nat.le_of_ble_eq_true rfl, Nat.le_of_ble_eq_true rfl⟩) ⟨fun a U g mk q => by obtain ⟨q0, q1, qP, qK, qD⟩ := q; exact ⟨q0, q1, qP, va_K.moved (u := U) (U := U.calling g mk a) (Vm.Alike.refl U.vm) qK, qD⟩, va_recv hKc hPc (ci := 9) (q0 := 0) rfl rfl, fun U hU hW => ⟨rfl, by rw [hU], by rw [hU]; exact hPc, va_K.moved hW.alike hKc, hDc.weaken (fun _ _ _ _ => trivial)⟩⟩ rfl rfl hl.1 rfl (lv_room (Nat.le_of_ble_eq_true rfl)) dL_law_2271 ⟨Nat.le_of_ble_eq_true rfl, Nat.le_of_ble_eq_true rfl⟩) hS (fun q _ h => hFc q h) hFc (fun r9 u t H1 locs ht hvm hw hB hz1 hk1 hS => ?_)
  obtain rfl := hw
  obtain ⟨hP1, hK1, hD1⟩ := hB
  rw [ht] at hP1
  have hK1 := va_K.moved hvm.symm hK1
  obtain ⟨hP, hD⟩ := va_join (wr := [(x0, .inr (7, [.ref x1, .ref x2, .ref x45, .ref x53, .ref x55, .ref x57, .int 0, .int 0, .int 0]))]) (w1 := [(m0, .inr (9, [.int 1, .ref m1, .ref m2, .ref m3, .int 0, .int 0, .int 0]))]) hP hD [1] [0] rfl rfl (by decide) (by decide) hk1 hFc hP1 hD1
  generalize H1 = H at hP hS ⊢
  have hP : va_P (dC, dI) vwCl [(x0, .inr (7, [.ref x1, .ref x2, .ref x45, .ref x53, .ref x55, .ref x57, .int 0, .int 0, .int 0])), (m0, .inr (9, [.int 1, .ref m1, .ref m2, .ref m3, .int 0, .int 0, .int 0]))] H := hP
  have hD : va_D A [(x0, .inr (7, [.ref x1, .ref x2, .ref x45, .ref x53, .ref x55, .ref x57, .int 0, .int 0, .int 0])), (m0, .inr (9, [.int 1, .ref m1, .ref m2, .ref m3, .int 0, .int 0, .int 0]))] := hD
  refine lv_iload hx hb dL_law_2274 (lv_at hl 1 rfl) ?_
  refine lv_icmp_eq (tgt := 2281) hx hb dL_law_2276 (by decide) (fun _ => ?_) (fun c9 => absurd (by decide) c9)
  refine lv_iload hx hb dL_law_2281 (lv_at hl 1 rfl) ?_
  refine lv_if_ne (tgt := 2299) hx hb dL_law_2283 (by decide) (fun _ => ?_) (fun c9 => absurd c9 (by decide))
  refine lv_goto (tgt := 2342) hx hb dL_law_2299 (by decide) ?_
  refine lv_iinc (v := 7) (lv' := [(4, .int 7), (6, .int 0), (5, .int 1), (3, .ref o0), (2, .ref m0), (1, .ref x0), (0, .ref b)]) hx hb dL_law_2342 hl (k := 2) rfl (by decide) (by decide) rfl (fun ls hl => ?_)
  refine lv_goto (tgt := 27) hx hb dL_law_2345 (by decide) ?_
  refine lv_iload hx hb dL_law_27 (lv_at hl 0 rfl) ?_
  refine lv_aload_n hx hb dL_law_29 rfl (lv_at hl 6 rfl) ?_
  refine va_slen hx hb hX hbl hbA hS dL_law_30 ?_
  refine lv_topi (fun y3 ey3 => ?_)
  obtain rfl : y3 = 7 := ey3.trans (by decide)
  refine lv_bipush (v := 7) hx hb dL_law_31 (by decide) ?_
  refine lv_isub hx hb dL_law_33 ?_
  refine lv_topi (fun y4 ey4 => ?_)
  obtain rfl : y4 = 0 := ey4.trans (by decide)
  refine lv_icmp_gt (tgt := 2348) hx hb dL_law_34 (by decide) (fun _ => ?_) (fun c9 => absurd (by decide) c9)
  refine lv_iconst (v := 1) hx hb dL_law_2348 (by decide) ?_
  refine va_forget (fun q hq => (by have h := hS.2.2 q hq; rw [hAe] at h; exact h)) ?_
  refine W.widen (k := 600002) (n := 7302232) (Nat.le_of_ble_eq_true rfl) (Nat.le_of_ble_eq_true rfl) ?_
  exact lw_ret hx hb hr hlocks dL_law_2349
set_option maxHeartbeats 4000000 in
set_option maxRecDepth 100000 in
theorem lc_knock_0 {p : Program} {e : Env} {s : State} {m : MethodId} {below : List Frame} {meth : Method} {c : Code} {l : Launch} (hst : l.stackTraces = false) {b : Nat} {xs : Nat → Int32} (C9 : lx_At p s m meth c b xs) {dC : Nat → ClassId} {dI : Nat → Nat → Nat} {ge5 gea gv5 gva gde gic gi0 : Nat} {x0 m0 x1 x2 x45 x53 x55 x57 m1 m2 m3 o0 : Nat} (hG : gv ge5 gea gv5 gva gde gic gi0 (fun q => s.heap.size ≤ q) s s.heap) {H : Heap} {locs : List Loc} (hK : va_K (dC, dI) vwCl [] s) (hP : va_P (dC, dI) vwCl [(x0, .inr (7, [.ref x1, .ref x2, .ref x45, .ref x53, .ref x55, .ref x57, .int 0, .int 0, .int 0])), (m0, .inr (9, [.int 0, .ref m1, .ref m2, .ref m3, .int 0, .int 0, .int 0]))] H) (hD : va_D (fun q => s.heap.size ≤ q) [(x0, .inr (7, [.ref x1, .ref x2, .ref x45, .ref x53, .ref x55, .ref x57, .int 0, .int 0, .int 0])), (m0, .inr (9, [.int 0, .ref m1, .ref m2, .ref m3, .int 0, .int 0, .int 0]))]) (hS : va_S (fun q => s.heap.size ≤ q) s.heap H locs) {ls : Array Slot} (hl : lv_has ls 7 [(4, .int 0), (3, .ref o0), (2, .ref m0), (1, .ref x0), (0, .ref b)]) : W p l e room_1 s m #[Value.ref b] below meth c H locs 72 2748 (lw_Z below #[Value.ref b] s) (F0 m 2302 ls []) := by
  obtain ⟨hx, hb, hr, hml, hown, hts, hX, hbl, hlocks⟩ := id C9
  have hA : ∀ q : Nat, s.heap.size ≤ q → (fun q : Nat => s.heap.size ≤ q) q := fun _ h => h
  have hbA : ¬ (fun q : Nat => s.heap.size ≤ q) b := Nat.not_le.mpr hbl
  obtain ⟨A, hAe⟩ : ∃ A : Nat → Prop, A = (fun q : Nat => s.heap.size ≤ q) := ⟨_, rfl⟩
  rw [← hAe] at hG hD hS hA hbA
  obtain ⟨⟨g_AO_Text, g_AO_String, g_AO_Object, g_nm_RX1_20, g_nm_RX0_17, g_nm_RX3_31, g_nm_RX2_44, g_nm_RL_121, g_nf_RL_13, g_nf_RL_47, g_ca_IO, g_ca_IA, g_ca_IS, g_ca_IntObj, g_ca_StrObj, g_de_RT, g_de_EX, g_de_TH, g_nc_IA_IO, g_nc_IS_IO, g_nc_IS_IA⟩, ⟨g_s3, g_s5, g_sa, g_x278, g_x280, g_x282, g_x284, g_x286, g_x180, g_x238, g_x250⟩, ⟨g_o5, g_c5, g_v5, g_t5, g_oa, g_ca, g_va, g_ta, g_zc, g_zd, g_td, g_zf, g_zU, g_zN, g_zh, g_zk, g_tk, g_oi, g_vi⟩⟩ := id hG
  refine lv_aload_n hx hb dL_law_2302 rfl (lv_at hl 3 rfl) ?_
  have hPc := hP.sub (ws' := [(x0, .inr (7, [.ref x1, .ref x2, .ref x45, .ref x53, .ref x55, .ref x57, .int 0, .int 0, .int 0]))]) [0] rfl
  have hDc := hD.sub (ws' := [(x0, .inr (7, [.ref x1, .ref x2, .ref x45, .ref x53, .ref x55, .ref x57, .int 0, .int 0, .int 0]))]) [0] (by decide) rfl
  have hKc := hK.sub (tys' := []) [] rfl
  have hFc := va_free (wc := [(x0, .inr (7, [.ref x1, .ref x2, .ref x45, .ref x53, .ref x55, .ref x57, .int 0, .int 0, .int 0]))]) hD hS hA [0] rfl
  refine va_calli (va_runV (As := []) (rest := []) ⟨hx, hb, hml, hown, hts⟩ (kx_X3_knock_0 l dC dI x0 x1 x2 x45 x53 x55 x57 H.size) (cwV 0 hts gL_law_X3_knock rfl rfl rfl (by decide +kernel) ⟨Nat.le_of_ble_eq_true rfl, Nat.le_of_ble_eq_true rfl⟩) ⟨fun a U g mk q => by obtain ⟨q0, q1, qP, qK, qD⟩ := q; exact ⟨q0, q1, qP, va_K.moved (u := U) (U := U.calling g mk a) (Vm.Alike.refl U.vm) qK, qD⟩, va_recv hKc hPc (ci := 7) (q0 := 0) rfl rfl, fun U hU hW => ⟨rfl, by rw [hU], by rw [hU]; exact hPc, va_K.moved hW.alike hKc, hDc.weaken (fun _ _ _ _ => trivial)⟩⟩ rfl rfl hl.1 rfl (lv_room (Nat.le_of_ble_eq_true rfl)) dL_law_2303 ⟨Nat.le_of_ble_eq_true rfl, Nat.le_of_ble_eq_true rfl⟩) hS (fun q _ h => hFc q h) hFc (fun r9 u t H1 locs ht hvm hw hB hz1 hk1 hS => ?_)
  obtain rfl := hw
  obtain ⟨hP1, hK1, hD1⟩ := hB
  rw [ht] at hP1
  have hK1 := va_K.moved hvm.symm hK1
  obtain ⟨hP, hD⟩ := va_join (wr := [(m0, .inr (9, [.int 0, .ref m1, .ref m2, .ref m3, .int 0, .int 0, .int 0]))]) (w1 := [(x0, .inr (7, [.ref x1, .ref x2, .ref x45, .ref x53, .ref x55, .ref x57, .int 0, .int 1, .int 0]))]) hP hD [0] [1] rfl rfl (by decide) (by decide) hk1 hFc hP1 hD1
  generalize H1 = H at hP hS ⊢
  have hP : va_P (dC, dI) vwCl [(m0, .inr (9, [.int 0, .ref m1, .ref m2, .ref m3, .int 0, .int 0, .int 0])), (x0, .inr (7, [.ref x1, .ref x2, .ref x45, .ref x53, .ref x55, .ref x57, .int 0, .int 1, .int 0]))] H := hP
  have hD : va_D A [(m0, .inr (9, [.int 0, .ref m1, .ref m2, .ref m3, .int 0, .int 0, .int 0])), (x0, .inr (7, [.ref x1, .ref x2, .ref x45, .ref x53, .ref x55, .ref x57, .int 0, .int 1, .int 0]))] := hD
  refine lv_aload_n hx hb dL_law_2306 rfl (lv_at hl 2 rfl) ?_
  have hPc := hP.sub (ws' := [(m0, .inr (9, [.int 0, .ref m1, .ref m2, .ref m3, .int 0, .int 0, .int 0]))]) [0] rfl
  have hDc := hD.sub (ws' := [(m0, .inr (9, [.int 0, .ref m1, .ref m2, .ref m3, .int 0, .int 0, .int 0]))]) [0] (by decide) rfl
  have hKc := hK.sub (tys' := []) [] rfl
  have hFc := va_free (wc := [(m0, .inr (9, [.int 0, .ref m1, .ref m2, .ref m3, .int 0, .int 0, .int 0]))]) hD hS hA [0] rfl
  refine va_calli (va_runV (As := []) (rest := [.int 1]) ⟨hx, hb, hml, hown, hts⟩ (kx_X5_knock_0 l dC dI m0 m1 m2 m3 H.size) (cwV 0 hts gL_law_X5_knock rfl rfl rfl (by decide +kernel) ⟨Nat.le_of_ble_eq_true rfl, Nat.le_of_ble_eq_true rfl⟩) ⟨fun a U g mk q => by obtain ⟨q0, q1, qP, qK, qD⟩ := q; exact ⟨q0, q1, qP, va_K.moved (u := U) (U := U.calling g mk a) (Vm.Alike.refl U.vm) qK, qD⟩, va_recv hKc hPc (ci := 9) (q0 := 0) rfl rfl, fun U hU hW => ⟨rfl, by rw [hU], by rw [hU]; exact hPc, va_K.moved hW.alike hKc, hDc.weaken (fun _ _ _ _ => trivial)⟩⟩ rfl rfl hl.1 rfl (lv_room (Nat.le_of_ble_eq_true rfl)) dL_law_2307 ⟨Nat.le_of_ble_eq_true rfl, Nat.le_of_ble_eq_true rfl⟩) hS (fun q _ h => hFc q h) hFc (fun r9 u t H1 locs ht hvm hw hB hz1 hk1 hS => ?_)
  obtain rfl := hw
  obtain ⟨hP1, hK1, hD1⟩ := hB
  rw [ht] at hP1
  have hK1 := va_K.moved hvm.symm hK1
  obtain ⟨hP, hD⟩ := va_join (wr := [(x0, .inr (7, [.ref x1, .ref x2, .ref x45, .ref x53, .ref x55, .ref x57, .int 0, .int 1, .int 0]))]) (w1 := [(m0, .inr (9, [.int 0, .ref m1, .ref m2, .ref m3, .int 0, .int 1, .int 0]))]) hP hD [0] [1] rfl rfl (by decide) (by decide) hk1 hFc hP1 hD1
  generalize H1 = H at hP hS ⊢
  have hP : va_P (dC, dI) vwCl [(x0, .inr (7, [.ref x1, .ref x2, .ref x45, .ref x53, .ref x55, .ref x57, .int 0, .int 1, .int 0])), (m0, .inr (9, [.int 0, .ref m1, .ref m2, .ref m3, .int 0, .int 1, .int 0]))] H := hP
  have hD : va_D A [(x0, .inr (7, [.ref x1, .ref x2, .ref x45, .ref x53, .ref x55, .ref x57, .int 0, .int 1, .int 0])), (m0, .inr (9, [.int 0, .ref m1, .ref m2, .ref m3, .int 0, .int 1, .int 0]))] := hD
  refine lv_icmp_eq (tgt := 2342) hx hb dL_law_2310 (by decide) (fun _ => ?_) (fun c9 => absurd (by decide) c9)
  refine lv_iinc (v := 7) (lv' := [(4, .int 7), (3, .ref o0), (2, .ref m0), (1, .ref x0), (0, .ref b)]) hx hb dL_law_2342 hl (k := 0) rfl (by decide) (by decide) rfl (fun ls hl => ?_)
  refine lv_goto (tgt := 27) hx hb dL_law_2345 (by decide) ?_
  refine lv_iload hx hb dL_law_27 (lv_at hl 0 rfl) ?_
  refine lv_aload_n hx hb dL_law_29 rfl (lv_at hl 4 rfl) ?_
  refine va_slen hx hb hX hbl hbA hS dL_law_30 ?_
  refine lv_topi (fun y1 ey1 => ?_)
  obtain rfl : y1 = 7 := ey1.trans (by decide)
  refine lv_bipush (v := 7) hx hb dL_law_31 (by decide) ?_
  refine lv_isub hx hb dL_law_33 ?_
  refine lv_topi (fun y2 ey2 => ?_)
  obtain rfl : y2 = 0 := ey2.trans (by decide)
  refine lv_icmp_gt (tgt := 2348) hx hb dL_law_34 (by decide) (fun _ => ?_) (fun c9 => absurd (by decide) c9)
  refine lv_iconst (v := 1) hx hb dL_law_2348 (by decide) ?_
  refine va_forget (fun q hq => (by have h := hS.2.2 q hq; rw [hAe] at h; exact h)) ?_
  refine W.widen (k := 600002) (n := 7302232) (Nat.le_of_ble_eq_true rfl) (Nat.le_of_ble_eq_true rfl) ?_
  exact lw_ret hx hb hr hlocks dL_law_2349
set_option maxHeartbeats 4000000 in
set_option maxRecDepth 100000 in
theorem lc_isSound_0 {p : Program} {e : Env} {s : State} {m : MethodId} {below : List Frame} {meth : Method} {c : Code} {l : Launch} (hst : l.stackTraces = false) {b : Nat} {xs : Nat → Int32} (C9 : lx_At p s m meth c b xs) {dC : Nat → ClassId} {dI : Nat → Nat → Nat} {ge5 gea gv5 gva gde gic gi0 : Nat} {x0 x1 x2 x45 x53 x54 x55 x56 x57 x58 x59 x60 x61 x62 x63 x64 x65 x66 m0 x3 x4 x5 x7 x9 x11 x46 x47 x49 x51 m1 m2 m3 o0 : Nat} {xc0 xc27 xc28 xc29 xc30 xc31 xc32 xc33 : ClassId} (hG : gv ge5 gea gv5 gva gde gic gi0 (fun q => s.heap.size ≤ q) s s.heap) {H : Heap} {locs : List Loc} (hK : va_K (dC, dI) vwCl [(xc0, .object "Rewriterope$Text"), (xc27, .byte), (xc28, .byte), (xc29, .byte), (xc30, .byte), (xc31, .byte), (xc32, .byte), (xc33, .byte)] s) (hP : va_P (dC, dI) vwCl [(x0, .inr (7, [.ref x1, .ref x2, .ref x45, .ref x53, .ref x55, .ref x57, .int 0, .int 0, .int 0])), (x1, .inl (xc0, 4, .inr (.inr (.inr (.inr (va_up (va_up (va_up (va_up (fun _ => none) 0 (some x59)) 1 (some x61)) 2 (some x63)) 3 (some x65))))))), (x2, .inr (5, [.ref x3, .ref x4, .ref x5, .ref x7, .ref x9, .ref x11, .int 0, .int 0])), (x45, .inr (4, [.ref x2, .ref x46, .ref x47, .ref x49, .ref x51, .int 0, .int 0, .int (-2)])), (x53, .inr (6, [.ref x54, .int 0])), (x54, .inl (xc27, 64, .inl (fun _ => 0))), (x55, .inr (6, [.ref x56, .int 0])), (x56, .inl (xc28, 64, .inl (fun _ => 0))), (x57, .inr (6, [.ref x58, .int 0])), (x58, .inl (xc29, 64, .inl (fun _ => 0))), (x59, .inr (6, [.ref x60, .int 0])), (x60, .inl (xc30, 64, .inl (fun _ => 0))), (x61, .inr (6, [.ref x62, .int 0])), (x62, .inl (xc31, 64, .inl (fun _ => 0))), (x63, .inr (6, [.ref x64, .int 0])), (x64, .inl (xc32, 64, .inl (fun _ => 0))), (x65, .inr (6, [.ref x66, .int 0])), (x66, .inl (xc33, 64, .inl (fun _ => 0))), (m0, .inr (9, [.int 0, .ref m1, .ref m2, .ref m3, .int 0, .int 0, .int 0]))] H) (hD : va_D (fun q => s.heap.size ≤ q) [(x0, .inr (7, [.ref x1, .ref x2, .ref x45, .ref x53, .ref x55, .ref x57, .int 0, .int 0, .int 0])), (x1, .inl (xc0, 4, .inr (.inr (.inr (.inr (va_up (va_up (va_up (va_up (fun _ => none) 0 (some x59)) 1 (some x61)) 2 (some x63)) 3 (some x65))))))), (x2, .inr (5, [.ref x3, .ref x4, .ref x5, .ref x7, .ref x9, .ref x11, .int 0, .int 0])), (x45, .inr (4, [.ref x2, .ref x46, .ref x47, .ref x49, .ref x51, .int 0, .int 0, .int (-2)])), (x53, .inr (6, [.ref x54, .int 0])), (x54, .inl (xc27, 64, .inl (fun _ => 0))), (x55, .inr (6, [.ref x56, .int 0])), (x56, .inl (xc28, 64, .inl (fun _ => 0))), (x57, .inr (6, [.ref x58, .int 0])), (x58, .inl (xc29, 64, .inl (fun _ => 0))), (x59, .inr (6, [.ref x60, .int 0])), (x60, .inl (xc30, 64, .inl (fun _ => 0))), (x61, .inr (6, [.ref x62, .int 0])), (x62, .inl (xc31, 64, .inl (fun _ => 0))), (x63, .inr (6, [.ref x64, .int 0])), (x64, .inl (xc32, 64, .inl (fun _ => 0))), (x65, .inr (6, [.ref x66, .int 0])), (x66, .inl (xc33, 64, .inl (fun _ => 0))), (m0, .inr (9, [.int 0, .ref m1, .ref m2, .ref m3, .int 0, .int 0, .int 0]))]) (hS : va_S (fun q => s.heap.size ≤ q) s.heap H locs) {ls : Array Slot} (hl : lv_has ls 7 [(4, .int 0), (3, .ref o0), (2, .ref m0), (1, .ref x0), (0, .ref b)]) : W p l e room_1 s m #[Value.ref b] below meth c H locs 72 2748 (lw_Z below #[Value.ref b] s) (F0 m 2315 ls []) := by
  obtain ⟨hx, hb, hr, hml, hown, hts, hX, hbl, hlocks⟩ := id C9
  have hA : ∀ q : Nat, s.heap.size ≤ q → (fun q : Nat => s.heap.size ≤ q) q := fun _ h => h
  have hbA : ¬ (fun q : Nat => s.heap.size ≤ q) b := Nat.not_le.mpr hbl
  obtain ⟨A, hAe⟩ : ∃ A : Nat → Prop, A = (fun q : Nat => s.heap.size ≤ q) := ⟨_, rfl⟩
  rw [← hAe] at hG hD hS hA hbA
  obtain ⟨⟨g_AO_Text, g_AO_String, g_AO_Object, g_nm_RX1_20, g_nm_RX0_17, g_nm_RX3_31, g_nm_RX2_44, g_nm_RL_121, g_nf_RL_13, g_nf_RL_47, g_ca_IO, g_ca_IA, g_ca_IS, g_ca_IntObj, g_ca_StrObj, g_de_RT, g_de_EX, g_de_TH, g_nc_IA_IO, g_nc_IS_IO, g_nc_IS_IA⟩, ⟨g_s3, g_s5, g_sa, g_x278, g_x280, g_x282, g_x284, g_x286, g_x180, g_x238, g_x250⟩, ⟨g_o5, g_c5, g_v5, g_t5, g_oa, g_ca, g_va, g_ta, g_zc, g_zd, g_td, g_zf, g_zU, g_zN, g_zh, g_zk, g_tk, g_oi, g_vi⟩⟩ := id hG
  refine lv_aload_n hx hb dL_law_2315 rfl (lv_at hl 3 rfl) ?_
  have hPc := hP.sub (ws' := [(x0, .inr (7, [.ref x1, .ref x2, .ref x45, .ref x53, .ref x55, .ref x57, .int 0, .int 0, .int 0])), (x1, .inl (xc0, 4, .inr (.inr (.inr (.inr (va_up (va_up (va_up (va_up (fun _ => none) 0 (some x59)) 1 (some x61)) 2 (some x63)) 3 (some x65))))))), (x2, .inr (5, [.ref x3, .ref x4, .ref x5, .ref x7, .ref x9, .ref x11, .int 0, .int 0])), (x45, .inr (4, [.ref x2, .ref x46, .ref x47, .ref x49, .ref x51, .int 0, .int 0, .int (-2)])), (x53, .inr (6, [.ref x54, .int 0])), (x54, .inl (xc27, 64, .inl (fun _ => 0))), (x55, .inr (6, [.ref x56, .int 0])), (x56, .inl (xc28, 64, .inl (fun _ => 0))), (x57, .inr (6, [.ref x58, .int 0])), (x58, .inl (xc29, 64, .inl (fun _ => 0))), (x59, .inr (6, [.ref x60, .int 0])), (x60, .inl (xc30, 64, .inl (fun _ => 0))), (x61, .inr (6, [.ref x62, .int 0])), (x62, .inl (xc31, 64, .inl (fun _ => 0))), (x63, .inr (6, [.ref x64, .int 0])), (x64, .inl (xc32, 64, .inl (fun _ => 0))), (x65, .inr (6, [.ref x66, .int 0])), (x66, .inl (xc33, 64, .inl (fun _ => 0)))]) [0, 1, 2, 3, 4, 5, 6, 7, 8, 9, 10, 11, 12, 13, 14, 15, 16, 17] rfl
  have hDc := hD.sub (ws' := [(x0, .inr (7, [.ref x1, .ref x2, .ref x45, .ref x53, .ref x55, .ref x57, .int 0, .int 0, .int 0])), (x1, .inl (xc0, 4, .inr (.inr (.inr (.inr (va_up (va_up (va_up (va_up (fun _ => none) 0 (some x59)) 1 (some x61)) 2 (some x63)) 3 (some x65))))))), (x2, .inr (5, [.ref x3, .ref x4, .ref x5, .ref x7, .ref x9, .ref x11, .int 0, .int 0])), (x45, .inr (4, [.ref x2, .ref x46, .ref x47, .ref x49, .ref x51, .int 0, .int 0, .int (-2)])), (x53, .inr (6, [.ref x54, .int 0])), (x54, .inl (xc27, 64, .inl (fun _ => 0))), (x55, .inr (6, [.ref x56, .int 0])), (x56, .inl (xc28, 64, .inl (fun _ => 0))), (x57, .inr (6, [.ref x58, .int 0])), (x58, .inl (xc29, 64, .inl (fun _ => 0))), (x59, .inr (6, [.ref x60, .int 0])), (x60, .inl (xc30, 64, .inl (fun _ => 0))), (x61, .inr (6, [.ref x62, .int 0])), (x62, .inl (xc31, 64, .inl (fun _ => 0))), (x63, .inr (6, [.ref x64, .int 0])), (x64, .inl (xc32, 64, .inl (fun _ => 0))), (x65, .inr (6, [.ref x66, .int 0])), (x66, .inl (xc33, 64, .inl (fun _ => 0)))]) [0, 1, 2, 3, 4, 5, 6, 7, 8, 9, 10, 11, 12, 13, 14, 15, 16, 17] (by decide) rfl
  have hKc := hK.sub (tys' := [(xc0, .object "Rewriterope$Text"), (xc27, .byte), (xc28, .byte), (xc29, .byte), (xc30, .byte), (xc31, .byte), (xc32, .byte), (xc33, .byte)]) [0, 1, 2, 3, 4, 5, 6, 7] rfl
  have hFc := va_free (wc := [(x0, .inr (7, [.ref x1, .ref x2, .ref x45, .ref x53, .ref x55, .ref x57, .int 0, .int 0, .int 0])), (x1, .inl (xc0, 4, .inr (.inr (.inr (.inr (va_up (va_up (va_up (va_up (fun _ => none) 0 (some x59)) 1 (some x61)) 2 (some x63)) 3 (some x65))))))), (x2, .inr (5, [.ref x3, .ref x4, .ref x5, .ref x7, .ref x9, .ref x11, .int 0, .int 0])), (x45, .inr (4, [.ref x2, .ref x46, .ref x47, .ref x49, .ref x51, .int 0, .int 0, .int (-2)])), (x53, .inr (6, [.ref x54, .int 0])), (x54, .inl (xc27, 64, .inl (fun _ => 0))), (x55, .inr (6, [.ref x56, .int 0])), (x56, .inl (xc28, 64, .inl (fun _ => 0))), (x57, .inr (6, [.ref x58, .int 0])), (x58, .inl (xc29, 64, .inl (fun _ => 0))), (x59, .inr (6, [.ref x60, .int 0])), (x60, .inl (xc30, 64, .inl (fun _ => 0))), (x61, .inr (6, [.ref x62, .int 0])), (x62, .inl (xc31, 64, .inl (fun _ => 0))), (x63, .inr (6, [.ref x64, .int 0])), (x64, .inl (xc32, 64, .inl (fun _ => 0))), (x65, .inr (6, [.ref x66, .int 0])), (x66, .inl (xc33, 64, .inl (fun _ => 0)))]) hD hS hA [0, 1, 2, 3, 4, 5, 6, 7, 8, 9, 10, 11, 12, 13, 14, 15, 16, 17] rfl
  refine va_calli (va_runV (As := []) (rest := []) ⟨hx, hb, hml, hown, hts⟩ (kx_X3_isSound_0 l dC dI x0 x1 x2 x45 x53 x54 x55 x56 x57 x58 x59 x60 x61 x62 x63 x64 x65 x66 x3 x4 x5 x7 x9 x11 x46 x47 x49 x51 xc0 xc27 xc28 xc29 xc30 xc31 xc32 xc33 H.size) (cwV 0 hts gL_law_X3_isSound rfl rfl rfl (by decide +kernel) ⟨Nat.le_of_ble_eq_true rfl, Nat.le_of_ble_eq_true rfl⟩) ⟨fun a U g mk q => by obtain ⟨q0, q1, qP, qK, qD⟩ := q; exact ⟨q0, q1, qP, va_K.moved (u := U) (U := U.calling g mk a) (Vm.Alike.refl U.vm) qK, qD⟩, va_recv hKc hPc (ci := 7) (q0 := 0) rfl rfl, fun U hU hW => ⟨rfl, by rw [hU], by rw [hU]; exact hPc, va_K.moved hW.alike hKc, hDc.weaken (fun _ _ _ _ => trivial)⟩⟩ rfl rfl hl.1 rfl (lv_room (Nat.le_of_ble_eq_true rfl)) dL_law_2316 ⟨Nat.le_of_ble_eq_true rfl, Nat.le_of_ble_eq_true rfl⟩) hS (fun q _ h => hFc q h) hFc (fun r9 u t H1 locs ht hvm hw hB hz1 hk1 hS => ?_)
  obtain rfl := hw
  obtain ⟨hP1, hK1, hD1⟩ := hB
  rw [ht] at hP1
  have hK1 := va_K.moved hvm.symm hK1
  obtain ⟨hP, hD⟩ := va_join (wr := [(m0, .inr (9, [.int 0, .ref m1, .ref m2, .ref m3, .int 0, .int 0, .int 0]))]) (w1 := [(x0, .inr (7, [.ref x1, .ref x2, .ref x45, .ref x53, .ref x55, .ref x57, .int 0, .int 0, .int 0])), (x1, .inl (xc0, 4, .inr (.inr (.inr (.inr (va_up (va_up (va_up (va_up (fun _ => none) 0 (some x59)) 1 (some x61)) 2 (some x63)) 3 (some x65))))))), (x2, .inr (5, [.ref x3, .ref x4, .ref x5, .ref x7, .ref x9, .ref x11, .int 0, .int 0])), (x45, .inr (4, [.ref x2, .ref x46, .ref x47, .ref x49, .ref x51, .int 0, .int 0, .int (-1)])), (x53, .inr (6, [.ref x54, .int 0])), (x54, .inl (xc27, 64, .inl (fun _ => 0))), (x55, .inr (6, [.ref x56, .int 0])), (x56, .inl (xc28, 64, .inl (fun _ => 0))), (x57, .inr (6, [.ref x58, .int 0])), (x58, .inl (xc29, 64, .inl (fun _ => 0))), (x59, .inr (6, [.ref x60, .int 0])), (x60, .inl (xc30, 64, .inl (fun _ => 0))), (x61, .inr (6, [.ref x62, .int 0])), (x62, .inl (xc31, 64, .inl (fun _ => 0))), (x63, .inr (6, [.ref x64, .int 0])), (x64, .inl (xc32, 64, .inl (fun _ => 0))), (x65, .inr (6, [.ref x66, .int 0])), (x66, .inl (xc33, 64, .inl (fun _ => 0)))]) hP hD [0, 1, 2, 3, 4, 5, 6, 7, 8, 9, 10, 11, 12, 13, 14, 15, 16, 17] [18] rfl rfl (by decide) (by decide) hk1 hFc hP1 hD1
  generalize H1 = H at hP hS ⊢
  have hP : va_P (dC, dI) vwCl [(m0, .inr (9, [.int 0, .ref m1, .ref m2, .ref m3, .int 0, .int 0, .int 0])), (x0, .inr (7, [.ref x1, .ref x2, .ref x45, .ref x53, .ref x55, .ref x57, .int 0, .int 0, .int 0])), (x1, .inl (xc0, 4, .inr (.inr (.inr (.inr (va_up (va_up (va_up (va_up (fun _ => none) 0 (some x59)) 1 (some x61)) 2 (some x63)) 3 (some x65))))))), (x2, .inr (5, [.ref x3, .ref x4, .ref x5, .ref x7, .ref x9, .ref x11, .int 0, .int 0])), (x45, .inr (4, [.ref x2, .ref x46, .ref x47, .ref x49, .ref x51, .int 0, .int 0, .int (-1)])), (x53, .inr (6, [.ref x54, .int 0])), (x54, .inl (xc27, 64, .inl (fun _ => 0))), (x55, .inr (6, [.ref x56, .int 0])), (x56, .inl (xc28, 64, .inl (fun _ => 0))), (x57, .inr (6, [.ref x58, .int 0])), (x58, .inl (xc29, 64, .inl (fun _ => 0))), (x59, .inr (6, [.ref x60, .int 0])), (x60, .inl (xc30, 64, .inl (fun _ => 0))), (x61, .inr (6, [.ref x62, .int 0])), (x62, .inl (xc31, 64, .inl (fun _ => 0))), (x63, .inr (6, [.ref x64, .int 0])), (x64, .inl (xc32, 64, .inl (fun _ => 0))), (x65, .inr (6, [.ref x66, .int 0])), (x66, .inl (xc33, 64, .inl (fun _ => 0)))] H := hP
  have hD : va_D A [(m0, .inr (9, [.int 0, .ref m1, .ref m2, .ref m3, .int 0, .int 0, .int 0])), (x0, .inr (7, [.ref x1, .ref x2, .ref x45, .ref x53, .ref x55, .ref x57, .int 0, .int 0, .int 0])), (x1, .inl (xc0, 4, .inr (.inr (.inr (.inr (va_up (va_up (va_up (va_up (fun _ => none) 0 (some x59)) 1 (some x61)) 2 (some x63)) 3 (some x65))))))), (x2, .inr (5, [.ref x3, .ref x4, .ref x5, .ref x7, .ref x9, .ref x11, .int 0, .int 0])), (x45, .inr (4, [.ref x2, .ref x46, .ref x47, .ref x49, .ref x51, .int 0, .int 0, .int (-1)])), (x53, .inr (6, [.ref x54, .int 0])), (x54, .inl (xc27, 64, .inl (fun _ => 0))), (x55, .inr (6, [.ref x56, .int 0])), (x56, .inl (xc28, 64, .inl (fun _ => 0))), (x57, .inr (6, [.ref x58, .int 0])), (x58, .inl (xc29, 64, .inl (fun _ => 0))), (x59, .inr (6, [.ref x60, .int 0])), (x60, .inl (xc30, 64, .inl (fun _ => 0))), (x61, .inr (6, [.ref x62, .int 0])), (x62, .inl (xc31, 64, .inl (fun _ => 0))), (x63, .inr (6, [.ref x64, .int 0])), (x64, .inl (xc32, 64, .inl (fun _ => 0))), (x65, .inr (6, [.ref x66, .int 0])), (x66, .inl (xc33, 64, .inl (fun _ => 0)))] := hD
  refine lv_aload_n hx hb dL_law_2319 rfl (lv_at hl 2 rfl) ?_
  have hPc := hP.sub (ws' := [(m0, .inr (9, [.int 0, .ref m1, .ref m2, .ref m3, .int 0, .int 0, .int 0]))]) [0] rfl
  have hDc := hD.sub (ws' := [(m0, .inr (9, [.int 0, .ref m1, .ref m2, .ref m3, .int 0, .int 0, .int 0]))]) [0] (by decide) rfl
  have hKc := hK.sub (tys' := []) [] rfl
  have hFc := va_free (wc := [(m0, .inr (9, [.int 0, .ref m1, .ref m2, .ref m3, .int 0, .int 0, .int 0]))]) hD hS hA [0] rfl
  refine va_calli (va_runV (As := []) (rest := [.int 1]) ⟨hx, hb, hml, hown, hts⟩ (kx_X5_isSound_0 l dC dI m0 m1 m2 m3 H.size) (cwV 0 hts gL_law_X5_isSound rfl rfl rfl (by decide +kernel) ⟨Nat.le_of_ble_eq_true rfl, Nat.le_of_ble_eq_true rfl⟩) ⟨fun a U g mk q => by obtain ⟨q0, q1, qP, qK, qD⟩ := q; exact ⟨q0, q1, qP, va_K.moved (u := U) (U := U.calling g mk a) (Vm.Alike.refl U.vm) qK, qD⟩, va_recv hKc hPc (ci := 9) (q0 := 0) rfl rfl, fun U hU hW => ⟨rfl, by rw [hU], by rw [hU]; exact hPc, va_K.moved hW.alike hKc, hDc.weaken (fun _ _ _ _ => trivial)⟩⟩ rfl rfl hl.1 rfl (lv_room (Nat.le_of_ble_eq_true rfl)) dL_law_2320 ⟨Nat.le_of_ble_eq_true rfl, Nat.le_of_ble_eq_true rfl⟩) hS (fun q _ h => hFc q h) hFc (fun r9 u t H1 locs ht hvm hw hB hz1 hk1 hS => ?_)
  obtain rfl := hw
  obtain ⟨hP1, hK1, hD1⟩ := hB
  rw [ht] at hP1
  have hK1 := va_K.moved hvm.symm hK1
  obtain ⟨hP, hD⟩ := va_join (wr := [(x0, .inr (7, [.ref x1, .ref x2, .ref x45, .ref x53, .ref x55, .ref x57, .int 0, .int 0, .int 0])), (x1, .inl (xc0, 4, .inr (.inr (.inr (.inr (va_up (va_up (va_up (va_up (fun _ => none) 0 (some x59)) 1 (some x61)) 2 (some x63)) 3 (some x65))))))), (x2, .inr (5, [.ref x3, .ref x4, .ref x5, .ref x7, .ref x9, .ref x11, .int 0, .int 0])), (x45, .inr (4, [.ref x2, .ref x46, .ref x47, .ref x49, .ref x51, .int 0, .int 0, .int (-1)])), (x53, .inr (6, [.ref x54, .int 0])), (x54, .inl (xc27, 64, .inl (fun _ => 0))), (x55, .inr (6, [.ref x56, .int 0])), (x56, .inl (xc28, 64, .inl (fun _ => 0))), (x57, .inr (6, [.ref x58, .int 0])), (x58, .inl (xc29, 64, .inl (fun _ => 0))), (x59, .inr (6, [.ref x60, .int 0])), (x60, .inl (xc30, 64, .inl (fun _ => 0))), (x61, .inr (6, [.ref x62, .int 0])), (x62, .inl (xc31, 64, .inl (fun _ => 0))), (x63, .inr (6, [.ref x64, .int 0])), (x64, .inl (xc32, 64, .inl (fun _ => 0))), (x65, .inr (6, [.ref x66, .int 0])), (x66, .inl (xc33, 64, .inl (fun _ => 0)))]) (w1 := [(m0, .inr (9, [.int 0, .ref m1, .ref m2, .ref m3, .int 0, .int 0, .int 0]))]) hP hD [0] [1, 2, 3, 4, 5, 6, 7, 8, 9, 10, 11, 12, 13, 14, 15, 16, 17, 18] rfl rfl (by decide) (by decide) hk1 hFc hP1 hD1
  generalize H1 = H at hP hS ⊢
  have hP : va_P (dC, dI) vwCl [(x0, .inr (7, [.ref x1, .ref x2, .ref x45, .ref x53, .ref x55, .ref x57, .int 0, .int 0, .int 0])), (x1, .inl (xc0, 4, .inr (.inr (.inr (.inr (va_up (va_up (va_up (va_up (fun _ => none) 0 (some x59)) 1 (some x61)) 2 (some x63)) 3 (some x65))))))), (x2, .inr (5, [.ref x3, .ref x4, .ref x5, .ref x7, .ref x9, .ref x11, .int 0, .int 0])), (x45, .inr (4, [.ref x2, .ref x46, .ref x47, .ref x49, .ref x51, .int 0, .int 0, .int (-1)])), (x53, .inr (6, [.ref x54, .int 0])), (x54, .inl (xc27, 64, .inl (fun _ => 0))), (x55, .inr (6, [.ref x56, .int 0])), (x56, .inl (xc28, 64, .inl (fun _ => 0))), (x57, .inr (6, [.ref x58, .int 0])), (x58, .inl (xc29, 64, .inl (fun _ => 0))), (x59, .inr (6, [.ref x60, .int 0])), (x60, .inl (xc30, 64, .inl (fun _ => 0))), (x61, .inr (6, [.ref x62, .int 0])), (x62, .inl (xc31, 64, .inl (fun _ => 0))), (x63, .inr (6, [.ref x64, .int 0])), (x64, .inl (xc32, 64, .inl (fun _ => 0))), (x65, .inr (6, [.ref x66, .int 0])), (x66, .inl (xc33, 64, .inl (fun _ => 0))), (m0, .inr (9, [.int 0, .ref m1, .ref m2, .ref m3, .int 0, .int 0, .int 0]))] H := hP
  have hD : va_D A [(x0, .inr (7, [.ref x1, .ref x2, .ref x45, .ref x53, .ref x55, .ref x57, .int 0, .int 0, .int 0])), (x1, .inl (xc0, 4, .inr (.inr (.inr (.inr (va_up (va_up (va_up (va_up (fun _ => none) 0 (some x59)) 1 (some x61)) 2 (some x63)) 3 (some x65))))))), (x2, .inr (5, [.ref x3, .ref x4, .ref x5, .ref x7, .ref x9, .ref x11, .int 0, .int 0])), (x45, .inr (4, [.ref x2, .ref x46, .ref x47, .ref x49, .ref x51, .int 0, .int 0, .int (-1)])), (x53, .inr (6, [.ref x54, .int 0])), (x54, .inl (xc27, 64, .inl (fun _ => 0))), (x55, .inr (6, [.ref x56, .int 0])), (x56, .inl (xc28, 64, .inl (fun _ => 0))), (x57, .inr (6, [.ref x58, .int 0])), (x58, .inl (xc29, 64, .inl (fun _ => 0))), (x59, .inr (6, [.ref x60, .int 0])), (x60, .inl (xc30, 64, .inl (fun _ => 0))), (x61, .inr (6, [.ref x62, .int 0])), (x62, .inl (xc31, 64, .inl (fun _ => 0))), (x63, .inr (6, [.ref x64, .int 0])), (x64, .inl (xc32, 64, .inl (fun _ => 0))), (x65, .inr (6, [.ref x66, .int 0])), (x66, .inl (xc33, 64, .inl (fun _ => 0))), (m0, .inr (9, [.int 0, .ref m1, .ref m2, .ref m3, .int 0, .int 0, .int 0]))] := hD
  refine lv_icmp_eq (tgt := 2342) hx hb dL_law_2323 (by decide) (fun _ => ?_) (fun c9 => absurd (by decide) c9)
  refine lv_iinc (v := 7) (lv' := [(4, .int 7), (3, .ref o0), (2, .ref m0), (1, .ref x0), (0, .ref b)]) hx hb dL_law_2342 hl (k := 0) rfl (by decide) (by decide) rfl (fun ls hl => ?_)
  refine lv_goto (tgt := 27) hx hb dL_law_2345 (by decide) ?_
  refine lv_iload hx hb dL_law_27 (lv_at hl 0 rfl) ?_
  refine lv_aload_n hx hb dL_law_29 rfl (lv_at hl 4 rfl) ?_
  refine va_slen hx hb hX hbl hbA hS dL_law_30 ?_
  refine lv_topi (fun y1 ey1 => ?_)
  obtain rfl : y1 = 7 := ey1.trans (by decide)
  refine lv_bipush (v := 7) hx hb dL_law_31 (by decide) ?_
  refine lv_isub hx hb dL_law_33 ?_
  refine lv_topi (fun y2 ey2 => ?_)
  obtain rfl : y2 = 0 := ey2.trans (by decide)
  refine lv_icmp_gt (tgt := 2348) hx hb dL_law_34 (by decide) (fun _ => ?_) (fun c9 => absurd (by decide) c9)
  refine lv_iconst (v := 1) hx hb dL_law_2348 (by decide) ?_
  refine va_forget (fun q hq => (by have h := hS.2.2 q hq; rw [hAe] at h; exact h)) ?_
  refine W.widen (k := 600002) (n := 7302232) (Nat.le_of_ble_eq_true rfl) (Nat.le_of_ble_eq_true rfl) ?_
  exact lw_ret hx hb hr hlocks dL_law_2349
set_option maxHeartbeats 4000000 in
set_option maxRecDepth 100000 in
theorem lc_digest_0 {p : Program} {e : Env} {s : State} {m : MethodId} {below : List Frame} {meth : Method} {c : Code} {l : Launch} (hst : l.stackTraces = false) {b : Nat} {xs : Nat → Int32} (C9 : lx_At p s m meth c b xs) {dC : Nat → ClassId} {dI : Nat → Nat → Nat} {ge5 gea gv5 gva gde gic gi0 : Nat} {x0 x1 x2 x45 x53 x54 x55 x56 x57 x58 x59 x60 x61 x62 x63 x64 x65 x66 m0 m1 m2 x3 x4 x5 x7 x9 x11 x46 x47 x49 x51 m3 o0 : Nat} {xc0 xc27 xc28 xc29 xc30 xc31 xc32 xc33 mc0 : ClassId} (hG : gv ge5 gea gv5 gva gde gic gi0 (fun q => s.heap.size ≤ q) s s.heap) {H : Heap} {locs : List Loc} (hK : va_K (dC, dI) vwCl [(xc0, .object "Rewriterope$Text"), (xc27, .byte), (xc28, .byte), (xc29, .byte), (xc30, .byte), (xc31, .byte), (xc32, .byte), (xc33, .byte), (mc0, .object "java/lang/String")] s) (hP : va_P (dC, dI) vwCl [(x0, .inr (7, [.ref x1, .ref x2, .ref x45, .ref x53, .ref x55, .ref x57, .int 0, .int 0, .int 0])), (x1, .inl (xc0, 4, .inr (.inr (.inr (.inr (va_up (va_up (va_up (va_up (fun _ => none) 0 (some x59)) 1 (some x61)) 2 (some x63)) 3 (some x65))))))), (x2, .inr (5, [.ref x3, .ref x4, .ref x5, .ref x7, .ref x9, .ref x11, .int 0, .int 0])), (x45, .inr (4, [.ref x2, .ref x46, .ref x47, .ref x49, .ref x51, .int 0, .int 0, .int (-2)])), (x53, .inr (6, [.ref x54, .int 0])), (x54, .inl (xc27, 64, .inl (fun _ => 0))), (x55, .inr (6, [.ref x56, .int 0])), (x56, .inl (xc28, 64, .inl (fun _ => 0))), (x57, .inr (6, [.ref x58, .int 0])), (x58, .inl (xc29, 64, .inl (fun _ => 0))), (x59, .inr (6, [.ref x60, .int 0])), (x60, .inl (xc30, 64, .inl (fun _ => 0))), (x61, .inr (6, [.ref x62, .int 0])), (x62, .inl (xc31, 64, .inl (fun _ => 0))), (x63, .inr (6, [.ref x64, .int 0])), (x64, .inl (xc32, 64, .inl (fun _ => 0))), (x65, .inr (6, [.ref x66, .int 0])), (x66, .inl (xc33, 64, .inl (fun _ => 0))), (m0, .inr (9, [.int 0, .ref m1, .ref m2, .ref m3, .int 0, .int 0, .int 0])), (m1, .inl (mc0, 4, .inr (.inr (.inr (.inr (va_up (va_up (va_up (va_up (fun _ => none) 0 (some ge5)) 1 (some ge5)) 2 (some ge5)) 3 (some ge5))))))), (m2, .inr (3, [.int 0, .ref gde, .int 0]))] H) (hD : va_D (fun q => s.heap.size ≤ q) [(x0, .inr (7, [.ref x1, .ref x2, .ref x45, .ref x53, .ref x55, .ref x57, .int 0, .int 0, .int 0])), (x1, .inl (xc0, 4, .inr (.inr (.inr (.inr (va_up (va_up (va_up (va_up (fun _ => none) 0 (some x59)) 1 (some x61)) 2 (some x63)) 3 (some x65))))))), (x2, .inr (5, [.ref x3, .ref x4, .ref x5, .ref x7, .ref x9, .ref x11, .int 0, .int 0])), (x45, .inr (4, [.ref x2, .ref x46, .ref x47, .ref x49, .ref x51, .int 0, .int 0, .int (-2)])), (x53, .inr (6, [.ref x54, .int 0])), (x54, .inl (xc27, 64, .inl (fun _ => 0))), (x55, .inr (6, [.ref x56, .int 0])), (x56, .inl (xc28, 64, .inl (fun _ => 0))), (x57, .inr (6, [.ref x58, .int 0])), (x58, .inl (xc29, 64, .inl (fun _ => 0))), (x59, .inr (6, [.ref x60, .int 0])), (x60, .inl (xc30, 64, .inl (fun _ => 0))), (x61, .inr (6, [.ref x62, .int 0])), (x62, .inl (xc31, 64, .inl (fun _ => 0))), (x63, .inr (6, [.ref x64, .int 0])), (x64, .inl (xc32, 64, .inl (fun _ => 0))), (x65, .inr (6, [.ref x66, .int 0])), (x66, .inl (xc33, 64, .inl (fun _ => 0))), (m0, .inr (9, [.int 0, .ref m1, .ref m2, .ref m3, .int 0, .int 0, .int 0])), (m1, .inl (mc0, 4, .inr (.inr (.inr (.inr (va_up (va_up (va_up (va_up (fun _ => none) 0 (some ge5)) 1 (some ge5)) 2 (some ge5)) 3 (some ge5))))))), (m2, .inr (3, [.int 0, .ref gde, .int 0]))]) (hS : va_S (fun q => s.heap.size ≤ q) s.heap H locs) {ls : Array Slot} (hl : lv_has ls 7 [(4, .int 0), (3, .ref o0), (2, .ref m0), (1, .ref x0), (0, .ref b)]) : W p l e room_1 s m #[Value.ref b] below meth c H locs 72 2748 (lw_Z below #[Value.ref b] s) (F0 m 2328 ls []) := by
  obtain ⟨hx, hb, hr, hml, hown, hts, hX, hbl, hlocks⟩ := id C9
  have hA : ∀ q : Nat, s.heap.size ≤ q → (fun q : Nat => s.heap.size ≤ q) q := fun _ h => h
  have hbA : ¬ (fun q : Nat => s.heap.size ≤ q) b := Nat.not_le.mpr hbl
  obtain ⟨A, hAe⟩ : ∃ A : Nat → Prop, A = (fun q : Nat => s.heap.size ≤ q) := ⟨_, rfl⟩
  rw [← hAe] at hG hD hS hA hbA
  obtain ⟨⟨g_AO_Text, g_AO_String, g_AO_Object, g_nm_RX1_20, g_nm_RX0_17, g_nm_RX3_31, g_nm_RX2_44, g_nm_RL_121, g_nf_RL_13, g_nf_RL_47, g_ca_IO, g_ca_IA, g_ca_IS, g_ca_IntObj, g_ca_StrObj, g_de_RT, g_de_EX, g_de_TH, g_nc_IA_IO, g_nc_IS_IO, g_nc_IS_IA⟩, ⟨g_s3, g_s5, g_sa, g_x278, g_x280, g_x282, g_x284, g_x286, g_x180, g_x238, g_x250⟩, ⟨g_o5, g_c5, g_v5, g_t5, g_oa, g_ca, g_va, g_ta, g_zc, g_zd, g_td, g_zf, g_zU, g_zN, g_zh, g_zk, g_tk, g_oi, g_vi⟩⟩ := id hG
  refine lv_aload_n hx hb dL_law_2328 rfl (lv_at hl 3 rfl) ?_
  have hPc := hP.sub (ws' := [(x0, .inr (7, [.ref x1, .ref x2, .ref x45, .ref x53, .ref x55, .ref x57, .int 0, .int 0, .int 0])), (x1, .inl (xc0, 4, .inr (.inr (.inr (.inr (va_up (va_up (va_up (va_up (fun _ => none) 0 (some x59)) 1 (some x61)) 2 (some x63)) 3 (some x65))))))), (x2, .inr (5, [.ref x3, .ref x4, .ref x5, .ref x7, .ref x9, .ref x11, .int 0, .int 0])), (x45, .inr (4, [.ref x2, .ref x46, .ref x47, .ref x49, .ref x51, .int 0, .int 0, .int (-2)])), (x53, .inr (6, [.ref x54, .int 0])), (x54, .inl (xc27, 64, .inl (fun _ => 0))), (x55, .inr (6, [.ref x56, .int 0])), (x56, .inl (xc28, 64, .inl (fun _ => 0))), (x57, .inr (6, [.ref x58, .int 0])), (x58, .inl (xc29, 64, .inl (fun _ => 0))), (x59, .inr (6, [.ref x60, .int 0])), (x60, .inl (xc30, 64, .inl (fun _ => 0))), (x61, .inr (6, [.ref x62, .int 0])), (x62, .inl (xc31, 64, .inl (fun _ => 0))), (x63, .inr (6, [.ref x64, .int 0])), (x64, .inl (xc32, 64, .inl (fun _ => 0))), (x65, .inr (6, [.ref x66, .int 0])), (x66, .inl (xc33, 64, .inl (fun _ => 0)))]) [0, 1, 2, 3, 4, 5, 6, 7, 8, 9, 10, 11, 12, 13, 14, 15, 16, 17] rfl
  have hDc := hD.sub (ws' := [(x0, .inr (7, [.ref x1, .ref x2, .ref x45, .ref x53, .ref x55, .ref x57, .int 0, .int 0, .int 0])), (x1, .inl (xc0, 4, .inr (.inr (.inr (.inr (va_up (va_up (va_up (va_up (fun _ => none) 0 (some x59)) 1 (some x61)) 2 (some x63)) 3 (some x65))))))), (x2, .inr (5, [.ref x3, .ref x4, .ref x5, .ref x7, .ref x9, .ref x11, .int 0, .int 0])), (x45, .inr (4, [.ref x2, .ref x46, .ref x47, .ref x49, .ref x51, .int 0, .int 0, .int (-2)])), (x53, .inr (6, [.ref x54, .int 0])), (x54, .inl (xc27, 64, .inl (fun _ => 0))), (x55, .inr (6, [.ref x56, .int 0])), (x56, .inl (xc28, 64, .inl (fun _ => 0))), (x57, .inr (6, [.ref x58, .int 0])), (x58, .inl (xc29, 64, .inl (fun _ => 0))), (x59, .inr (6, [.ref x60, .int 0])), (x60, .inl (xc30, 64, .inl (fun _ => 0))), (x61, .inr (6, [.ref x62, .int 0])), (x62, .inl (xc31, 64, .inl (fun _ => 0))), (x63, .inr (6, [.ref x64, .int 0])), (x64, .inl (xc32, 64, .inl (fun _ => 0))), (x65, .inr (6, [.ref x66, .int 0])), (x66, .inl (xc33, 64, .inl (fun _ => 0)))]) [0, 1, 2, 3, 4, 5, 6, 7, 8, 9, 10, 11, 12, 13, 14, 15, 16, 17] (by decide) rfl
  have hKc := hK.sub (tys' := [(xc0, .object "Rewriterope$Text"), (xc27, .byte), (xc28, .byte), (xc29, .byte), (xc30, .byte), (xc31, .byte), (xc32, .byte), (xc33, .byte)]) [0, 1, 2, 3, 4, 5, 6, 7] rfl
  have hFc := va_free (wc := [(x0, .inr (7, [.ref x1, .ref x2, .ref x45, .ref x53, .ref x55, .ref x57, .int 0, .int 0, .int 0])), (x1, .inl (xc0, 4, .inr (.inr (.inr (.inr (va_up (va_up (va_up (va_up (fun _ => none) 0 (some x59)) 1 (some x61)) 2 (some x63)) 3 (some x65))))))), (x2, .inr (5, [.ref x3, .ref x4, .ref x5, .ref x7, .ref x9, .ref x11, .int 0, .int 0])), (x45, .inr (4, [.ref x2, .ref x46, .ref x47, .ref x49, .ref x51, .int 0, .int 0, .int (-2)])), (x53, .inr (6, [.ref x54, .int 0])), (x54, .inl (xc27, 64, .inl (fun _ => 0))), (x55, .inr (6, [.ref x56, .int 0])), (x56, .inl (xc28, 64, .inl (fun _ => 0))), (x57, .inr (6, [.ref x58, .int 0])), (x58, .inl (xc29, 64, .inl (fun _ => 0))), (x59, .inr (6, [.ref x60, .int 0])), (x60, .inl (xc30, 64, .inl (fun _ => 0))), (x61, .inr (6, [.ref x62, .int 0])), (x62, .inl (xc31, 64, .inl (fun _ => 0))), (x63, .inr (6, [.ref x64, .int 0])), (x64, .inl (xc32, 64, .inl (fun _ => 0))), (x65, .inr (6, [.ref x66, .int 0])), (x66, .inl (xc33, 64, .inl (fun _ => 0)))]) hD hS hA [0, 1, 2, 3, 4, 5, 6, 7, 8, 9, 10, 11, 12, 13, 14, 15, 16, 17] rfl
  refine va_calll (va_runV (As := []) (rest := []) ⟨hx, hb, hml, hown, hts⟩ (kx_X3_digest_0 l dC dI x0 x1 x2 x45 x53 x54 x55 x56 x57 x58 x59 x60 x61 x62 x63 x64 x65 x66 x3 x4 x5 x7 x9 x11 x46 x47 x49 x51 xc0 xc27 xc28 xc29 xc30 xc31 xc32 xc33 H.size) (cwV 0 hts gL_law_X3_digest rfl rfl rfl (by decide +kernel) ⟨Nat.le_of_ble_eq_true rfl, Nat.le_of_ble_eq_true rfl⟩) ⟨fun a U g mk q => by obtain ⟨q0, q1, qP, qK, qD⟩ := q; exact ⟨q0, q1, qP, va_K.moved (u := U) (U := U.calling g mk a) (Vm.Alike.refl U.vm) qK, qD⟩, va_recv hKc hPc (ci := 7) (q0 := 0) rfl rfl, fun U hU hW => ⟨rfl, by rw [hU], by rw [hU]; exact hPc, va_K.moved hW.alike hKc, hDc.weaken (fun _ _ _ _ => trivial)⟩⟩ rfl rfl hl.1 rfl (lv_room (Nat.le_of_ble_eq_true rfl)) dL_law_2329 ⟨Nat.le_of_ble_eq_true rfl, Nat.le_of_ble_eq_true rfl⟩) hS (fun q _ h => hFc q h) hFc (fun r9 u t H1 locs ht hvm hw hB hz1 hk1 hS => ?_)
  obtain rfl := hw
  obtain ⟨hP1, hK1, hD1⟩ := hB
  rw [ht] at hP1
  have hK1 := va_K.moved hvm.symm hK1
  obtain ⟨hP, hD⟩ := va_join (wr := [(m0, .inr (9, [.int 0, .ref m1, .ref m2, .ref m3, .int 0, .int 0, .int 0])), (m1, .inl (mc0, 4, .inr (.inr (.inr (.inr (va_up (va_up (va_up (va_up (fun _ => none) 0 (some ge5)) 1 (some ge5)) 2 (some ge5)) 3 (some ge5))))))), (m2, .inr (3, [.int 0, .ref gde, .int 0]))]) (w1 := [(x0, .inr (7, [.ref x1, .ref x2, .ref x45, .ref x53, .ref x55, .ref x57, .int 0, .int 0, .int 0])), (x1, .inl (xc0, 4, .inr (.inr (.inr (.inr (va_up (va_up (va_up (va_up (fun _ => none) 0 (some x59)) 1 (some x61)) 2 (some x63)) 3 (some x65))))))), (x2, .inr (5, [.ref x3, .ref x4, .ref x5, .ref x7, .ref x9, .ref x11, .int 0, .int 0])), (x45, .inr (4, [.ref x2, .ref x46, .ref x47, .ref x49, .ref x51, .int 0, .int 0, .int (-1)])), (x53, .inr (6, [.ref x54, .int 0])), (x54, .inl (xc27, 64, .inl (fun _ => 0))), (x55, .inr (6, [.ref x56, .int 0])), (x56, .inl (xc28, 64, .inl (fun _ => 0))), (x57, .inr (6, [.ref x58, .int 0])), (x58, .inl (xc29, 64, .inl (fun _ => 0))), (x59, .inr (6, [.ref x60, .int 0])), (x60, .inl (xc30, 64, .inl (fun _ => 0))), (x61, .inr (6, [.ref x62, .int 0])), (x62, .inl (xc31, 64, .inl (fun _ => 0))), (x63, .inr (6, [.ref x64, .int 0])), (x64, .inl (xc32, 64, .inl (fun _ => 0))), (x65, .inr (6, [.ref x66, .int 0])), (x66, .inl (xc33, 64, .inl (fun _ => 0)))]) hP hD [0, 1, 2, 3, 4, 5, 6, 7, 8, 9, 10, 11, 12, 13, 14, 15, 16, 17] [18, 19, 20] rfl rfl (by decide) (by decide) hk1 hFc hP1 hD1
  generalize H1 = H at hP hS ⊢
  have hP : va_P (dC, dI) vwCl [(m0, .inr (9, [.int 0, .ref m1, .ref m2, .ref m3, .int 0, .int 0, .int 0])), (m1, .inl (mc0, 4, .inr (.inr (.inr (.inr (va_up (va_up (va_up (va_up (fun _ => none) 0 (some ge5)) 1 (some ge5)) 2 (some ge5)) 3 (some ge5))))))), (m2, .inr (3, [.int 0, .ref gde, .int 0])), (x0, .inr (7, [.ref x1, .ref x2, .ref x45, .ref x53, .ref x55, .ref x57, .int 0, .int 0, .int 0])), (x1, .inl (xc0, 4, .inr (.inr (.inr (.inr (va_up (va_up (va_up (va_up (fun _ => none) 0 (some x59)) 1 (some x61)) 2 (some x63)) 3 (some x65))))))), (x2, .inr (5, [.ref x3, .ref x4, .ref x5, .ref x7, .ref x9, .ref x11, .int 0, .int 0])), (x45, .inr (4, [.ref x2, .ref x46, .ref x47, .ref x49, .ref x51, .int 0, .int 0, .int (-1)])), (x53, .inr (6, [.ref x54, .int 0])), (x54, .inl (xc27, 64, .inl (fun _ => 0))), (x55, .inr (6, [.ref x56, .int 0])), (x56, .inl (xc28, 64, .inl (fun _ => 0))), (x57, .inr (6, [.ref x58, .int 0])), (x58, .inl (xc29, 64, .inl (fun _ => 0))), (x59, .inr (6, [.ref x60, .int 0])), (x60, .inl (xc30, 64, .inl (fun _ => 0))), (x61, .inr (6, [.ref x62, .int 0])), (x62, .inl (xc31, 64, .inl (fun _ => 0))), (x63, .inr (6, [.ref x64, .int 0])), (x64, .inl (xc32, 64, .inl (fun _ => 0))), (x65, .inr (6, [.ref x66, .int 0])), (x66, .inl (xc33, 64, .inl (fun _ => 0)))] H := hP
  have hD : va_D A [(m0, .inr (9, [.int 0, .ref m1, .ref m2, .ref m3, .int 0, .int 0, .int 0])), (m1, .inl (mc0, 4, .inr (.inr (.inr (.inr (va_up (va_up (va_up (va_up (fun _ => none) 0 (some ge5)) 1 (some ge5)) 2 (some ge5)) 3 (some ge5))))))), (m2, .inr (3, [.int 0, .ref gde, .int 0])), (x0, .inr (7, [.ref x1, .ref x2, .ref x45, .ref x53, .ref x55, .ref x57, .int 0, .int 0, .int 0])), (x1, .inl (xc0, 4, .inr (.inr (.inr (.inr (va_up (va_up (va_up (va_up (fun _ => none) 0 (some x59)) 1 (some x61)) 2 (some x63)) 3 (some x65))))))), (x2, .inr (5, [.ref x3, .ref x4, .ref x5, .ref x7, .ref x9, .ref x11, .int 0, .int 0])), (x45, .inr (4, [.ref x2, .ref x46, .ref x47, .ref x49, .ref x51, .int 0, .int 0, .int (-1)])), (x53, .inr (6, [.ref x54, .int 0])), (x54, .inl (xc27, 64, .inl (fun _ => 0))), (x55, .inr (6, [.ref x56, .int 0])), (x56, .inl (xc28, 64, .inl (fun _ => 0))), (x57, .inr (6, [.ref x58, .int 0])), (x58, .inl (xc29, 64, .inl (fun _ => 0))), (x59, .inr (6, [.ref x60, .int 0])), (x60, .inl (xc30, 64, .inl (fun _ => 0))), (x61, .inr (6, [.ref x62, .int 0])), (x62, .inl (xc31, 64, .inl (fun _ => 0))), (x63, .inr (6, [.ref x64, .int 0])), (x64, .inl (xc32, 64, .inl (fun _ => 0))), (x65, .inr (6, [.ref x66, .int 0])), (x66, .inl (xc33, 64, .inl (fun _ => 0)))] := hD
  refine lv_aload_n hx hb dL_law_2332 rfl (lv_at hl 2 rfl) ?_
  have hPc := hP.sub (ws' := [(m0, .inr (9, [.int 0, .ref m1, .ref m2, .ref m3, .int 0, .int 0, .int 0])), (m1, .inl (mc0, 4, .inr (.inr (.inr (.inr (va_up (va_up (va_up (va_up (fun _ => none) 0 (some ge5)) 1 (some ge5)) 2 (some ge5)) 3 (some ge5))))))), (m2, .inr (3, [.int 0, .ref gde, .int 0]))]) [0, 1, 2] rfl
  have hDc := hD.sub (ws' := [(m0, .inr (9, [.int 0, .ref m1, .ref m2, .ref m3, .int 0, .int 0, .int 0])), (m1, .inl (mc0, 4, .inr (.inr (.inr (.inr (va_up (va_up (va_up (va_up (fun _ => none) 0 (some ge5)) 1 (some ge5)) 2 (some ge5)) 3 (some ge5))))))), (m2, .inr (3, [.int 0, .ref gde, .int 0]))]) [0, 1, 2] (by decide) rfl
  have hKc := hK.sub (tys' := [(mc0, .object "java/lang/String")]) [8] rfl
  have hFc := va_free (wc := [(m0, .inr (9, [.int 0, .ref m1, .ref m2, .ref m3, .int 0, .int 0, .int 0])), (m1, .inl (mc0, 4, .inr (.inr (.inr (.inr (va_up (va_up (va_up (va_up (fun _ => none) 0 (some ge5)) 1 (some ge5)) 2 (some ge5)) 3 (some ge5))))))), (m2, .inr (3, [.int 0, .ref gde, .int 0]))]) hD hS hA [0, 1, 2] rfl
  refine va_calll (va_runV (As := []) (rest := [.long 1130599696050212968]) ⟨hx, hb, hml, hown, hts⟩ (kx_X5_digest_0 l dC dI ge5 gea gv5 gva gde gic gi0 m0 m1 m2 m3 mc0 H.size) (cwV 0 hts gL_law_X5_digest rfl rfl rfl (by decide +kernel) ⟨Nat.le_of_ble_eq_true rfl, Nat.le_of_ble_eq_true rfl⟩) ⟨fun a U g mk q => by obtain ⟨q0, q1, qP, qK, qD, qG⟩ := q; exact ⟨q0, q1, qP, va_K.moved (u := U) (U := U.calling g mk a) (Vm.Alike.refl U.vm) qK, qD, gv.fb qG⟩, va_recv hKc hPc (ci := 9) (q0 := 0) rfl rfl, fun U hU hW => ⟨rfl, by rw [hU], by rw [hU]; exact hPc, va_K.moved hW.alike hKc, hDc.weaken (fun _ _ _ _ => trivial), gv.pass hW hU hS hFc hG⟩⟩ rfl rfl hl.1 rfl (lv_room (Nat.le_of_ble_eq_true rfl)) dL_law_2333 ⟨Nat.le_of_ble_eq_true rfl, Nat.le_of_ble_eq_true rfl⟩) hS (fun q _ h => hFc q h) hFc (fun r9 u t H1 locs ht hvm hw hB hz1 hk1 hS => ?_)
  obtain rfl := hw
  obtain ⟨q1, q2, q3, q4, q5, q6, q7, q8, q9, q10, q11, q12, q13, q14, cq15, cq16, cq17, cq18, cq19, cq20, cq21, cq22, hP1, hK1, hD1⟩ := hB
  rw [ht] at hP1
  have hK1 := va_K.moved hvm.symm hK1
  obtain ⟨hP, hD⟩ := va_join (wr := [(x0, .inr (7, [.ref x1, .ref x2, .ref x45, .ref x53, .ref x55, .ref x57, .int 0, .int 0, .int 0])), (x1, .inl (xc0, 4, .inr (.inr (.inr (.inr (va_up (va_up (va_up (va_up (fun _ => none) 0 (some x59)) 1 (some x61)) 2 (some x63)) 3 (some x65))))))), (x2, .inr (5, [.ref x3, .ref x4, .ref x5, .ref x7, .ref x9, .ref x11, .int 0, .int 0])), (x45, .inr (4, [.ref x2, .ref x46, .ref x47, .ref x49, .ref x51, .int 0, .int 0, .int (-1)])), (x53, .inr (6, [.ref x54, .int 0])), (x54, .inl (xc27, 64, .inl (fun _ => 0))), (x55, .inr (6, [.ref x56, .int 0])), (x56, .inl (xc28, 64, .inl (fun _ => 0))), (x57, .inr (6, [.ref x58, .int 0])), (x58, .inl (xc29, 64, .inl (fun _ => 0))), (x59, .inr (6, [.ref x60, .int 0])), (x60, .inl (xc30, 64, .inl (fun _ => 0))), (x61, .inr (6, [.ref x62, .int 0])), (x62, .inl (xc31, 64, .inl (fun _ => 0))), (x63, .inr (6, [.ref x64, .int 0])), (x64, .inl (xc32, 64, .inl (fun _ => 0))), (x65, .inr (6, [.ref x66, .int 0])), (x66, .inl (xc33, 64, .inl (fun _ => 0)))]) (w1 := [(m0, .inr (9, [.int 0, .ref m1, .ref m2, .ref m3, .int 0, .int 0, .int 0]))]) hP hD [0, 1, 2] [3, 4, 5, 6, 7, 8, 9, 10, 11, 12, 13, 14, 15, 16, 17, 18, 19, 20] rfl rfl (by decide) (by decide) hk1 hFc hP1 hD1
  have hK := hK.app (hK1.sub (tys' := [(cq15, .int), (cq16, .int), (cq17, .int), (cq18, .int), (cq19, .int), (cq20, .int), (cq21, .int), (cq22, .int)]) [1, 2, 3, 4, 5, 6, 7, 8] rfl)
  generalize H1 = H at hP hS ⊢
  have hK : va_K (dC, dI) vwCl [(xc0, .object "Rewriterope$Text"), (xc27, .byte), (xc28, .byte), (xc29, .byte), (xc30, .byte), (xc31, .byte), (xc32, .byte), (xc33, .byte), (mc0, .object "java/lang/String"), (cq15, .int), (cq16, .int), (cq17, .int), (cq18, .int), (cq19, .int), (cq20, .int), (cq21, .int), (cq22, .int)] s := hK
  have hP : va_P (dC, dI) vwCl [(x0, .inr (7, [.ref x1, .ref x2, .ref x45, .ref x53, .ref x55, .ref x57, .int 0, .int 0, .int 0])), (x1, .inl (xc0, 4, .inr (.inr (.inr (.inr (va_up (va_up (va_up (va_up (fun _ => none) 0 (some x59)) 1 (some x61)) 2 (some x63)) 3 (some x65))))))), (x2, .inr (5, [.ref x3, .ref x4, .ref x5, .ref x7, .ref x9, .ref x11, .int 0, .int 0])), (x45, .inr (4, [.ref x2, .ref x46, .ref x47, .ref x49, .ref x51, .int 0, .int 0, .int (-1)])), (x53, .inr (6, [.ref x54, .int 0])), (x54, .inl (xc27, 64, .inl (fun _ => 0))), (x55, .inr (6, [.ref x56, .int 0])), (x56, .inl (xc28, 64, .inl (fun _ => 0))), (x57, .inr (6, [.ref x58, .int 0])), (x58, .inl (xc29, 64, .inl (fun _ => 0))), (x59, .inr (6, [.ref x60, .int 0])), (x60, .inl (xc30, 64, .inl (fun _ => 0))), (x61, .inr (6, [.ref x62, .int 0])), (x62, .inl (xc31, 64, .inl (fun _ => 0))), (x63, .inr (6, [.ref x64, .int 0])), (x64, .inl (xc32, 64, .inl (fun _ => 0))), (x65, .inr (6, [.ref x66, .int 0])), (x66, .inl (xc33, 64, .inl (fun _ => 0))), (m0, .inr (9, [.int 0, .ref m1, .ref m2, .ref m3, .int 0, .int 0, .int 0]))] H := hP
  have hD : va_D A [(x0, .inr (7, [.ref x1, .ref x2, .ref x45, .ref x53, .ref x55, .ref x57, .int 0, .int 0, .int 0])), (x1, .inl (xc0, 4, .inr (.inr (.inr (.inr (va_up (va_up (va_up (va_up (fun _ => none) 0 (some x59)) 1 (some x61)) 2 (some x63)) 3 (some x65))))))), (x2, .inr (5, [.ref x3, .ref x4, .ref x5, .ref x7, .ref x9, .ref x11, .int 0, .int 0])), (x45, .inr (4, [.ref x2, .ref x46, .ref x47, .ref x49, .ref x51, .int 0, .int 0, .int (-1)])), (x53, .inr (6, [.ref x54, .int 0])), (x54, .inl (xc27, 64, .inl (fun _ => 0))), (x55, .inr (6, [.ref x56, .int 0])), (x56, .inl (xc28, 64, .inl (fun _ => 0))), (x57, .inr (6, [.ref x58, .int 0])), (x58, .inl (xc29, 64, .inl (fun _ => 0))), (x59, .inr (6, [.ref x60, .int 0])), (x60, .inl (xc30, 64, .inl (fun _ => 0))), (x61, .inr (6, [.ref x62, .int 0])), (x62, .inl (xc31, 64, .inl (fun _ => 0))), (x63, .inr (6, [.ref x64, .int 0])), (x64, .inl (xc32, 64, .inl (fun _ => 0))), (x65, .inr (6, [.ref x66, .int 0])), (x66, .inl (xc33, 64, .inl (fun _ => 0))), (m0, .inr (9, [.int 0, .ref m1, .ref m2, .ref m3, .int 0, .int 0, .int 0]))] := hD
  refine W.widen (k := 86) (n := 2786) (by omega) (by omega) ?_
  refine W.lcmp hx hb dL_law_2336 ?_
  refine lv_topi (fun y23 ey23 => ?_)
  obtain rfl : y23 = 0 := ey23.trans (by decide)
  refine lv_if_eq (tgt := 2342) hx hb dL_law_2337 (by decide) (fun _ => ?_) (fun c9 => absurd (by decide) c9)
  refine lv_iinc (v := 7) (lv' := [(4, .int 7), (3, .ref o0), (2, .ref m0), (1, .ref x0), (0, .ref b)]) hx hb dL_law_2342 hl (k := 0) rfl (by decide) (by decide) rfl (fun ls hl => ?_)
  refine lv_goto (tgt := 27) hx hb dL_law_2345 (by decide) ?_
  refine lv_iload hx hb dL_law_27 (lv_at hl 0 rfl) ?_
  refine lv_aload_n hx hb dL_law_29 rfl (lv_at hl 4 rfl) ?_
  refine va_slen hx hb hX hbl hbA hS dL_law_30 ?_
  refine lv_topi (fun y24 ey24 => ?_)
  obtain rfl : y24 = 7 := ey24.trans (by decide)
  refine lv_bipush (v := 7) hx hb dL_law_31 (by decide) ?_
  refine lv_isub hx hb dL_law_33 ?_
  refine lv_topi (fun y25 ey25 => ?_)
  obtain rfl : y25 = 0 := ey25.trans (by decide)
  refine lv_icmp_gt (tgt := 2348) hx hb dL_law_34 (by decide) (fun _ => ?_) (fun c9 => absurd (by decide) c9)
  refine lv_iconst (v := 1) hx hb dL_law_2348 (by decide) ?_
  refine va_forget (fun q hq => (by have h := hS.2.2 q hq; rw [hAe] at h; exact h)) ?_
  refine W.widen (k := 600002) (n := 7302232) (Nat.le_of_ble_eq_true rfl) (Nat.le_of_ble_eq_true rfl) ?_
  exact lw_ret hx hb hr hlocks dL_law_2349
set_option maxHeartbeats 4000000 in
set_option maxRecDepth 100000 in
theorem lc_none_0 {p : Program} {e : Env} {s : State} {m : MethodId} {below : List Frame} {meth : Method} {c : Code} {l : Launch} (hst : l.stackTraces = false) {b : Nat} {xs : Nat → Int32} (C9 : lx_At p s m meth c b xs) {dC : Nat → ClassId} {dI : Nat → Nat → Nat} {ge5 gea gv5 gva gde gic gi0 : Nat} {o0 m0 x0 : Nat} (hG : gv ge5 gea gv5 gva gde gic gi0 (fun q => s.heap.size ≤ q) s s.heap) {H : Heap} {locs : List Loc} (hK : va_K (dC, dI) vwCl [] s) (hP : va_P (dC, dI) vwCl [] H) (hD : va_D (fun q => s.heap.size ≤ q) []) (hS : va_S (fun q => s.heap.size ≤ q) s.heap H locs) {ls : Array Slot} (hl : lv_has ls 7 [(4, .int 0), (3, .ref o0), (2, .ref m0), (1, .ref x0), (0, .ref b)]) : W p l e room_1 s m #[Value.ref b] below meth c H locs 72 2748 (lw_Z below #[Value.ref b] s) (F0 m 2342 ls []) := by
  obtain ⟨hx, hb, hr, hml, hown, hts, hX, hbl, hlocks⟩ := id C9
  have hA : ∀ q : Nat, s.heap.size ≤ q → (fun q : Nat => s.heap.size ≤ q) q := fun _ h => h
  have hbA : ¬ (fun q : Nat => s.heap.size ≤ q) b := Nat.not_le.mpr hbl
  obtain ⟨A, hAe⟩ : ∃ A : Nat → Prop, A = (fun q : Nat => s.heap.size ≤ q) := ⟨_, rfl⟩
  rw [← hAe] at hG hD hS hA hbA
  obtain ⟨⟨g_AO_Text, g_AO_String, g_AO_Object, g_nm_RX1_20, g_nm_RX0_17, g_nm_RX3_31, g_nm_RX2_44, g_nm_RL_121, g_nf_RL_13, g_nf_RL_47, g_ca_IO, g_ca_IA, g_ca_IS, g_ca_IntObj, g_ca_StrObj, g_de_RT, g_de_EX, g_de_TH, g_nc_IA_IO, g_nc_IS_IO, g_nc_IS_IA⟩, ⟨g_s3, g_s5, g_sa, g_x278, g_x280, g_x282, g_x284, g_x286, g_x180, g_x238, g_x250⟩, ⟨g_o5, g_c5, g_v5, g_t5, g_oa, g_ca, g_va, g_ta, g_zc, g_zd, g_td, g_zf, g_zU, g_zN, g_zh, g_zk, g_tk, g_oi, g_vi⟩⟩ := id hG
  refine lv_iinc (v := 7) (lv' := [(4, .int 7), (3, .ref o0), (2, .ref m0), (1, .ref x0), (0, .ref b)]) hx hb dL_law_2342 hl (k := 0) rfl (by decide) (by decide) rfl (fun ls hl => ?_)
  refine lv_goto (tgt := 27) hx hb dL_law_2345 (by decide) ?_
  refine lv_iload hx hb dL_law_27 (lv_at hl 0 rfl) ?_
  refine lv_aload_n hx hb dL_law_29 rfl (lv_at hl 4 rfl) ?_
  refine va_slen hx hb hX hbl hbA hS dL_law_30 ?_
  refine lv_topi (fun y1 ey1 => ?_)
  obtain rfl : y1 = 7 := ey1.trans (by decide)
  refine lv_bipush (v := 7) hx hb dL_law_31 (by decide) ?_
  refine lv_isub hx hb dL_law_33 ?_
  refine lv_topi (fun y2 ey2 => ?_)
  obtain rfl : y2 = 0 := ey2.trans (by decide)
  refine lv_icmp_gt (tgt := 2348) hx hb dL_law_34 (by decide) (fun _ => ?_) (fun c9 => absurd (by decide) c9)
  refine lv_iconst (v := 1) hx hb dL_law_2348 (by decide) ?_
  refine va_forget (fun q hq => (by have h := hS.2.2 q hq; rw [hAe] at h; exact h)) ?_
  refine W.widen (k := 600002) (n := 7302232) (Nat.le_of_ble_eq_true rfl) (Nat.le_of_ble_eq_true rfl) ?_
  exact lw_ret hx hb hr hlocks dL_law_2349
