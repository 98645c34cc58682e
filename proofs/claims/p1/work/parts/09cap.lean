set_option maxHeartbeats 4000000 in
set_option maxRecDepth 100000 in
theorem lc_spot_0 {p : Program} {e : Env} {s : State} {m : MethodId} {below : List Frame} {meth : Method} {c : Code} {l : Launch} (hst : l.stackTraces = false) {b : Nat} {xs : Nat → Int32} (C9 : lx_At p s m meth c b xs) {dC : Nat → ClassId} {dI : Nat → Nat → Nat} {ge5 gea gv5 gva gde gic gi0 : Nat} {x0 m0 x1 x2 x45 x53 x55 x57 m1 m2 m3 o0 : Nat} (hG : gv ge5 gea gv5 gva gde gic gi0 (fun q => s.heap.size ≤ q) s s.heap) {v1 : Int32} (v1_l : ((-2147483648) : Int) ≤ v1.toInt) (v1_u : v1.toInt ≤ ((-1) : Int)) {v2 : Int32} (v2_l : ((-2147483648) : Int) ≤ v2.toInt) (v2_u : v2.toInt ≤ (2147483647 : Int)) (hx1 : xs 1 = v1) (hx2 : xs 2 = v2) {H : Heap} {locs : List Loc} (hK : va_K (dC, dI) vwCl [] s) (hP : va_P (dC, dI) vwCl [(x0, .inr (7, [.ref x1, .ref x2, .ref x45, .ref x53, .ref x55, .ref x57, .int 0, .int 0, .int 0])), (m0, .inr (9, [.int 0, .ref m1, .ref m2, .ref m3, .int 0, .int 0, .int 0]))] H) (hD : va_D (fun q => s.heap.size ≤ q) [(x0, .inr (7, [.ref x1, .ref x2, .ref x45, .ref x53, .ref x55, .ref x57, .int 0, .int 0, .int 0])), (m0, .inr (9, [.int 0, .ref m1, .ref m2, .ref m3, .int 0, .int 0, .int 0]))]) (hS : va_S (fun q => s.heap.size ≤ q) s.heap H locs) {ls : Array Slot} (hl : lv_has ls 7 [(4, .int 0), (3, .ref o0), (2, .ref m0), (1, .ref x0), (0, .ref b)]) : W p l e room_1 s m #[Value.ref b] below meth c H locs 72 2748 (lw_Z below #[Value.ref b] s) (F0 m 1840 ls []) := by
  obtain ⟨hx, hb, hr, hml, hown, hts, hX, hbl, hlocks⟩ := id C9
  have hA : ∀ q : Nat, s.heap.size ≤ q → (fun q : Nat => s.heap.size ≤ q) q := fun _ h => h
  have hbA : ¬ (fun q : Nat => s.heap.size ≤ q) b := Nat.not_le.mpr hbl
  obtain ⟨A, hAe⟩ : ∃ A : Nat → Prop, A = (fun q : Nat => s.heap.size ≤ q) := ⟨_, rfl⟩
  rw [← hAe] at hG hD hS hA hbA
  obtain ⟨⟨g_AO_Text, g_AO_String, g_AO_Object, g_nm_RX1_20, g_nm_RX0_17, g_nm_RX3_31, g_nm_RX2_44, g_nm_RL_121, g_nf_RL_13, g_nf_RL_47, g_ca_IO, g_ca_IA, g_ca_IS, g_ca_IntObj, g_ca_StrObj, g_de_RT, g_de_EX, g_de_TH, g_nc_IA_IO, g_nc_IS_IO, g_nc_IS_IA⟩, ⟨g_s3, g_s5, g_sa, g_x278, g_x280, g_x282, g_x284, g_x286, g_x180, g_x238, g_x250⟩, ⟨g_o5, g_c5, g_v5, g_t5, g_oa, g_ca, g_va, g_ta, g_zc, g_zd, g_td, g_zf, g_zU, g_zN, g_zh, g_zk, g_tk, g_oi, g_vi⟩⟩ := id hG
  refine lv_aload_n hx hb dL_law_1840 rfl (lv_at hl 3 rfl) ?_
  refine lv_aload_n hx hb dL_law_1841 rfl (lv_at hl 4 rfl) ?_
  refine lv_iload hx hb dL_law_1842 (lv_at hl 0 rfl) ?_
  refine lv_iconst (v := 1) hx hb dL_law_1844 (by decide) ?_
  refine lv_iadd hx hb dL_law_1845 ?_
  refine lv_topi (fun y1 ey1 => ?_)
  obtain rfl : y1 = 1 := ey1.trans (by decide)
  refine va_sld hx hb hX hbl hbA hS (by unfold vp_in; decide) dL_law_1846 ?_
  rw [show xs (Int32.toNatClampNeg 1) = v1 from hx1]
  refine lv_aload_n hx hb dL_law_1847 rfl (lv_at hl 4 rfl) ?_
  refine lv_iload hx hb dL_law_1848 (lv_at hl 0 rfl) ?_
  refine lv_iconst (v := 2) hx hb dL_law_1850 (by decide) ?_
  refine lv_iadd hx hb dL_law_1851 ?_
  refine lv_topi (fun y2 ey2 => ?_)
  obtain rfl : y2 = 2 := ey2.trans (by decide)
  refine va_sld hx hb hX hbl hbA hS (by unfold vp_in; decide) dL_law_1852 ?_
  rw [show xs (Int32.toNatClampNeg 2) = v2 from hx2]
  refine lv_aload_n hx hb dL_law_1853 rfl (lv_at hl 1 rfl) ?_
  have hPc := hP.sub (ws' := [(x0, .inr (7, [.ref x1, .ref x2, .ref x45, .ref x53, .ref x55, .ref x57, .int 0, .int 0, .int 0]))]) [0] rfl
  have hDc := hD.sub (ws' := [(x0, .inr (7, [.ref x1, .ref x2, .ref x45, .ref x53, .ref x55, .ref x57, .int 0, .int 0, .int 0]))]) [0] (by decide) rfl
  have hKc := hK.sub (tys' := []) [] rfl
  have hFc := va_free (wc := [(x0, .inr (7, [.ref x1, .ref x2, .ref x45, .ref x53, .ref x55, .ref x57, .int 0, .int 0, .int 0]))]) hD hS hA [0] rfl
  refine va_calli (vx_runSW (As := [.ref x0, .int v1, .int v2, .ref o0]) (rest := []) ⟨hx, hb, hml, hown, hts⟩ (kx_L_spot_0 l hst dC dI ge5 gea gv5 gva gde gic gi0 x0 o0 x1 x2 x45 x53 x55 x57 H.size v1 v1_l v1_u v2 v2_l v2_u) (vx_cwSW 4 hts gL_law_L_spot rfl rfl rfl (by decide +kernel) ⟨Nat.le_of_ble_eq_true rfl, Nat.le_of_ble_eq_true rfl⟩) ⟨fun a U g mk q => by obtain ⟨q0, q1, qP, qK, qD, qG⟩ := q; exact ⟨q0, q1, qP, va_K.moved (u := U) (U := U.calling g mk a) (Vm.Alike.refl U.vm) qK, qD, gv.fb qG⟩, fun U hU hW => ⟨rfl, by rw [hU], by rw [hU]; exact hPc, va_K.moved hW.alike hKc, hDc.weaken (fun _ _ _ _ => trivial), gv.pass hW hU hS hFc hG⟩⟩ rfl rfl hl.1 rfl (lv_room (Nat.le_of_ble_eq_true rfl)) dL_law_1854 ⟨Nat.le_of_ble_eq_true rfl, Nat.le_of_ble_eq_true rfl⟩) hS (fun q _ h => hFc q h) hFc (fun r9 u t H1 locs ht hvm hw hB hz1 hk1 hS => ?_)
  obtain rfl := hw
  obtain ⟨hP1, hK1, hD1⟩ := hB
  rw [ht] at hP1
  have hK1 := va_K.moved hvm.symm hK1
  obtain ⟨hP, hD⟩ := va_join (wr := [(m0, .inr (9, [.int 0, .ref m1, .ref m2, .ref m3, .int 0, .int 0, .int 0]))]) (w1 := [(x0, .inr (7, [.ref x1, .ref x2, .ref x45, .ref x53, .ref x55, .ref x57, .int 0, .int 0, .int 0]))]) hP hD [0] [1] rfl rfl (by decide) (by decide) hk1 hFc hP1 hD1
  generalize H1 = H at hP hS ⊢
  have hP : va_P (dC, dI) vwCl [(m0, .inr (9, [.int 0, .ref m1, .ref m2, .ref m3, .int 0, .int 0, .int 0])), (x0, .inr (7, [.ref x1, .ref x2, .ref x45, .ref x53, .ref x55, .ref x57, .int 0, .int 0, .int 0]))] H := hP
  have hD : va_D A [(m0, .inr (9, [.int 0, .ref m1, .ref m2, .ref m3, .int 0, .int 0, .int 0])), (x0, .inr (7, [.ref x1, .ref x2, .ref x45, .ref x53, .ref x55, .ref x57, .int 0, .int 0, .int 0]))] := hD
  refine W.widen (k := 73) (n := 2754) (by omega) (by omega) ?_
  refine lv_istore (lv' := [(5, .int 1), (4, .int 0), (3, .ref o0), (2, .ref m0), (1, .ref x0), (0, .ref b)]) hx hb dL_law_1857 hl (by decide) rfl (fun ls hl => ?_)
  refine lv_aload_n hx hb dL_law_1859 rfl (lv_at hl 3 rfl) ?_
  refine lv_aload_n hx hb dL_law_1860 rfl (lv_at hl 5 rfl) ?_
  refine lv_iload hx hb dL_law_1861 (lv_at hl 1 rfl) ?_
  refine lv_iconst (v := 1) hx hb dL_law_1863 (by decide) ?_
  refine lv_iadd hx hb dL_law_1864 ?_
  refine lv_topi (fun y3 ey3 => ?_)
  obtain rfl : y3 = 1 := ey3.trans (by decide)
  refine va_sld hx hb hX hbl hbA hS (by unfold vp_in; decide) dL_law_1865 ?_
  rw [show xs (Int32.toNatClampNeg 1) = v1 from hx1]
  refine lv_aload_n hx hb dL_law_1866 rfl (lv_at hl 5 rfl) ?_
  refine lv_iload hx hb dL_law_1867 (lv_at hl 1 rfl) ?_
  refine lv_iconst (v := 2) hx hb dL_law_1869 (by decide) ?_
  refine lv_iadd hx hb dL_law_1870 ?_
  refine lv_topi (fun y4 ey4 => ?_)
  obtain rfl : y4 = 2 := ey4.trans (by decide)
  refine va_sld hx hb hX hbl hbA hS (by unfold vp_in; decide) dL_law_1871 ?_
  rw [show xs (Int32.toNatClampNeg 2) = v2 from hx2]
  have hPc := hP.sub (ws' := [(m0, .inr (9, [.int 0, .ref m1, .ref m2, .ref m3, .int 0, .int 0, .int 0]))]) [0] rfl
  have hDc := hD.sub (ws' := [(m0, .inr (9, [.int 0, .ref m1, .ref m2, .ref m3, .int 0, .int 0, .int 0]))]) [0] (by decide) rfl
  have hKc := hK.sub (tys' := []) [] rfl
  have hFc := va_free (wc := [(m0, .inr (9, [.int 0, .ref m1, .ref m2, .ref m3, .int 0, .int 0, .int 0]))]) hD hS hA [0] rfl
  refine va_callr (va_runV (As := [.int v1, .int v2]) (rest := []) ⟨hx, hb, hml, hown, hts⟩ (kx_X5_spot_0 l dC dI ge5 gea gv5 gva gde gic gi0 m0 m1 m2 m3 H.size v1 v1_l v1_u v2 v2_l v2_u) (cwV 2 hts gL_law_X5_spot rfl rfl rfl (by decide +kernel) ⟨Nat.le_of_ble_eq_true rfl, Nat.le_of_ble_eq_true rfl⟩) ⟨fun a U g mk q => by obtain ⟨q0, q1, qP, qK, qD, qG⟩ := q; exact ⟨q0, q1, qP, va_K.moved (u := U) (U := U.calling g mk a) (Vm.Alike.refl U.vm) qK, qD, gv.fb qG⟩, va_recv hKc hPc (ci := 9) (q0 := 0) rfl rfl, fun U hU hW => ⟨rfl, by rw [hU], by rw [hU]; exact hPc, va_K.moved hW.alike hKc, hDc.weaken (fun _ _ _ _ => trivial), gv.pass hW hU hS hFc hG⟩⟩ rfl rfl hl.1 rfl (lv_room (Nat.le_of_ble_eq_true rfl)) dL_law_1872 ⟨Nat.le_of_ble_eq_true rfl, Nat.le_of_ble_eq_true rfl⟩) hS (fun q _ h => hFc q h) hFc (fun u ra t H1 locs ht hvm hw hB hz1 hk1 hS => ?_)
  obtain ⟨hra, hP1, hK1, hD1⟩ := hB
  rw [hra]
  rw [ht] at hP1
  have hK1 := va_K.moved hvm.symm hK1
  obtain ⟨hP, hD⟩ := va_join (wr := [(x0, .inr (7, [.ref x1, .ref x2, .ref x45, .ref x53, .ref x55, .ref x57, .int 0, .int 0, .int 0]))]) (w1 := [(m0, .inr (9, [.int 1, .ref m1, .ref m2, .ref m3, .int 0, .int 0, .int 0]))]) hP hD [0] [1] rfl rfl (by decide) (by decide) hk1 hFc hP1 hD1
  generalize H1 = H at hP hS ⊢
  have hP : va_P (dC, dI) vwCl [(x0, .inr (7, [.ref x1, .ref x2, .ref x45, .ref x53, .ref x55, .ref x57, .int 0, .int 0, .int 0])), (m0, .inr (9, [.int 1, .ref m1, .ref m2, .ref m3, .int 0, .int 0, .int 0]))] H := hP
  have hD : va_D A [(x0, .inr (7, [.ref x1, .ref x2, .ref x45, .ref x53, .ref x55, .ref x57, .int 0, .int 0, .int 0])), (m0, .inr (9, [.int 1, .ref m1, .ref m2, .ref m3, .int 0, .int 0, .int 0]))] := hD
  refine lv_astore (lv' := [(6, .ref ge5), (5, .int 1), (4, .int 0), (3, .ref o0), (2, .ref m0), (1, .ref x0), (0, .ref b)]) hx hb dL_law_1875 hl (by decide) rfl (fun ls hl => ?_)
  refine lv_aload_n hx hb dL_law_1877 rfl (lv_at hl 4 rfl) ?_
  have hPc := hP.sub (ws' := [(m0, .inr (9, [.int 1, .ref m1, .ref m2, .ref m3, .int 0, .int 0, .int 0]))]) [1] rfl
  have hDc := hD.sub (ws' := [(m0, .inr (9, [.int 1, .ref m1, .ref m2, .ref m3, .int 0, .int 0, .int 0]))]) [1] (by decide) rfl
  have hKc := hK.sub (tys' := []) [] rfl
  have hFc := va_free (wc := [(m0, .inr (9, [.int 1, .ref m1, .ref m2, .ref m3, .int 0, .int 0, .int 0]))]) hD hS hA [1] rfl
  refine va_calli (va_runV (As := []) (rest := []) ⟨hx, hb, hml, hown, hts⟩ (kx_X5_thrown_0 l dC dI m0 m1 m2 m3 H.size) (cwV 0 hts gL_law_X5_thrown rfl rfl rfl (by decide +kernel) ⟨Nat.le_of_ble_eq_true rfl, Nat.le_of_ble_eq_true rfl⟩) ⟨fun a U g mk q => by obtain ⟨q0, q1, qP, qK, qD⟩ := q; exact ⟨q0, q1, qP, va_K.moved (u := U) (U := U.calling g mk a) (Vm.Alike.refl U.vm) qK, qD⟩, va_recv hKc hPc (ci := 9) (q0 := 0) rfl rfl, fun U hU hW => ⟨rfl, by rw [hU], by rw [hU]; exact hPc, va_K.moved hW.alike hKc, hDc.weaken (fun _ _ _ _ => trivial)⟩⟩ rfl rfl hl.1 rfl (lv_room (Nat.le_of_ble_eq_true rfl)) dL_law_1878 ⟨Nat.le_of_ble_eq_true rfl, Nat.le_of_ble_eq_true rfl⟩) hS (fun q _ h => hFc q h) hFc (fun r9 u t H1 locs ht hvm hw hB hz1 hk1 hS => ?_)
  obtain rfl := hw
  obtain ⟨hP1, hK1, hD1⟩ := hB
  rw [ht] at hP1
  have hK1 := va_K.moved hvm.symm hK1
  obtain ⟨hP, hD⟩ := va_join (wr := [(x0, .inr (7, [.ref x1, .ref x2, .ref x45, .ref x53, .ref x55, .ref x57, .int 0, .int 0, .int 0]))]) (w1 := [(m0, .inr (9, [.int 1, .ref m1, .ref m2, .ref m3, .int 0, .int 0, .int 0]))]) hP hD [1] [0] rfl rfl (by decide) (by decide) hk1 hFc hP1 hD1
  generalize H1 = H at hP hS ⊢
  have hP : va_P (dC, dI) vwCl [(x0, .inr (7, [.ref x1, .ref x2, .ref x45, .ref x53, .ref x55, .ref x57, .int 0, .int 0, .int 0])), (m0, .inr (9, [.int 1, .ref m1, .ref m2, .ref m3, .int 0, .int 0, .int 0]))] H := hP
  have hD : va_D A [(x0, .inr (7, [.ref x1, .ref x2, .ref x45, .ref x53, .ref x55, .ref x57, .int 0, .int 0, .int 0])), (m0, .inr (9, [.int 1, .ref m1, .ref m2, .ref m3, .int 0, .int 0, .int 0]))] := hD
  refine lv_iload hx hb dL_law_1881 (lv_at hl 1 rfl) ?_
  refine lv_icmp_eq (tgt := 1888) hx hb dL_law_1883 (by decide) (fun _ => ?_) (fun c9 => absurd (by decide) c9)
  refine lv_iload hx hb dL_law_1888 (lv_at hl 1 rfl) ?_
  refine lv_if_ne (tgt := 1907) hx hb dL_law_1890 (by decide) (fun _ => ?_) (fun c9 => absurd c9 (by decide))
  refine lv_goto (tgt := 2342) hx hb dL_law_1907 (by decide) ?_
  refine lv_iinc (v := 7) (lv' := [(4, .int 7), (6, .ref ge5), (5, .int 1), (3, .ref o0), (2, .ref m0), (1, .ref x0), (0, .ref b)]) hx hb dL_law_2342 hl (k := 2) rfl (by decide) (by decide) rfl (fun ls hl => ?_)
  refine lv_goto (tgt := 27) hx hb dL_law_2345 (by decide) ?_
  refine lv_iload hx hb dL_law_27 (lv_at hl 0 rfl) ?_
  refine lv_aload_n hx hb dL_law_29 rfl (lv_at hl 6 rfl) ?_
  refine va_slen hx hb hX hbl hbA hS dL_law_30 ?_
  refine lv_topi (fun y5 ey5 => ?_)
  obtain rfl : y5 = 7 := ey5.trans (by decide)
  refine lv_bipush (v := 7) hx hb dL_law_31 (by decide) ?_
  refine lv_isub hx hb dL_law_33 ?_
  refine lv_topi (fun y6 ey6 => ?_)
  obtain rfl : y6 = 0 := ey6.trans (by decide)
  refine lv_icmp_gt (tgt := 2348) hx hb dL_law_34 (by decide) (fun _ => ?_) (fun c9 => absurd (by decide) c9)
  refine lv_iconst (v := 1) hx hb dL_law_2348 (by decide) ?_
  refine va_forget (fun q hq => (by have h := hS.2.2 q hq; rw [hAe] at h; exact h)) ?_
  refine W.widen (k := 600002) (n := 7302232) (Nat.le_of_ble_eq_true rfl) (Nat.le_of_ble_eq_true rfl) ?_
  exact lw_ret hx hb hr hlocks dL_law_2349
set_option maxHeartbeats 4000000 in
set_option maxRecDepth 100000 in
theorem lc_spot_1 {p : Program} {e : Env} {s : State} {m : MethodId} {below : List Frame} {meth : Method} {c : Code} {l : Launch} (hst : l.stackTraces = false) {b : Nat} {xs : Nat → Int32} (C9 : lx_At p s m meth c b xs) {dC : Nat → ClassId} {dI : Nat → Nat → Nat} {ge5 gea gv5 gva gde gic gi0 : Nat} {x0 m0 x1 x2 x45 x53 x55 x57 m1 m2 m3 o0 : Nat} (hG : gv ge5 gea gv5 gva gde gic gi0 (fun q => s.heap.size ≤ q) s s.heap) {v1 : Int32} (v1_l : (4 : Int) ≤ v1.toInt) (v1_u : v1.toInt ≤ (2147483647 : Int)) {v2 : Int32} (v2_l : ((-2147483648) : Int) ≤ v2.toInt) (v2_u : v2.toInt ≤ (2147483647 : Int)) (hx1 : xs 1 = v1) (hx2 : xs 2 = v2) {H : Heap} {locs : List Loc} (hK : va_K (dC, dI) vwCl [] s) (hP : va_P (dC, dI) vwCl [(x0, .inr (7, [.ref x1, .ref x2, .ref x45, .ref x53, .ref x55, .ref x57, .int 0, .int 0, .int 0])), (m0, .inr (9, [.int 0, .ref m1, .ref m2, .ref m3, .int 0, .int 0, .int 0]))] H) (hD : va_D (fun q => s.heap.size ≤ q) [(x0, .inr (7, [.ref x1, .ref x2, .ref x45, .ref x53, .ref x55, .ref x57, .int 0, .int 0, .int 0])), (m0, .inr (9, [.int 0, .ref m1, .ref m2, .ref m3, .int 0, .int 0, .int 0]))]) (hS : va_S (fun q => s.heap.size ≤ q) s.heap H locs) {ls : Array Slot} (hl : lv_has ls 7 [(4, .int 0), (3, .ref o0), (2, .ref m0), (1, .ref x0), (0, .ref b)]) : W p l e room_1 s m #[Value.ref b] below meth c H locs 72 2748 (lw_Z below #[Value.ref b] s) (F0 m 1840 ls []) := by
  obtain ⟨hx, hb, hr, hml, hown, hts, hX, hbl, hlocks⟩ := id C9
  have hA : ∀ q : Nat, s.heap.size ≤ q → (fun q : Nat => s.heap.size ≤ q) q := fun _ h => h
  have hbA : ¬ (fun q : Nat => s.heap.size ≤ q) b := Nat.not_le.mpr hbl
  obtain ⟨A, hAe⟩ : ∃ A : Nat → Prop, A = (fun q : Nat => s.heap.size ≤ q) := ⟨_, rfl⟩
  rw [← hAe] at hG hD hS hA hbA
  obtain ⟨⟨g_AO_Text, g_AO_String, g_AO_Object, g_nm_RX1_20, g_nm_RX0_17, g_nm_RX3_31, g_nm_RX2_44, g_nm_RL_121, g_nf_RL_13, g_nf_RL_47, g_ca_IO, g_ca_IA, g_ca_IS, g_ca_IntObj, g_ca_StrObj, g_de_RT, g_de_EX, g_de_TH, g_nc_IA_IO, g_nc_IS_IO, g_nc_IS_IA⟩, ⟨g_s3, g_s5, g_sa, g_x278, g_x280, g_x282, g_x284, g_x286, g_x180, g_x238, g_x250⟩, ⟨g_o5, g_c5, g_v5, g_t5, g_oa, g_ca, g_va, g_ta, g_zc, g_zd, g_td, g_zf, g_zU, g_zN, g_zh, g_zk, g_tk, g_oi, g_vi⟩⟩ := id hG
  refine lv_aload_n hx hb dL_law_1840 rfl (lv_at hl 3 rfl) ?_
  refine lv_aload_n hx hb dL_law_1841 rfl (lv_at hl 4 rfl) ?_
  refine lv_iload hx hb dL_law_1842 (lv_at hl 0 rfl) ?_
  refine lv_iconst (v := 1) hx hb dL_law_1844 (by decide) ?_
  refine lv_iadd hx hb dL_law_1845 ?_
  refine lv_topi (fun y1 ey1 => ?_)
  obtain rfl : y1 = 1 := ey1.trans (by decide)
  refine va_sld hx hb hX hbl hbA hS (by unfold vp_in; decide) dL_law_1846 ?_
  rw [show xs (Int32.toNatClampNeg 1) = v1 from hx1]
  refine lv_aload_n hx hb dL_law_1847 rfl (lv_at hl 4 rfl) ?_
  refine lv_iload hx hb dL_law_1848 (lv_at hl 0 rfl) ?_
  refine lv_iconst (v := 2) hx hb dL_law_1850 (by decide) ?_
  refine lv_iadd hx hb dL_law_1851 ?_
  refine lv_topi (fun y2 ey2 => ?_)
  obtain rfl : y2 = 2 := ey2.trans (by decide)
  refine va_sld hx hb hX hbl hbA hS (by unfold vp_in; decide) dL_law_1852 ?_
  rw [show xs (Int32.toNatClampNeg 2) = v2 from hx2]
  refine lv_aload_n hx hb dL_law_1853 rfl (lv_at hl 1 rfl) ?_
  have hPc := hP.sub (ws' := [(x0, .inr (7, [.ref x1, .ref x2, .ref x45, .ref x53, .ref x55, .ref x57, .int 0, .int 0, .int 0]))]) [0] rfl
  have hDc := hD.sub (ws' := [(x0, .inr (7, [.ref x1, .ref x2, .ref x45, .ref x53, .ref x55, .ref x57, .int 0, .int 0, .int 0]))]) [0] (by decide) rfl
  have hKc := hK.sub (tys' := []) [] rfl
  have hFc := va_free (wc := [(x0, .inr (7, [.ref x1, .ref x2, .ref x45, .ref x53, .ref x55, .ref x57, .int 0, .int 0, .int 0]))]) hD hS hA [0] rfl
  refine va_calli (vx_runSW (As := [.ref x0, .int v1, .int v2, .ref o0]) (rest := []) ⟨hx, hb, hml, hown, hts⟩ (kx_L_spot_1 l hst dC dI ge5 gea gv5 gva gde gic gi0 x0 o0 x1 x2 x45 x53 x55 x57 H.size v1 v1_l v1_u v2 v2_l v2_u) (vx_cwSW 4 hts gL_law_L_spot rfl rfl rfl (by decide +kernel) ⟨Nat.le_of_ble_eq_true rfl, Nat.le_of_ble_eq_true rfl⟩) ⟨fun a U g mk q => by obtain ⟨q0, q1, qP, qK, qD, qG⟩ := q; exact ⟨q0, q1, qP, va_K.moved (u := U) (U := U.calling g mk a) (Vm.Alike.refl U.vm) qK, qD, gv.fb qG⟩, fun U hU hW => ⟨rfl, by rw [hU], by rw [hU]; exact hPc, va_K.moved hW.alike hKc, hDc.weaken (fun _ _ _ _ => trivial), gv.pass hW hU hS hFc hG⟩⟩ rfl rfl hl.1 rfl (lv_room (Nat.le_of_ble_eq_true rfl)) dL_law_1854 ⟨Nat.le_of_ble_eq_true rfl, Nat.le_of_ble_eq_true rfl⟩) hS (fun q _ h => hFc q h) hFc (fun r9 u t H1 locs ht hvm hw hB hz1 hk1 hS => ?_)
  obtain rfl := hw
  obtain ⟨hP1, hK1, hD1⟩ := hB
  rw [ht] at hP1
  have hK1 := va_K.moved hvm.symm hK1
  obtain ⟨hP, hD⟩ := va_join (wr := [(m0, .inr (9, [.int 0, .ref m1, .ref m2, .ref m3, .int 0, .int 0, .int 0]))]) (w1 := [(x0, .inr (7, [.ref x1, .ref x2, .ref x45, .ref x53, .ref x55, .ref x57, .int 0, .int 0, .int 0]))]) hP hD [0] [1] rfl rfl (by decide) (by decide) hk1 hFc hP1 hD1
  generalize H1 = H at hP hS ⊢
  have hP : va_P (dC, dI) vwCl [(m0, .inr (9, [.int 0, .ref m1, .ref m2, .ref m3, .int 0, .int 0, .int 0])), (x0, .inr (7, [.ref x1, .ref x2, .ref x45, .ref x53, .ref x55, .ref x57, .int 0, .int 0, .int 0]))] H := hP
  have hD : va_D A [(m0, .inr (9, [.int 0, .ref m1, .ref m2, .ref m3, .int 0, .int 0, .int 0])), (x0, .inr (7, [.ref x1, .ref x2, .ref x45, .ref x53, .ref x55, .ref x57, .int 0, .int 0, .int 0]))] := hD
  refine W.widen (k := 73) (n := 2754) (by omega) (by omega) ?_
  refine lv_istore (lv' := [(5, .int 1), (4, .int 0), (3, .ref o0), (2, .ref m0), (1, .ref x0), (0, .ref b)]) hx hb dL_law_1857 hl (by decide) rfl (fun ls hl => ?_)
  refine lv_aload_n hx hb dL_law_1859 rfl (lv_at hl 3 rfl) ?_
  refine lv_aload_n hx hb dL_law_1860 rfl (lv_at hl 5 rfl) ?_
  refine lv_iload hx hb dL_law_1861 (lv_at hl 1 rfl) ?_
  refine lv_iconst (v := 1) hx hb dL_law_1863 (by decide) ?_
  refine lv_iadd hx hb dL_law_1864 ?_
  refine lv_topi (fun y3 ey3 => ?_)
  obtain rfl : y3 = 1 := ey3.trans (by decide)
  refine va_sld hx hb hX hbl hbA hS (by unfold vp_in; decide) dL_law_1865 ?_
  rw [show xs (Int32.toNatClampNeg 1) = v1 from hx1]
  refine lv_aload_n hx hb dL_law_1866 rfl (lv_at hl 5 rfl) ?_
  refine lv_iload hx hb dL_law_1867 (lv_at hl 1 rfl) ?_
  refine lv_iconst (v := 2) hx hb dL_law_1869 (by decide) ?_
  refine lv_iadd hx hb dL_law_1870 ?_
  refine lv_topi (fun y4 ey4 => ?_)
  obtain rfl : y4 = 2 := ey4.trans (by decide)
  refine va_sld hx hb hX hbl hbA hS (by unfold vp_in; decide) dL_law_1871 ?_
  rw [show xs (Int32.toNatClampNeg 2) = v2 from hx2]
  have hPc := hP.sub (ws' := [(m0, .inr (9, [.int 0, .ref m1, .ref m2, .ref m3, .int 0, .int 0, .int 0]))]) [0] rfl
  have hDc := hD.sub (ws' := [(m0, .inr (9, [.int 0, .ref m1, .ref m2, .ref m3, .int 0, .int 0, .int 0]))]) [0] (by decide) rfl
  have hKc := hK.sub (tys' := []) [] rfl
  have hFc := va_free (wc := [(m0, .inr (9, [.int 0, .ref m1, .ref m2, .ref m3, .int 0, .int 0, .int 0]))]) hD hS hA [0] rfl
  refine va_callr (va_runV (As := [.int v1, .int v2]) (rest := []) ⟨hx, hb, hml, hown, hts⟩ (kx_X5_spot_1 l dC dI ge5 gea gv5 gva gde gic gi0 m0 m1 m2 m3 H.size v1 v1_l v1_u v2 v2_l v2_u) (cwV 2 hts gL_law_X5_spot rfl rfl rfl (by decide +kernel) ⟨Nat.le_of_ble_eq_true rfl, Nat.le_of_ble_eq_true rfl⟩) ⟨fun a U g mk q => by obtain ⟨q0, q1, qP, qK, qD, qG⟩ := q; exact ⟨q0, q1, qP, va_K.moved (u := U) (U := U.calling g mk a) (Vm.Alike.refl U.vm) qK, qD, gv.fb qG⟩, va_recv hKc hPc (ci := 9) (q0 := 0) rfl rfl, fun U hU hW => ⟨rfl, by rw [hU], by rw [hU]; exact hPc, va_K.moved hW.alike hKc, hDc.weaken (fun _ _ _ _ => trivial), gv.pass hW hU hS hFc hG⟩⟩ rfl rfl hl.1 rfl (lv_room (Nat.le_of_ble_eq_true rfl)) dL_law_1872 ⟨Nat.le_of_ble_eq_true rfl, Nat.le_of_ble_eq_true rfl⟩) hS (fun q _ h => hFc q h) hFc (fun u ra t H1 locs ht hvm hw hB hz1 hk1 hS => ?_)
  obtain ⟨hra, hP1, hK1, hD1⟩ := hB
  rw [hra]
  rw [ht] at hP1
  have hK1 := va_K.moved hvm.symm hK1
  obtain ⟨hP, hD⟩ := va_join (wr := [(x0, .inr (7, [.ref x1, .ref x2, .ref x45, .ref x53, .ref x55, .ref x57, .int 0, .int 0, .int 0]))]) (w1 := [(m0, .inr (9, [.int 1, .ref m1, .ref m2, .ref m3, .int 0, .int 0, .int 0]))]) hP hD [0] [1] rfl rfl (by decide) (by decide) hk1 hFc hP1 hD1
  generalize H1 = H at hP hS ⊢
  have hP : va_P (dC, dI) vwCl [(x0, .inr (7, [.ref x1, .ref x2, .ref x45, .ref x53, .ref x55, .ref x57, .int 0, .int 0, .int 0])), (m0, .inr (9, [.int 1, .ref m1, .ref m2, .ref m3, .int 0, .int 0, .int 0]))] H := hP
  have hD : va_D A [(x0, .inr (7, [.ref x1, .ref x2, .ref x45, .ref x53, .ref x55, .ref x57, .int 0, .int 0, .int 0])), (m0, .inr (9, [.int 1, .ref m1, .ref m2, .ref m3, .int 0, .int 0, .int 0]))] := hD
  refine lv_astore (lv' := [(6, .ref ge5), (5, .int 1), (4, .int 0), (3, .ref o0), (2, .ref m0), (1, .ref x0), (0, .ref b)]) hx hb dL_law_1875 hl (by decide) rfl (fun ls hl => ?_)
  refine lv_aload_n hx hb dL_law_1877 rfl (lv_at hl 4 rfl) ?_
  have hPc := hP.sub (ws' := [(m0, .inr (9, [.int 1, .ref m1, .ref m2, .ref m3, .int 0, .int 0, .int 0]))]) [1] rfl
  have hDc := hD.sub (ws' := [(m0, .inr (9, [.int 1, .ref m1, .ref m2, .ref m3, .int 0, .int 0, .int 0]))]) [1] (by decide) rfl
  have hKc := hK.sub (tys' := []) [] rfl
  have hFc := va_free (wc := [(m0, .inr (9, [.int 1, .ref m1, .ref m2, .ref m3, .int 0, .int 0, .int 0]))]) hD hS hA [1] rfl
  refine va_calli (va_runV (As := []) (rest := []) ⟨hx, hb, hml, hown, hts⟩ (kx_X5_thrown_0 l dC dI m0 m1 m2 m3 H.size) (cwV 0 hts gL_law_X5_thrown rfl rfl rfl (by decide +kernel) ⟨Nat.le_of_ble_eq_true rfl, Nat.le_of_ble_eq_true rfl⟩) ⟨fun a U g mk q => by obtain ⟨q0, q1, qP, qK, qD⟩ := q; exact ⟨q0, q1, qP, va_K.moved (u := U) (U := U.calling g mk a) (Vm.Alike.refl U.vm) qK, qD⟩, va_recv hKc hPc (ci := 9) (q0 := 0) rfl rfl, fun U hU hW => ⟨rfl, by rw [hU], by rw [hU]; exact hPc, va_K.moved hW.alike hKc, hDc.weaken (fun _ _ _ _ => trivial)⟩⟩ rfl rfl hl.1 rfl (lv_room (Nat.le_of_ble_eq_true rfl)) dL_law_1878 ⟨Nat.le_of_ble_eq_true rfl, Nat.le_of_ble_eq_true rfl⟩) hS (fun q _ h => hFc q h) hFc (fun r9 u t H1 locs ht hvm hw hB hz1 hk1 hS => ?_)
  obtain rfl := hw
  obtain ⟨hP1, hK1, hD1⟩ := hB
  rw [ht] at hP1
  have hK1 := va_K.moved hvm.symm hK1
  obtain ⟨hP, hD⟩ := va_join (wr := [(x0, .inr (7, [.ref x1, .ref x2, .ref x45, .ref x53, .ref x55, .ref x57, .int 0, .int 0, .int 0]))]) (w1 := [(m0, .inr (9, [.int 1, .ref m1, .ref m2, .ref m3, .int 0, .int 0, .int 0]))]) hP hD [1] [0] rfl rfl (by decide) (by decide) hk1 hFc hP1 hD1
  generalize H1 = H at hP hS ⊢
  have hP : va_P (dC, dI) vwCl [(x0, .inr (7, [.ref x1, .ref x2, .ref x45, .ref x53, .ref x55, .ref x57, .int 0, .int 0, .int 0])), (m0, .inr (9, [.int 1, .ref m1, .ref m2, .ref m3, .int 0, .int 0, .int 0]))] H := hP
  have hD : va_D A [(x0, .inr (7, [.ref x1, .ref x2, .ref x45, .ref x53, .ref x55, .ref x57, .int 0, .int 0, .int 0])), (m0, .inr (9, [.int 1, .ref m1, .ref m2, .ref m3, .int 0, .int 0, .int 0]))] := hD
  refine lv_iload hx hb dL_law_1881 (lv_at hl 1 rfl) ?_
  refine lv_icmp_eq (tgt := 1888) hx hb dL_law_1883 (by decide) (fun _ => ?_) (fun c9 => absurd (by decide) c9)
  refine lv_iload hx hb dL_law_1888 (lv_at hl 1 rfl) ?_
  refine lv_if_ne (tgt := 1907) hx hb dL_law_1890 (by decide) (fun _ => ?_) (fun c9 => absurd c9 (by decide))
  refine lv_goto (tgt := 2342) hx hb dL_law_1907 (by decide) ?_
  refine lv_iinc (v := 7) (lv' := [(4, .int 7), (6, .ref ge5), (5, .int 1), (3, .ref o0), (2, .ref m0), (1, .ref x0), (0, .ref b)]) hx hb dL_law_2342 hl (k := 2) rfl (by decide) (by decide) rfl (fun ls hl => ?_)
  refine lv_goto (tgt := 27) hx hb dL_law_2345 (by decide) ?_
  refine lv_iload hx hb dL_law_27 (lv_at hl 0 rfl) ?_
  refine lv_aload_n hx hb dL_law_29 rfl (lv_at hl 6 rfl) ?_
  refine va_slen hx hb hX hbl hbA hS dL_law_30 ?_
  refine lv_topi (fun y5 ey5 => ?_)
  obtain rfl : y5 = 7 := ey5.trans (by decide)
  refine lv_bipush (v := 7) hx hb dL_law_31 (by decide) ?_
  refine lv_isub hx hb dL_law_33 ?_
  refine lv_topi (fun y6 ey6 => ?_)
  obtain rfl : y6 = 0 := ey6.trans (by decide)
  refine lv_icmp_gt (tgt := 2348) hx hb dL_law_34 (by decide) (fun _ => ?_) (fun c9 => absurd (by decide) c9)
  refine lv_iconst (v := 1) hx hb dL_law_2348 (by decide) ?_
  refine va_forget (fun q hq => (by have h := hS.2.2 q hq; rw [hAe] at h; exact h)) ?_
  refine W.widen (k := 600002) (n := 7302232) (Nat.le_of_ble_eq_true rfl) (Nat.le_of_ble_eq_true rfl) ?_
  exact lw_ret hx hb hr hlocks dL_law_2349
set_option maxHeartbeats 4000000 in
set_option maxRecDepth 100000 in
theorem lc_spot_2 {p : Program} {e : Env} {s : State} {m : MethodId} {below : List Frame} {meth : Method} {c : Code} {l : Launch} (hst : l.stackTraces = false) {b : Nat} {xs : Nat → Int32} (C9 : lx_At p s m meth c b xs) {dC : Nat → ClassId} {dI : Nat → Nat → Nat} {ge5 gea gv5 gva gde gic gi0 : Nat} {x0 x1 x2 m0 m1 o0 x45 x53 x55 x57 x59 x61 x63 x65 x3 x4 x5 x7 x9 x11 m2 m3 : Nat} {xc0 mc0 : ClassId} (hG : gv ge5 gea gv5 gva gde gic gi0 (fun q => s.heap.size ≤ q) s s.heap) {v1 : Int32} (v1_l : (0 : Int) ≤ v1.toInt) (v1_u : v1.toInt ≤ (3 : Int)) {v2 : Int32} (v2_l : ((-2147483648) : Int) ≤ v2.toInt) (v2_u : v2.toInt ≤ ((-1) : Int)) (hx1 : xs 1 = v1) (hx2 : xs 2 = v2) {H : Heap} {locs : List Loc} (hK : va_K (dC, dI) vwCl [(xc0, .object "Rewriterope$Text"), (mc0, .object "java/lang/String")] s) (hP : va_P (dC, dI) vwCl [(x0, .inr (7, [.ref x1, .ref x2, .ref x45, .ref x53, .ref x55, .ref x57, .int 0, .int 0, .int 0])), (x1, .inl (xc0, 4, .inr (.inr (.inr (.inr (va_up (va_up (va_up (va_up (fun _ => none) 0 (some x59)) 1 (some x61)) 2 (some x63)) 3 (some x65))))))), (x2, .inr (5, [.ref x3, .ref x4, .ref x5, .ref x7, .ref x9, .ref x11, .int 0, .int 0])), (m0, .inr (9, [.int 0, .ref m1, .ref m2, .ref m3, .int 0, .int 0, .int 0])), (m1, .inl (mc0, 4, .inr (.inr (.inr (.inr (va_up (va_up (va_up (va_up (fun _ => none) 0 (some ge5)) 1 (some ge5)) 2 (some ge5)) 3 (some ge5))))))), (o0, .inr (8, [.long 0, .null]))] H) (hD : va_D (fun q => s.heap.size ≤ q) [(x0, .inr (7, [.ref x1, .ref x2, .ref x45, .ref x53, .ref x55, .ref x57, .int 0, .int 0, .int 0])), (x1, .inl (xc0, 4, .inr (.inr (.inr (.inr (va_up (va_up (va_up (va_up (fun _ => none) 0 (some x59)) 1 (some x61)) 2 (some x63)) 3 (some x65))))))), (x2, .inr (5, [.ref x3, .ref x4, .ref x5, .ref x7, .ref x9, .ref x11, .int 0, .int 0])), (m0, .inr (9, [.int 0, .ref m1, .ref m2, .ref m3, .int 0, .int 0, .int 0])), (m1, .inl (mc0, 4, .inr (.inr (.inr (.inr (va_up (va_up (va_up (va_up (fun _ => none) 0 (some ge5)) 1 (some ge5)) 2 (some ge5)) 3 (some ge5))))))), (o0, .inr (8, [.long 0, .null]))]) (hS : va_S (fun q => s.heap.size ≤ q) s.heap H locs) {ls : Array Slot} (hl : lv_has ls 7 [(4, .int 0), (3, .ref o0), (2, .ref m0), (1, .ref x0), (0, .ref b)]) : W p l e room_1 s m #[Value.ref b] below meth c H locs 72 2748 (lw_Z below #[Value.ref b] s) (F0 m 1840 ls []) := by
  obtain ⟨hx, hb, hr, hml, hown, hts, hX, hbl, hlocks⟩ := id C9
  have hA : ∀ q : Nat, s.heap.size ≤ q → (fun q : Nat => s.heap.size ≤ q) q := fun _ h => h
  have hbA : ¬ (fun q : Nat => s.heap.size ≤ q) b := Nat.not_le.mpr hbl
  obtain ⟨A, hAe⟩ : ∃ A : Nat → Prop, A = (fun q : Nat => s.heap.size ≤ q) := ⟨_, rfl⟩
  rw [← hAe] at hG hD hS hA hbA
  obtain ⟨⟨g_AO_Text, g_AO_String, g_AO_Object, g_nm_RX1_20, g_nm_RX0_17, g_nm_RX3_31, g_nm_RX2_44, g_nm_RL_121, g_nf_RL_13, g_nf_RL_47, g_ca_IO, g_ca_IA, g_ca_IS, g_ca_IntObj, g_ca_StrObj, g_de_RT, g_de_EX, g_de_TH, g_nc_IA_IO, g_nc_IS_IO, g_nc_IS_IA⟩, ⟨g_s3, g_s5, g_sa, g_x278, g_x280, g_x282, g_x284, g_x286, g_x180, g_x238, g_x250⟩, ⟨g_o5, g_c5, g_v5, g_t5, g_oa, g_ca, g_va, g_ta, g_zc, g_zd, g_td, g_zf, g_zU, g_zN, g_zh, g_zk, g_tk, g_oi, g_vi⟩⟩ := id hG
  refine lv_aload_n hx hb dL_law_1840 rfl (lv_at hl 3 rfl) ?_
  refine lv_aload_n hx hb dL_law_1841 rfl (lv_at hl 4 rfl) ?_
  refine lv_iload hx hb dL_law_1842 (lv_at hl 0 rfl) ?_
  refine lv_iconst (v := 1) hx hb dL_law_1844 (by decide) ?_
  refine lv_iadd hx hb dL_law_1845 ?_
  refine lv_topi (fun y1 ey1 => ?_)
  obtain rfl : y1 = 1 := ey1.trans (by decide)
  refine va_sld hx hb hX hbl hbA hS (by unfold vp_in; decide) dL_law_1846 ?_
  rw [show xs (Int32.toNatClampNeg 1) = v1 from hx1]
  refine lv_aload_n hx hb dL_law_1847 rfl (lv_at hl 4 rfl) ?_
  refine lv_iload hx hb dL_law_1848 (lv_at hl 0 rfl) ?_
  refine lv_iconst (v := 2) hx hb dL_law_1850 (by decide) ?_
  refine lv_iadd hx hb dL_law_1851 ?_
  refine lv_topi (fun y2 ey2 => ?_)
  obtain rfl : y2 = 2 := ey2.trans (by decide)
  refine va_sld hx hb hX hbl hbA hS (by unfold vp_in; decide) dL_law_1852 ?_
  rw [show xs (Int32.toNatClampNeg 2) = v2 from hx2]
  refine lv_aload_n hx hb dL_law_1853 rfl (lv_at hl 1 rfl) ?_
  have hPc := hP.sub (ws' := [(x0, .inr (7, [.ref x1, .ref x2, .ref x45, .ref x53, .ref x55, .ref x57, .int 0, .int 0, .int 0])), (x1, .inl (xc0, 4, .inr (.inr (.inr (.inr (va_up (va_up (va_up (va_up (fun _ => none) 0 (some x59)) 1 (some x61)) 2 (some x63)) 3 (some x65))))))), (x2, .inr (5, [.ref x3, .ref x4, .ref x5, .ref x7, .ref x9, .ref x11, .int 0, .int 0])), (o0, .inr (8, [.long 0, .null]))]) [0, 1, 2, 5] rfl
  have hDc := hD.sub (ws' := [(x0, .inr (7, [.ref x1, .ref x2, .ref x45, .ref x53, .ref x55, .ref x57, .int 0, .int 0, .int 0])), (x1, .inl (xc0, 4, .inr (.inr (.inr (.inr (va_up (va_up (va_up (va_up (fun _ => none) 0 (some x59)) 1 (some x61)) 2 (some x63)) 3 (some x65))))))), (x2, .inr (5, [.ref x3, .ref x4, .ref x5, .ref x7, .ref x9, .ref x11, .int 0, .int 0])), (o0, .inr (8, [.long 0, .null]))]) [0, 1, 2, 5] (by decide) rfl
  have hKc := hK.sub (tys' := [(xc0, .object "Rewriterope$Text")]) [0] rfl
  have hFc := va_free (wc := [(x0, .inr (7, [.ref x1, .ref x2, .ref x45, .ref x53, .ref x55, .ref x57, .int 0, .int 0, .int 0])), (x1, .inl (xc0, 4, .inr (.inr (.inr (.inr (va_up (va_up (va_up (va_up (fun _ => none) 0 (some x59)) 1 (some x61)) 2 (some x63)) 3 (some x65))))))), (x2, .inr (5, [.ref x3, .ref x4, .ref x5, .ref x7, .ref x9, .ref x11, .int 0, .int 0])), (o0, .inr (8, [.long 0, .null]))]) hD hS hA [0, 1, 2, 5] rfl
  refine va_calli (vx_runSW (As := [.ref x0, .int v1, .int v2, .ref o0]) (rest := []) ⟨hx, hb, hml, hown, hts⟩ (kx_L_spot_2 l dC dI ge5 gea gv5 gva gde gic gi0 x0 x1 x2 o0 x45 x53 x55 x57 x59 x61 x63 x65 x3 x4 x5 x7 x9 x11 xc0 H.size v1 v1_l v1_u v2 v2_l v2_u) (vx_cwSW 4 hts gL_law_L_spot rfl rfl rfl (by decide +kernel) ⟨Nat.le_of_ble_eq_true rfl, Nat.le_of_ble_eq_true rfl⟩) ⟨fun a U g mk q => by obtain ⟨q0, q1, qP, qK, qD, qG⟩ := q; exact ⟨q0, q1, qP, va_K.moved (u := U) (U := U.calling g mk a) (Vm.Alike.refl U.vm) qK, qD, gv.fb qG⟩, fun U hU hW => ⟨rfl, by rw [hU], by rw [hU]; exact hPc, va_K.moved hW.alike hKc, hDc.weaken (fun _ _ _ _ => trivial), gv.pass hW hU hS hFc hG⟩⟩ rfl rfl hl.1 rfl (lv_room (Nat.le_of_ble_eq_true rfl)) dL_law_1854 ⟨Nat.le_of_ble_eq_true rfl, Nat.le_of_ble_eq_true rfl⟩) hS (fun q _ h => hFc q h) hFc (fun r9 u t H1 locs ht hvm hw hB hz1 hk1 hS => ?_)
  obtain rfl := hw
  obtain ⟨hP1, hK1, hD1⟩ := hB
  rw [ht] at hP1
  have hK1 := va_K.moved hvm.symm hK1
  obtain ⟨hP, hD⟩ := va_join (wr := [(m0, .inr (9, [.int 0, .ref m1, .ref m2, .ref m3, .int 0, .int 0, .int 0])), (m1, .inl (mc0, 4, .inr (.inr (.inr (.inr (va_up (va_up (va_up (va_up (fun _ => none) 0 (some ge5)) 1 (some ge5)) 2 (some ge5)) 3 (some ge5)))))))]) (w1 := [(x0, .inr (7, [.ref x1, .ref x2, .ref x45, .ref x53, .ref x55, .ref x57, .int 0, .int 0, .int 0])), (x1, .inl (xc0, 4, .inr (.inr (.inr (.inr (va_up (va_up (va_up (va_up (fun _ => none) 0 (some x59)) 1 (some x61)) 2 (some x63)) 3 (some x65))))))), (x2, .inr (5, [.ref x3, .ref x4, .ref x5, .ref x7, .ref x9, .ref x11, .int 0, .int 0])), (o0, .inr (8, [.long 0, .ref ge5]))]) hP hD [0, 1, 2, 5] [3, 4] rfl rfl (by decide) (by decide) hk1 hFc hP1 hD1
  generalize H1 = H at hP hS ⊢
  have hP : va_P (dC, dI) vwCl [(m0, .inr (9, [.int 0, .ref m1, .ref m2, .ref m3, .int 0, .int 0, .int 0])), (m1, .inl (mc0, 4, .inr (.inr (.inr (.inr (va_up (va_up (va_up (va_up (fun _ => none) 0 (some ge5)) 1 (some ge5)) 2 (some ge5)) 3 (some ge5))))))), (x0, .inr (7, [.ref x1, .ref x2, .ref x45, .ref x53, .ref x55, .ref x57, .int 0, .int 0, .int 0])), (x1, .inl (xc0, 4, .inr (.inr (.inr (.inr (va_up (va_up (va_up (va_up (fun _ => none) 0 (some x59)) 1 (some x61)) 2 (some x63)) 3 (some x65))))))), (x2, .inr (5, [.ref x3, .ref x4, .ref x5, .ref x7, .ref x9, .ref x11, .int 0, .int 0])), (o0, .inr (8, [.long 0, .ref ge5]))] H := hP
  have hD : va_D A [(m0, .inr (9, [.int 0, .ref m1, .ref m2, .ref m3, .int 0, .int 0, .int 0])), (m1, .inl (mc0, 4, .inr (.inr (.inr (.inr (va_up (va_up (va_up (va_up (fun _ => none) 0 (some ge5)) 1 (some ge5)) 2 (some ge5)) 3 (some ge5))))))), (x0, .inr (7, [.ref x1, .ref x2, .ref x45, .ref x53, .ref x55, .ref x57, .int 0, .int 0, .int 0])), (x1, .inl (xc0, 4, .inr (.inr (.inr (.inr (va_up (va_up (va_up (va_up (fun _ => none) 0 (some x59)) 1 (some x61)) 2 (some x63)) 3 (some x65))))))), (x2, .inr (5, [.ref x3, .ref x4, .ref x5, .ref x7, .ref x9, .ref x11, .int 0, .int 0])), (o0, .inr (8, [.long 0, .ref ge5]))] := hD
  refine lv_istore (lv' := [(5, .int 0), (4, .int 0), (3, .ref o0), (2, .ref m0), (1, .ref x0), (0, .ref b)]) hx hb dL_law_1857 hl (by decide) rfl (fun ls hl => ?_)
  refine lv_aload_n hx hb dL_law_1859 rfl (lv_at hl 3 rfl) ?_
  refine lv_aload_n hx hb dL_law_1860 rfl (lv_at hl 5 rfl) ?_
  refine lv_iload hx hb dL_law_1861 (lv_at hl 1 rfl) ?_
  refine lv_iconst (v := 1) hx hb dL_law_1863 (by decide) ?_
  refine lv_iadd hx hb dL_law_1864 ?_
  refine lv_topi (fun y3 ey3 => ?_)
  obtain rfl : y3 = 1 := ey3.trans (by decide)
  refine va_sld hx hb hX hbl hbA hS (by unfold vp_in; decide) dL_law_1865 ?_
  rw [show xs (Int32.toNatClampNeg 1) = v1 from hx1]
  refine lv_aload_n hx hb dL_law_1866 rfl (lv_at hl 5 rfl) ?_
  refine lv_iload hx hb dL_law_1867 (lv_at hl 1 rfl) ?_
  refine lv_iconst (v := 2) hx hb dL_law_1869 (by decide) ?_
  refine lv_iadd hx hb dL_law_1870 ?_
  refine lv_topi (fun y4 ey4 => ?_)
  obtain rfl : y4 = 2 := ey4.trans (by decide)
  refine va_sld hx hb hX hbl hbA hS (by unfold vp_in; decide) dL_law_1871 ?_
  rw [show xs (Int32.toNatClampNeg 2) = v2 from hx2]
  have hPc := hP.sub (ws' := [(m0, .inr (9, [.int 0, .ref m1, .ref m2, .ref m3, .int 0, .int 0, .int 0])), (m1, .inl (mc0, 4, .inr (.inr (.inr (.inr (va_up (va_up (va_up (va_up (fun _ => none) 0 (some ge5)) 1 (some ge5)) 2 (some ge5)) 3 (some ge5)))))))]) [0, 1] rfl
  have hDc := hD.sub (ws' := [(m0, .inr (9, [.int 0, .ref m1, .ref m2, .ref m3, .int 0, .int 0, .int 0])), (m1, .inl (mc0, 4, .inr (.inr (.inr (.inr (va_up (va_up (va_up (va_up (fun _ => none) 0 (some ge5)) 1 (some ge5)) 2 (some ge5)) 3 (some ge5)))))))]) [0, 1] (by decide) rfl
  have hKc := hK.sub (tys' := [(mc0, .object "java/lang/String")]) [1] rfl
  have hFc := va_free (wc := [(m0, .inr (9, [.int 0, .ref m1, .ref m2, .ref m3, .int 0, .int 0, .int 0])), (m1, .inl (mc0, 4, .inr (.inr (.inr (.inr (va_up (va_up (va_up (va_up (fun _ => none) 0 (some ge5)) 1 (some ge5)) 2 (some ge5)) 3 (some ge5)))))))]) hD hS hA [0, 1] rfl
  refine va_callr (va_runV (As := [.int v1, .int v2]) (rest := []) ⟨hx, hb, hml, hown, hts⟩ (kx_X5_spot_2 l dC dI ge5 gea gv5 gva gde gic gi0 m0 m1 m2 m3 mc0 H.size v1 v1_l v1_u v2 v2_l v2_u) (cwV 2 hts gL_law_X5_spot rfl rfl rfl (by decide +kernel) ⟨Nat.le_of_ble_eq_true rfl, Nat.le_of_ble_eq_true rfl⟩) ⟨fun a U g mk q => by obtain ⟨q0, q1, qP, qK, qD, qG⟩ := q; exact ⟨q0, q1, qP, va_K.moved (u := U) (U := U.calling g mk a) (Vm.Alike.refl U.vm) qK, qD, gv.fb qG⟩, va_recv hKc hPc (ci := 9) (q0 := 0) rfl rfl, fun U hU hW => ⟨rfl, by rw [hU], by rw [hU]; exact hPc, va_K.moved hW.alike hKc, hDc.weaken (fun _ _ _ _ => trivial), gv.pass hW hU hS hFc hG⟩⟩ rfl rfl hl.1 rfl (lv_room (Nat.le_of_ble_eq_true rfl)) dL_law_1872 ⟨Nat.le_of_ble_eq_true rfl, Nat.le_of_ble_eq_true rfl⟩) hS (fun q _ h => hFc q h) hFc (fun u ra t H1 locs ht hvm hw hB hz1 hk1 hS => ?_)
  obtain ⟨q5, hra, hP1, hK1, hD1⟩ := hB
  rw [hra]
  rw [ht] at hP1
  have hK1 := va_K.moved hvm.symm hK1
  obtain ⟨hP, hD⟩ := va_join (wr := [(x0, .inr (7, [.ref x1, .ref x2, .ref x45, .ref x53, .ref x55, .ref x57, .int 0, .int 0, .int 0])), (x1, .inl (xc0, 4, .inr (.inr (.inr (.inr (va_up (va_up (va_up (va_up (fun _ => none) 0 (some x59)) 1 (some x61)) 2 (some x63)) 3 (some x65))))))), (x2, .inr (5, [.ref x3, .ref x4, .ref x5, .ref x7, .ref x9, .ref x11, .int 0, .int 0])), (o0, .inr (8, [.long 0, .ref ge5]))]) (w1 := [(m0, .inr (9, [.int 0, .ref m1, .ref m2, .ref m3, .int 0, .int 0, .int 0]))]) hP hD [0, 1] [2, 3, 4, 5] rfl rfl (by decide) (by decide) hk1 hFc hP1 hD1
  generalize H1 = H at hP hS ⊢
  have hP : va_P (dC, dI) vwCl [(x0, .inr (7, [.ref x1, .ref x2, .ref x45, .ref x53, .ref x55, .ref x57, .int 0, .int 0, .int 0])), (x1, .inl (xc0, 4, .inr (.inr (.inr (.inr (va_up (va_up (va_up (va_up (fun _ => none) 0 (some x59)) 1 (some x61)) 2 (some x63)) 3 (some x65))))))), (x2, .inr (5, [.ref x3, .ref x4, .ref x5, .ref x7, .ref x9, .ref x11, .int 0, .int 0])), (o0, .inr (8, [.long 0, .ref ge5])), (m0, .inr (9, [.int 0, .ref m1, .ref m2, .ref m3, .int 0, .int 0, .int 0]))] H := hP
  have hD : va_D A [(x0, .inr (7, [.ref x1, .ref x2, .ref x45, .ref x53, .ref x55, .ref x57, .int 0, .int 0, .int 0])), (x1, .inl (xc0, 4, .inr (.inr (.inr (.inr (va_up (va_up (va_up (va_up (fun _ => none) 0 (some x59)) 1 (some x61)) 2 (some x63)) 3 (some x65))))))), (x2, .inr (5, [.ref x3, .ref x4, .ref x5, .ref x7, .ref x9, .ref x11, .int 0, .int 0])), (o0, .inr (8, [.long 0, .ref ge5])), (m0, .inr (9, [.int 0, .ref m1, .ref m2, .ref m3, .int 0, .int 0, .int 0]))] := hD
  refine W.widen (k := 73) (n := 2751) (by omega) (by omega) ?_
  refine lv_astore (lv' := [(6, .ref ge5), (5, .int 0), (4, .int 0), (3, .ref o0), (2, .ref m0), (1, .ref x0), (0, .ref b)]) hx hb dL_law_1875 hl (by decide) rfl (fun ls hl => ?_)
  refine lv_aload_n hx hb dL_law_1877 rfl (lv_at hl 4 rfl) ?_
  have hPc := hP.sub (ws' := [(m0, .inr (9, [.int 0, .ref m1, .ref m2, .ref m3, .int 0, .int 0, .int 0]))]) [4] rfl
  have hDc := hD.sub (ws' := [(m0, .inr (9, [.int 0, .ref m1, .ref m2, .ref m3, .int 0, .int 0, .int 0]))]) [4] (by decide) rfl
  have hKc := hK.sub (tys' := []) [] rfl
  have hFc := va_free (wc := [(m0, .inr (9, [.int 0, .ref m1, .ref m2, .ref m3, .int 0, .int 0, .int 0]))]) hD hS hA [4] rfl
  refine va_calli (va_runV (As := []) (rest := []) ⟨hx, hb, hml, hown, hts⟩ (kx_X5_thrown_2 l dC dI m0 m1 m2 m3 H.size) (cwV 0 hts gL_law_X5_thrown rfl rfl rfl (by decide +kernel) ⟨Nat.le_of_ble_eq_true rfl, Nat.le_of_ble_eq_true rfl⟩) ⟨fun a U g mk q => by obtain ⟨q0, q1, qP, qK, qD⟩ := q; exact ⟨q0, q1, qP, va_K.moved (u := U) (U := U.calling g mk a) (Vm.Alike.refl U.vm) qK, qD⟩, va_recv hKc hPc (ci := 9) (q0 := 0) rfl rfl, fun U hU hW => ⟨rfl, by rw [hU], by rw [hU]; exact hPc, va_K.moved hW.alike hKc, hDc.weaken (fun _ _ _ _ => trivial)⟩⟩ rfl rfl hl.1 rfl (lv_room (Nat.le_of_ble_eq_true rfl)) dL_law_1878 ⟨Nat.le_of_ble_eq_true rfl, Nat.le_of_ble_eq_true rfl⟩) hS (fun q _ h => hFc q h) hFc (fun r9 u t H1 locs ht hvm hw hB hz1 hk1 hS => ?_)
  obtain rfl := hw
  obtain ⟨hP1, hK1, hD1⟩ := hB
  rw [ht] at hP1
  have hK1 := va_K.moved hvm.symm hK1
  obtain ⟨hP, hD⟩ := va_join (wr := [(x0, .inr (7, [.ref x1, .ref x2, .ref x45, .ref x53, .ref x55, .ref x57, .int 0, .int 0, .int 0])), (x1, .inl (xc0, 4, .inr (.inr (.inr (.inr (va_up (va_up (va_up (va_up (fun _ => none) 0 (some x59)) 1 (some x61)) 2 (some x63)) 3 (some x65))))))), (x2, .inr (5, [.ref x3, .ref x4, .ref x5, .ref x7, .ref x9, .ref x11, .int 0, .int 0])), (o0, .inr (8, [.long 0, .ref ge5]))]) (w1 := [(m0, .inr (9, [.int 0, .ref m1, .ref m2, .ref m3, .int 0, .int 0, .int 0]))]) hP hD [4] [0, 1, 2, 3] rfl rfl (by decide) (by decide) hk1 hFc hP1 hD1
  generalize H1 = H at hP hS ⊢
  have hP : va_P (dC, dI) vwCl [(x0, .inr (7, [.ref x1, .ref x2, .ref x45, .ref x53, .ref x55, .ref x57, .int 0, .int 0, .int 0])), (x1, .inl (xc0, 4, .inr (.inr (.inr (.inr (va_up (va_up (va_up (va_up (fun _ => none) 0 (some x59)) 1 (some x61)) 2 (some x63)) 3 (some x65))))))), (x2, .inr (5, [.ref x3, .ref x4, .ref x5, .ref x7, .ref x9, .ref x11, .int 0, .int 0])), (o0, .inr (8, [.long 0, .ref ge5])), (m0, .inr (9, [.int 0, .ref m1, .ref m2, .ref m3, .int 0, .int 0, .int 0]))] H := hP
  have hD : va_D A [(x0, .inr (7, [.ref x1, .ref x2, .ref x45, .ref x53, .ref x55, .ref x57, .int 0, .int 0, .int 0])), (x1, .inl (xc0, 4, .inr (.inr (.inr (.inr (va_up (va_up (va_up (va_up (fun _ => none) 0 (some x59)) 1 (some x61)) 2 (some x63)) 3 (some x65))))))), (x2, .inr (5, [.ref x3, .ref x4, .ref x5, .ref x7, .ref x9, .ref x11, .int 0, .int 0])), (o0, .inr (8, [.long 0, .ref ge5])), (m0, .inr (9, [.int 0, .ref m1, .ref m2, .ref m3, .int 0, .int 0, .int 0]))] := hD
  refine lv_iload hx hb dL_law_1881 (lv_at hl 1 rfl) ?_
  refine lv_icmp_eq (tgt := 1888) hx hb dL_law_1883 (by decide) (fun _ => ?_) (fun c9 => absurd (by decide) c9)
  refine lv_iload hx hb dL_law_1888 (lv_at hl 1 rfl) ?_
  refine lv_if_ne (tgt := 1907) hx hb dL_law_1890 (by decide) (fun c9 => absurd (by decide) c9) (fun _ => ?_)
  refine lv_aload_n hx hb dL_law_1893 rfl (lv_at hl 3 rfl) ?_
  refine va_getN (D := (dC, dI)) (ci := 8) (v := .ref ge5) (C := RX4) (T := TX4) (N := 2) hx hb hts (by decide +kernel) hown hK hP 3 rfl rfl 1 (by decide) (va_Nw.use rfl g_nf_RL_47) (fun _ h9 => h9) rfl dL_law_1894 ?_
  refine lv_aload hx hb dL_law_1897 (lv_at hl 0 rfl) ?_
  have hPc := hP.sub (ws' := []) [] rfl
  have hDc := hD.sub (ws' := []) [] (by decide) rfl
  have hKc := hK.sub (tys' := []) [] rfl
  have hFc := va_free (wc := []) hD hS hA [] rfl
  refine va_calli (va_runV (As := [.ref ge5]) (rest := []) ⟨hx, hb, hml, hown, hts⟩ (kx_J0_equals_9ea2d_1 l dC dI ge5 gea gv5 gva gde gic gi0 H.size) (cwV 1 hts gL_law_J0_equals_9ea2d rfl rfl rfl (by decide +kernel) ⟨Nat.le_of_ble_eq_true rfl, Nat.le_of_ble_eq_true rfl⟩) ⟨fun a U g mk q => by obtain ⟨q0, q1, qP, qK, qD, qG⟩ := q; exact ⟨q0, q1, qP, va_K.moved (u := U) (U := U.calling g mk a) (Vm.Alike.refl U.vm) qK, qD, gv.fb qG⟩, (by obtain ⟨cell, k1, k2, k3, -⟩ := g_o5.kept hS.2.1; exact ⟨cell, k1, k2, k3⟩), fun U hU hW => ⟨rfl, by rw [hU], by rw [hU]; exact hPc, va_K.moved hW.alike hKc, hDc.weaken (fun _ _ _ _ => trivial), gv.pass hW hU hS hFc hG⟩⟩ rfl rfl hl.1 rfl (lv_room (Nat.le_of_ble_eq_true rfl)) dL_law_1899 ⟨Nat.le_of_ble_eq_true rfl, Nat.le_of_ble_eq_true rfl⟩) hS (fun q _ h => hFc q h) hFc (fun r9 u t H1 locs ht hvm hw hB hz1 hk1 hS => ?_)
  obtain rfl := hw
  obtain ⟨hP1, hK1, hD1⟩ := hB
  rw [ht] at hP1
  have hK1 := va_K.moved hvm.symm hK1
  obtain ⟨hP, hD⟩ := va_join (wr := [(x0, .inr (7, [.ref x1, .ref x2, .ref x45, .ref x53, .ref x55, .ref x57, .int 0, .int 0, .int 0])), (x1, .inl (xc0, 4, .inr (.inr (.inr (.inr (va_up (va_up (va_up (va_up (fun _ => none) 0 (some x59)) 1 (some x61)) 2 (some x63)) 3 (some x65))))))), (x2, .inr (5, [.ref x3, .ref x4, .ref x5, .ref x7, .ref x9, .ref x11, .int 0, .int 0])), (o0, .inr (8, [.long 0, .ref ge5])), (m0, .inr (9, [.int 0, .ref m1, .ref m2, .ref m3, .int 0, .int 0, .int 0]))]) (w1 := []) hP hD [] [0, 1, 2, 3, 4] rfl rfl (by decide) (by decide) hk1 hFc hP1 hD1
  generalize H1 = H at hP hS ⊢
  have hP : va_P (dC, dI) vwCl [(x0, .inr (7, [.ref x1, .ref x2, .ref x45, .ref x53, .ref x55, .ref x57, .int 0, .int 0, .int 0])), (x1, .inl (xc0, 4, .inr (.inr (.inr (.inr (va_up (va_up (va_up (va_up (fun _ => none) 0 (some x59)) 1 (some x61)) 2 (some x63)) 3 (some x65))))))), (x2, .inr (5, [.ref x3, .ref x4, .ref x5, .ref x7, .ref x9, .ref x11, .int 0, .int 0])), (o0, .inr (8, [.long 0, .ref ge5])), (m0, .inr (9, [.int 0, .ref m1, .ref m2, .ref m3, .int 0, .int 0, .int 0]))] H := hP
  have hD : va_D A [(x0, .inr (7, [.ref x1, .ref x2, .ref x45, .ref x53, .ref x55, .ref x57, .int 0, .int 0, .int 0])), (x1, .inl (xc0, 4, .inr (.inr (.inr (.inr (va_up (va_up (va_up (va_up (fun _ => none) 0 (some x59)) 1 (some x61)) 2 (some x63)) 3 (some x65))))))), (x2, .inr (5, [.ref x3, .ref x4, .ref x5, .ref x7, .ref x9, .ref x11, .int 0, .int 0])), (o0, .inr (8, [.long 0, .ref ge5])), (m0, .inr (9, [.int 0, .ref m1, .ref m2, .ref m3, .int 0, .int 0, .int 0]))] := hD
  refine lv_if_ne (tgt := 1907) hx hb dL_law_1902 (by decide) (fun _ => ?_) (fun c9 => absurd c9 (by decide))
  refine lv_goto (tgt := 2342) hx hb dL_law_1907 (by decide) ?_
  refine lv_iinc (v := 7) (lv' := [(4, .int 7), (6, .ref ge5), (5, .int 0), (3, .ref o0), (2, .ref m0), (1, .ref x0), (0, .ref b)]) hx hb dL_law_2342 hl (k := 2) rfl (by decide) (by decide) rfl (fun ls hl => ?_)
  refine lv_goto (tgt := 27) hx hb dL_law_2345 (by decide) ?_
  refine lv_iload hx hb dL_law_27 (lv_at hl 0 rfl) ?_
  refine lv_aload_n hx hb dL_law_29 rfl (lv_at hl 6 rfl) ?_
  refine va_slen hx hb hX hbl hbA hS dL_law_30 ?_
  refine lv_topi (fun y6 ey6 => ?_)
  obtain rfl : y6 = 7 := ey6.trans (by decide)
  refine lv_bipush (v := 7) hx hb dL_law_31 (by decide) ?_
  refine lv_isub hx hb dL_law_33 ?_
  refine lv_topi (fun y7 ey7 => ?_)
  obtain rfl : y7 = 0 := ey7.trans (by decide)
  refine lv_icmp_gt (tgt := 2348) hx hb dL_law_34 (by decide) (fun _ => ?_) (fun c9 => absurd (by decide) c9)
  refine lv_iconst (v := 1) hx hb dL_law_2348 (by decide) ?_
  refine va_forget (fun q hq => (by have h := hS.2.2 q hq; rw [hAe] at h; exact h)) ?_
  refine W.widen (k := 600002) (n := 7302232) (Nat.le_of_ble_eq_true rfl) (Nat.le_of_ble_eq_true rfl) ?_
  exact lw_ret hx hb hr hlocks dL_law_2349
set_option maxHeartbeats 4000000 in
set_option maxRecDepth 100000 in
theorem lc_spot_3 {p : Program} {e : Env} {s : State} {m : MethodId} {below : List Frame} {meth : Method} {c : Code} {l : Launch} (hst : l.stackTraces = false) {b : Nat} {xs : Nat → Int32} (C9 : lx_At p s m meth c b xs) {dC : Nat → ClassId} {dI : Nat → Nat → Nat} {ge5 gea gv5 gva gde gic gi0 : Nat} {x0 x1 x2 x59 x61 x63 x65 m0 m1 o0 x45 x53 x55 x57 x3 x4 x5 x7 x9 x11 x60 x62 x64 x66 m2 m3 : Nat} {xc0 mc0 : ClassId} (hG : gv ge5 gea gv5 gva gde gic gi0 (fun q => s.heap.size ≤ q) s s.heap) {v1 : Int32} (v1_l : (0 : Int) ≤ v1.toInt) (v1_u : v1.toInt ≤ (3 : Int)) {v2 : Int32} (v2_l : (0 : Int) ≤ v2.toInt) (v2_u : v2.toInt ≤ (2147483647 : Int)) (hx1 : xs 1 = v1) (hx2 : xs 2 = v2) {H : Heap} {locs : List Loc} (hK : va_K (dC, dI) vwCl [(xc0, .object "Rewriterope$Text"), (mc0, .object "java/lang/String")] s) (hP : va_P (dC, dI) vwCl [(x0, .inr (7, [.ref x1, .ref x2, .ref x45, .ref x53, .ref x55, .ref x57, .int 0, .int 0, .int 0])), (x1, .inl (xc0, 4, .inr (.inr (.inr (.inr (va_up (va_up (va_up (va_up (fun _ => none) 0 (some x59)) 1 (some x61)) 2 (some x63)) 3 (some x65))))))), (x2, .inr (5, [.ref x3, .ref x4, .ref x5, .ref x7, .ref x9, .ref x11, .int 0, .int 0])), (x59, .inr (6, [.ref x60, .int 0])), (x61, .inr (6, [.ref x62, .int 0])), (x63, .inr (6, [.ref x64, .int 0])), (x65, .inr (6, [.ref x66, .int 0])), (m0, .inr (9, [.int 0, .ref m1, .ref m2, .ref m3, .int 0, .int 0, .int 0])), (m1, .inl (mc0, 4, .inr (.inr (.inr (.inr (va_up (va_up (va_up (va_up (fun _ => none) 0 (some ge5)) 1 (some ge5)) 2 (some ge5)) 3 (some ge5))))))), (o0, .inr (8, [.long 0, .null]))] H) (hD : va_D (fun q => s.heap.size ≤ q) [(x0, .inr (7, [.ref x1, .ref x2, .ref x45, .ref x53, .ref x55, .ref x57, .int 0, .int 0, .int 0])), (x1, .inl (xc0, 4, .inr (.inr (.inr (.inr (va_up (va_up (va_up (va_up (fun _ => none) 0 (some x59)) 1 (some x61)) 2 (some x63)) 3 (some x65))))))), (x2, .inr (5, [.ref x3, .ref x4, .ref x5, .ref x7, .ref x9, .ref x11, .int 0, .int 0])), (x59, .inr (6, [.ref x60, .int 0])), (x61, .inr (6, [.ref x62, .int 0])), (x63, .inr (6, [.ref x64, .int 0])), (x65, .inr (6, [.ref x66, .int 0])), (m0, .inr (9, [.int 0, .ref m1, .ref m2, .ref m3, .int 0, .int 0, .int 0])), (m1, .inl (mc0, 4, .inr (.inr (.inr (.inr (va_up (va_up (va_up (va_up (fun _ => none) 0 (some ge5)) 1 (some ge5)) 2 (some ge5)) 3 (some ge5))))))), (o0, .inr (8, [.long 0, .null]))]) (hS : va_S (fun q => s.heap.size ≤ q) s.heap H locs) {ls : Array Slot} (hl : lv_has ls 7 [(4, .int 0), (3, .ref o0), (2, .ref m0), (1, .ref x0), (0, .ref b)]) : W p l e room_1 s m #[Value.ref b] below meth c H locs 72 2748 (lw_Z below #[Value.ref b] s) (F0 m 1840 ls []) := by
  obtain ⟨hx, hb, hr, hml, hown, hts, hX, hbl, hlocks⟩ := id C9
  have hA : ∀ q : Nat, s.heap.size ≤ q → (fun q : Nat => s.heap.size ≤ q) q := fun _ h => h
  have hbA : ¬ (fun q : Nat => s.heap.size ≤ q) b := Nat.not_le.mpr hbl
  obtain ⟨A, hAe⟩ : ∃ A : Nat → Prop, A = (fun q : Nat => s.heap.size ≤ q) := ⟨_, rfl⟩
  rw [← hAe] at hG hD hS hA hbA
  obtain ⟨⟨g_AO_Text, g_AO_String, g_AO_Object, g_nm_RX1_20, g_nm_RX0_17, g_nm_RX3_31, g_nm_RX2_44, g_nm_RL_121, g_nf_RL_13, g_nf_RL_47, g_ca_IO, g_ca_IA, g_ca_IS, g_ca_IntObj, g_ca_StrObj, g_de_RT, g_de_EX, g_de_TH, g_nc_IA_IO, g_nc_IS_IO, g_nc_IS_IA⟩, ⟨g_s3, g_s5, g_sa, g_x278, g_x280, g_x282, g_x284, g_x286, g_x180, g_x238, g_x250⟩, ⟨g_o5, g_c5, g_v5, g_t5, g_oa, g_ca, g_va, g_ta, g_zc, g_zd, g_td, g_zf, g_zU, g_zN, g_zh, g_zk, g_tk, g_oi, g_vi⟩⟩ := id hG
  refine lv_aload_n hx hb dL_law_1840 rfl (lv_at hl 3 rfl) ?_
  refine lv_aload_n hx hb dL_law_1841 rfl (lv_at hl 4 rfl) ?_
  refine lv_iload hx hb dL_law_1842 (lv_at hl 0 rfl) ?_
  refine lv_iconst (v := 1) hx hb dL_law_1844 (by decide) ?_
  refine lv_iadd hx hb dL_law_1845 ?_
  refine lv_topi (fun y1 ey1 => ?_)
  obtain rfl : y1 = 1 := ey1.trans (by decide)
  refine va_sld hx hb hX hbl hbA hS (by unfold vp_in; decide) dL_law_1846 ?_
  rw [show xs (Int32.toNatClampNeg 1) = v1 from hx1]
  refine lv_aload_n hx hb dL_law_1847 rfl (lv_at hl 4 rfl) ?_
  refine lv_iload hx hb dL_law_1848 (lv_at hl 0 rfl) ?_
  refine lv_iconst (v := 2) hx hb dL_law_1850 (by decide) ?_
  refine lv_iadd hx hb dL_law_1851 ?_
  refine lv_topi (fun y2 ey2 => ?_)
  obtain rfl : y2 = 2 := ey2.trans (by decide)
  refine va_sld hx hb hX hbl hbA hS (by unfold vp_in; decide) dL_law_1852 ?_
  rw [show xs (Int32.toNatClampNeg 2) = v2 from hx2]
  refine lv_aload_n hx hb dL_law_1853 rfl (lv_at hl 1 rfl) ?_
  have hPc := hP.sub (ws' := [(x0, .inr (7, [.ref x1, .ref x2, .ref x45, .ref x53, .ref x55, .ref x57, .int 0, .int 0, .int 0])), (x1, .inl (xc0, 4, .inr (.inr (.inr (.inr (va_up (va_up (va_up (va_up (fun _ => none) 0 (some x59)) 1 (some x61)) 2 (some x63)) 3 (some x65))))))), (x2, .inr (5, [.ref x3, .ref x4, .ref x5, .ref x7, .ref x9, .ref x11, .int 0, .int 0])), (x59, .inr (6, [.ref x60, .int 0])), (x61, .inr (6, [.ref x62, .int 0])), (x63, .inr (6, [.ref x64, .int 0])), (x65, .inr (6, [.ref x66, .int 0])), (o0, .inr (8, [.long 0, .null]))]) [0, 1, 2, 3, 4, 5, 6, 9] rfl
  have hDc := hD.sub (ws' := [(x0, .inr (7, [.ref x1, .ref x2, .ref x45, .ref x53, .ref x55, .ref x57, .int 0, .int 0, .int 0])), (x1, .inl (xc0, 4, .inr (.inr (.inr (.inr (va_up (va_up (va_up (va_up (fun _ => none) 0 (some x59)) 1 (some x61)) 2 (some x63)) 3 (some x65))))))), (x2, .inr (5, [.ref x3, .ref x4, .ref x5, .ref x7, .ref x9, .ref x11, .int 0, .int 0])), (x59, .inr (6, [.ref x60, .int 0])), (x61, .inr (6, [.ref x62, .int 0])), (x63, .inr (6, [.ref x64, .int 0])), (x65, .inr (6, [.ref x66, .int 0])), (o0, .inr (8, [.long 0, .null]))]) [0, 1, 2, 3, 4, 5, 6, 9] (by decide) rfl
  have hKc := hK.sub (tys' := [(xc0, .object "Rewriterope$Text")]) [0] rfl
  have hFc := va_free (wc := [(x0, .inr (7, [.ref x1, .ref x2, .ref x45, .ref x53, .ref x55, .ref x57, .int 0, .int 0, .int 0])), (x1, .inl (xc0, 4, .inr (.inr (.inr (.inr (va_up (va_up (va_up (va_up (fun _ => none) 0 (some x59)) 1 (some x61)) 2 (some x63)) 3 (some x65))))))), (x2, .inr (5, [.ref x3, .ref x4, .ref x5, .ref x7, .ref x9, .ref x11, .int 0, .int 0])), (x59, .inr (6, [.ref x60, .int 0])), (x61, .inr (6, [.ref x62, .int 0])), (x63, .inr (6, [.ref x64, .int 0])), (x65, .inr (6, [.ref x66, .int 0])), (o0, .inr (8, [.long 0, .null]))]) hD hS hA [0, 1, 2, 3, 4, 5, 6, 9] rfl
  refine va_calli (vx_runSW (As := [.ref x0, .int v1, .int v2, .ref o0]) (rest := []) ⟨hx, hb, hml, hown, hts⟩ (kx_L_spot_3 l dC dI ge5 gea gv5 gva gde gic gi0 x0 x1 x2 x59 x61 x63 x65 o0 x45 x53 x55 x57 x3 x4 x5 x7 x9 x11 x60 x62 x64 x66 xc0 H.size v1 v1_l v1_u v2 v2_l v2_u) (vx_cwSW 4 hts gL_law_L_spot rfl rfl rfl (by decide +kernel) ⟨Nat.le_of_ble_eq_true rfl, Nat.le_of_ble_eq_true rfl⟩) ⟨fun a U g mk q => by obtain ⟨q0, q1, qP, qK, qD, qG⟩ := q; exact ⟨q0, q1, qP, va_K.moved (u := U) (U := U.calling g mk a) (Vm.Alike.refl U.vm) qK, qD, gv.fb qG⟩, fun U hU hW => ⟨rfl, by rw [hU], by rw [hU]; exact hPc, va_K.moved hW.alike hKc, hDc.weaken (fun _ _ _ _ => trivial), gv.pass hW hU hS hFc hG⟩⟩ rfl rfl hl.1 rfl (lv_room (Nat.le_of_ble_eq_true rfl)) dL_law_1854 ⟨Nat.le_of_ble_eq_true rfl, Nat.le_of_ble_eq_true rfl⟩) hS (fun q _ h => hFc q h) hFc (fun r9 u t H1 locs ht hvm hw hB hz1 hk1 hS => ?_)
  obtain rfl := hw
  obtain ⟨hP1, hK1, hD1⟩ := hB
  rw [ht] at hP1
  have hK1 := va_K.moved hvm.symm hK1
  obtain ⟨hP, hD⟩ := va_join (wr := [(m0, .inr (9, [.int 0, .ref m1, .ref m2, .ref m3, .int 0, .int 0, .int 0])), (m1, .inl (mc0, 4, .inr (.inr (.inr (.inr (va_up (va_up (va_up (va_up (fun _ => none) 0 (some ge5)) 1 (some ge5)) 2 (some ge5)) 3 (some ge5)))))))]) (w1 := [(x0, .inr (7, [.ref x1, .ref x2, .ref x45, .ref x53, .ref x55, .ref x57, .int 0, .int 0, .int 0])), (x1, .inl (xc0, 4, .inr (.inr (.inr (.inr (va_up (va_up (va_up (va_up (fun _ => none) 0 (some x59)) 1 (some x61)) 2 (some x63)) 3 (some x65))))))), (x2, .inr (5, [.ref x3, .ref x4, .ref x5, .ref x7, .ref x9, .ref x11, .int 0, .int 0])), (x59, .inr (6, [.ref x60, .int 0])), (x61, .inr (6, [.ref x62, .int 0])), (x63, .inr (6, [.ref x64, .int 0])), (x65, .inr (6, [.ref x66, .int 0])), (o0, .inr (8, [.long 0, .ref ge5]))]) hP hD [0, 1, 2, 3, 4, 5, 6, 9] [7, 8] rfl rfl (by decide) (by decide) hk1 hFc hP1 hD1
  generalize H1 = H at hP hS ⊢
  have hP : va_P (dC, dI) vwCl [(m0, .inr (9, [.int 0, .ref m1, .ref m2, .ref m3, .int 0, .int 0, .int 0])), (m1, .inl (mc0, 4, .inr (.inr (.inr (.inr (va_up (va_up (va_up (va_up (fun _ => none) 0 (some ge5)) 1 (some ge5)) 2 (some ge5)) 3 (some ge5))))))), (x0, .inr (7, [.ref x1, .ref x2, .ref x45, .ref x53, .ref x55, .ref x57, .int 0, .int 0, .int 0])), (x1, .inl (xc0, 4, .inr (.inr (.inr (.inr (va_up (va_up (va_up (va_up (fun _ => none) 0 (some x59)) 1 (some x61)) 2 (some x63)) 3 (some x65))))))), (x2, .inr (5, [.ref x3, .ref x4, .ref x5, .ref x7, .ref x9, .ref x11, .int 0, .int 0])), (x59, .inr (6, [.ref x60, .int 0])), (x61, .inr (6, [.ref x62, .int 0])), (x63, .inr (6, [.ref x64, .int 0])), (x65, .inr (6, [.ref x66, .int 0])), (o0, .inr (8, [.long 0, .ref ge5]))] H := hP
  have hD : va_D A [(m0, .inr (9, [.int 0, .ref m1, .ref m2, .ref m3, .int 0, .int 0, .int 0])), (m1, .inl (mc0, 4, .inr (.inr (.inr (.inr (va_up (va_up (va_up (va_up (fun _ => none) 0 (some ge5)) 1 (some ge5)) 2 (some ge5)) 3 (some ge5))))))), (x0, .inr (7, [.ref x1, .ref x2, .ref x45, .ref x53, .ref x55, .ref x57, .int 0, .int 0, .int 0])), (x1, .inl (xc0, 4, .inr (.inr (.inr (.inr (va_up (va_up (va_up (va_up (fun _ => none) 0 (some x59)) 1 (some x61)) 2 (some x63)) 3 (some x65))))))), (x2, .inr (5, [.ref x3, .ref x4, .ref x5, .ref x7, .ref x9, .ref x11, .int 0, .int 0])), (x59, .inr (6, [.ref x60, .int 0])), (x61, .inr (6, [.ref x62, .int 0])), (x63, .inr (6, [.ref x64, .int 0])), (x65, .inr (6, [.ref x66, .int 0])), (o0, .inr (8, [.long 0, .ref ge5]))] := hD
  refine lv_istore (lv' := [(5, .int 0), (4, .int 0), (3, .ref o0), (2, .ref m0), (1, .ref x0), (0, .ref b)]) hx hb dL_law_1857 hl (by decide) rfl (fun ls hl => ?_)
  refine lv_aload_n hx hb dL_law_1859 rfl (lv_at hl 3 rfl) ?_
  refine lv_aload_n hx hb dL_law_1860 rfl (lv_at hl 5 rfl) ?_
  refine lv_iload hx hb dL_law_1861 (lv_at hl 1 rfl) ?_
  refine lv_iconst (v := 1) hx hb dL_law_1863 (by decide) ?_
  refine lv_iadd hx hb dL_law_1864 ?_
  refine lv_topi (fun y3 ey3 => ?_)
  obtain rfl : y3 = 1 := ey3.trans (by decide)
  refine va_sld hx hb hX hbl hbA hS (by unfold vp_in; decide) dL_law_1865 ?_
  rw [show xs (Int32.toNatClampNeg 1) = v1 from hx1]
  refine lv_aload_n hx hb dL_law_1866 rfl (lv_at hl 5 rfl) ?_
  refine lv_iload hx hb dL_law_1867 (lv_at hl 1 rfl) ?_
  refine lv_iconst (v := 2) hx hb dL_law_1869 (by decide) ?_
  refine lv_iadd hx hb dL_law_1870 ?_
  refine lv_topi (fun y4 ey4 => ?_)
  obtain rfl : y4 = 2 := ey4.trans (by decide)
  refine va_sld hx hb hX hbl hbA hS (by unfold vp_in; decide) dL_law_1871 ?_
  rw [show xs (Int32.toNatClampNeg 2) = v2 from hx2]
  have hPc := hP.sub (ws' := [(m0, .inr (9, [.int 0, .ref m1, .ref m2, .ref m3, .int 0, .int 0, .int 0])), (m1, .inl (mc0, 4, .inr (.inr (.inr (.inr (va_up (va_up (va_up (va_up (fun _ => none) 0 (some ge5)) 1 (some ge5)) 2 (some ge5)) 3 (some ge5)))))))]) [0, 1] rfl
  have hDc := hD.sub (ws' := [(m0, .inr (9, [.int 0, .ref m1, .ref m2, .ref m3, .int 0, .int 0, .int 0])), (m1, .inl (mc0, 4, .inr (.inr (.inr (.inr (va_up (va_up (va_up (va_up (fun _ => none) 0 (some ge5)) 1 (some ge5)) 2 (some ge5)) 3 (some ge5)))))))]) [0, 1] (by decide) rfl
  have hKc := hK.sub (tys' := [(mc0, .object "java/lang/String")]) [1] rfl
  have hFc := va_free (wc := [(m0, .inr (9, [.int 0, .ref m1, .ref m2, .ref m3, .int 0, .int 0, .int 0])), (m1, .inl (mc0, 4, .inr (.inr (.inr (.inr (va_up (va_up (va_up (va_up (fun _ => none) 0 (some ge5)) 1 (some ge5)) 2 (some ge5)) 3 (some ge5)))))))]) hD hS hA [0, 1] rfl
  refine va_callr (va_runV (As := [.int v1, .int v2]) (rest := []) ⟨hx, hb, hml, hown, hts⟩ (kx_X5_spot_3 l dC dI ge5 gea gv5 gva gde gic gi0 m0 m1 m2 m3 mc0 H.size v1 v1_l v1_u v2 v2_l v2_u) (cwV 2 hts gL_law_X5_spot rfl rfl rfl (by decide +kernel) ⟨Nat.le_of_ble_eq_true rfl, Nat.le_of_ble_eq_true rfl⟩) ⟨fun a U g mk q => by obtain ⟨q0, q1, qP, qK, qD, qG⟩ := q; exact ⟨q0, q1, qP, va_K.moved (u := U) (U := U.calling g mk a) (Vm.Alike.refl U.vm) qK, qD, gv.fb qG⟩, va_recv hKc hPc (ci := 9) (q0 := 0) rfl rfl, fun U hU hW => ⟨rfl, by rw [hU], by rw [hU]; exact hPc, va_K.moved hW.alike hKc, hDc.weaken (fun _ _ _ _ => trivial), gv.pass hW hU hS hFc hG⟩⟩ rfl rfl hl.1 rfl (lv_room (Nat.le_of_ble_eq_true rfl)) dL_law_1872 ⟨Nat.le_of_ble_eq_true rfl, Nat.le_of_ble_eq_true rfl⟩) hS (fun q _ h => hFc q h) hFc (fun u ra t H1 locs ht hvm hw hB hz1 hk1 hS => ?_)
  obtain ⟨q5, hra, hP1, hK1, hD1⟩ := hB
  rw [hra]
  rw [ht] at hP1
  have hK1 := va_K.moved hvm.symm hK1
  obtain ⟨hP, hD⟩ := va_join (wr := [(x0, .inr (7, [.ref x1, .ref x2, .ref x45, .ref x53, .ref x55, .ref x57, .int 0, .int 0, .int 0])), (x1, .inl (xc0, 4, .inr (.inr (.inr (.inr (va_up (va_up (va_up (va_up (fun _ => none) 0 (some x59)) 1 (some x61)) 2 (some x63)) 3 (some x65))))))), (x2, .inr (5, [.ref x3, .ref x4, .ref x5, .ref x7, .ref x9, .ref x11, .int 0, .int 0])), (x59, .inr (6, [.ref x60, .int 0])), (x61, .inr (6, [.ref x62, .int 0])), (x63, .inr (6, [.ref x64, .int 0])), (x65, .inr (6, [.ref x66, .int 0])), (o0, .inr (8, [.long 0, .ref ge5]))]) (w1 := [(m0, .inr (9, [.int 0, .ref m1, .ref m2, .ref m3, .int 0, .int 0, .int 0]))]) hP hD [0, 1] [2, 3, 4, 5, 6, 7, 8, 9] rfl rfl (by decide) (by decide) hk1 hFc hP1 hD1
  generalize H1 = H at hP hS ⊢
  have hP : va_P (dC, dI) vwCl [(x0, .inr (7, [.ref x1, .ref x2, .ref x45, .ref x53, .ref x55, .ref x57, .int 0, .int 0, .int 0])), (x1, .inl (xc0, 4, .inr (.inr (.inr (.inr (va_up (va_up (va_up (va_up (fun _ => none) 0 (some x59)) 1 (some x61)) 2 (some x63)) 3 (some x65))))))), (x2, .inr (5, [.ref x3, .ref x4, .ref x5, .ref x7, .ref x9, .ref x11, .int 0, .int 0])), (x59, .inr (6, [.ref x60, .int 0])), (x61, .inr (6, [.ref x62, .int 0])), (x63, .inr (6, [.ref x64, .int 0])), (x65, .inr (6, [.ref x66, .int 0])), (o0, .inr (8, [.long 0, .ref ge5])), (m0, .inr (9, [.int 0, .ref m1, .ref m2, .ref m3, .int 0, .int 0, .int 0]))] H := hP
  have hD : va_D A [(x0, .inr (7, [.ref x1, .ref x2, .ref x45, .ref x53, .ref x55, .ref x57, .int 0, .int 0, .int 0])), (x1, .inl (xc0, 4, .inr (.inr (.inr (.inr (va_up (va_up (va_up (va_up (fun _ => none) 0 (some x59)) 1 (some x61)) 2 (some x63)) 3 (some x65))))))), (x2, .inr (5, [.ref x3, .ref x4, .ref x5, .ref x7, .ref x9, .ref x11, .int 0, .int 0])), (x59, .inr (6, [.ref x60, .int 0])), (x61, .inr (6, [.ref x62, .int 0])), (x63, .inr (6, [.ref x64, .int 0])), (x65, .inr (6, [.ref x66, .int 0])), (o0, .inr (8, [.long 0, .ref ge5])), (m0, .inr (9, [.int 0, .ref m1, .ref m2, .ref m3, .int 0, .int 0, .int 0]))] := hD
  refine W.widen (k := 73) (n := 2751) (by omega) (by omega) ?_
  refine lv_astore (lv' := [(6, .ref ge5), (5, .int 0), (4, .int 0), (3, .ref o0), (2, .ref m0), (1, .ref x0), (0, .ref b)]) hx hb dL_law_1875 hl (by decide) rfl (fun ls hl => ?_)
  refine lv_aload_n hx hb dL_law_1877 rfl (lv_at hl 4 rfl) ?_
  have hPc := hP.sub (ws' := [(m0, .inr (9, [.int 0, .ref m1, .ref m2, .ref m3, .int 0, .int 0, .int 0]))]) [8] rfl
  have hDc := hD.sub (ws' := [(m0, .inr (9, [.int 0, .ref m1, .ref m2, .ref m3, .int 0, .int 0, .int 0]))]) [8] (by decide) rfl
  have hKc := hK.sub (tys' := []) [] rfl
  have hFc := va_free (wc := [(m0, .inr (9, [.int 0, .ref m1, .ref m2, .ref m3, .int 0, .int 0, .int 0]))]) hD hS hA [8] rfl
  refine va_calli (va_runV (As := []) (rest := []) ⟨hx, hb, hml, hown, hts⟩ (kx_X5_thrown_2 l dC dI m0 m1 m2 m3 H.size) (cwV 0 hts gL_law_X5_thrown rfl rfl rfl (by decide +kernel) ⟨Nat.le_of_ble_eq_true rfl, Nat.le_of_ble_eq_true rfl⟩) ⟨fun a U g mk q => by obtain ⟨q0, q1, qP, qK, qD⟩ := q; exact ⟨q0, q1, qP, va_K.moved (u := U) (U := U.calling g mk a) (Vm.Alike.refl U.vm) qK, qD⟩, va_recv hKc hPc (ci := 9) (q0 := 0) rfl rfl, fun U hU hW => ⟨rfl, by rw [hU], by rw [hU]; exact hPc, va_K.moved hW.alike hKc, hDc.weaken (fun _ _ _ _ => trivial)⟩⟩ rfl rfl hl.1 rfl (lv_room (Nat.le_of_ble_eq_true rfl)) dL_law_1878 ⟨Nat.le_of_ble_eq_true rfl, Nat.le_of_ble_eq_true rfl⟩) hS (fun q _ h => hFc q h) hFc (fun r9 u t H1 locs ht hvm hw hB hz1 hk1 hS => ?_)
  obtain rfl := hw
  obtain ⟨hP1, hK1, hD1⟩ := hB
  rw [ht] at hP1
  have hK1 := va_K.moved hvm.symm hK1
  obtain ⟨hP, hD⟩ := va_join (wr := [(x0, .inr (7, [.ref x1, .ref x2, .ref x45, .ref x53, .ref x55, .ref x57, .int 0, .int 0, .int 0])), (x1, .inl (xc0, 4, .inr (.inr (.inr (.inr (va_up (va_up (va_up (va_up (fun _ => none) 0 (some x59)) 1 (some x61)) 2 (some x63)) 3 (some x65))))))), (x2, .inr (5, [.ref x3, .ref x4, .ref x5, .ref x7, .ref x9, .ref x11, .int 0, .int 0])), (x59, .inr (6, [.ref x60, .int 0])), (x61, .inr (6, [.ref x62, .int 0])), (x63, .inr (6, [.ref x64, .int 0])), (x65, .inr (6, [.ref x66, .int 0])), (o0, .inr (8, [.long 0, .ref ge5]))]) (w1 := [(m0, .inr (9, [.int 0, .ref m1, .ref m2, .ref m3, .int 0, .int 0, .int 0]))]) hP hD [8] [0, 1, 2, 3, 4, 5, 6, 7] rfl rfl (by decide) (by decide) hk1 hFc hP1 hD1
  generalize H1 = H at hP hS ⊢
  have hP : va_P (dC, dI) vwCl [(x0, .inr (7, [.ref x1, .ref x2, .ref x45, .ref x53, .ref x55, .ref x57, .int 0, .int 0, .int 0])), (x1, .inl (xc0, 4, .inr (.inr (.inr (.inr (va_up (va_up (va_up (va_up (fun _ => none) 0 (some x59)) 1 (some x61)) 2 (some x63)) 3 (some x65))))))), (x2, .inr (5, [.ref x3, .ref x4, .ref x5, .ref x7, .ref x9, .ref x11, .int 0, .int 0])), (x59, .inr (6, [.ref x60, .int 0])), (x61, .inr (6, [.ref x62, .int 0])), (x63, .inr (6, [.ref x64, .int 0])), (x65, .inr (6, [.ref x66, .int 0])), (o0, .inr (8, [.long 0, .ref ge5])), (m0, .inr (9, [.int 0, .ref m1, .ref m2, .ref m3, .int 0, .int 0, .int 0]))] H := hP
  have hD : va_D A [(x0, .inr (7, [.ref x1, .ref x2, .ref x45, .ref x53, .ref x55, .ref x57, .int 0, .int 0, .int 0])), (x1, .inl (xc0, 4, .inr (.inr (.inr (.inr (va_up (va_up (va_up (va_up (fun _ => none) 0 (some x59)) 1 (some x61)) 2 (some x63)) 3 (some x65))))))), (x2, .inr (5, [.ref x3, .ref x4, .ref x5, .ref x7, .ref x9, .ref x11, .int 0, .int 0])), (x59, .inr (6, [.ref x60, .int 0])), (x61, .inr (6, [.ref x62, .int 0])), (x63, .inr (6, [.ref x64, .int 0])), (x65, .inr (6, [.ref x66, .int 0])), (o0, .inr (8, [.long 0, .ref ge5])), (m0, .inr (9, [.int 0, .ref m1, .ref m2, .ref m3, .int 0, .int 0, .int 0]))] := hD
  refine lv_iload hx hb dL_law_1881 (lv_at hl 1 rfl) ?_
  refine lv_icmp_eq (tgt := 1888) hx hb dL_law_1883 (by decide) (fun _ => ?_) (fun c9 => absurd (by decide) c9)
  refine lv_iload hx hb dL_law_1888 (lv_at hl 1 rfl) ?_
  refine lv_if_ne (tgt := 1907) hx hb dL_law_1890 (by decide) (fun c9 => absurd (by decide) c9) (fun _ => ?_)
  refine lv_aload_n hx hb dL_law_1893 rfl (lv_at hl 3 rfl) ?_
  refine va_getN (D := (dC, dI)) (ci := 8) (v := .ref ge5) (C := RX4) (T := TX4) (N := 2) hx hb hts (by decide +kernel) hown hK hP 7 rfl rfl 1 (by decide) (va_Nw.use rfl g_nf_RL_47) (fun _ h9 => h9) rfl dL_law_1894 ?_
  refine lv_aload hx hb dL_law_1897 (lv_at hl 0 rfl) ?_
  have hPc := hP.sub (ws' := []) [] rfl
  have hDc := hD.sub (ws' := []) [] (by decide) rfl
  have hKc := hK.sub (tys' := []) [] rfl
  have hFc := va_free (wc := []) hD hS hA [] rfl
  refine va_calli (va_runV (As := [.ref ge5]) (rest := []) ⟨hx, hb, hml, hown, hts⟩ (kx_J0_equals_9ea2d_1 l dC dI ge5 gea gv5 gva gde gic gi0 H.size) (cwV 1 hts gL_law_J0_equals_9ea2d rfl rfl rfl (by decide +kernel) ⟨Nat.le_of_ble_eq_true rfl, Nat.le_of_ble_eq_true rfl⟩) ⟨fun a U g mk q => by obtain ⟨q0, q1, qP, qK, qD, qG⟩ := q; exact ⟨q0, q1, qP, va_K.moved (u := U) (U := U.calling g mk a) (Vm.Alike.refl U.vm) qK, qD, gv.fb qG⟩, (by obtain ⟨cell, k1, k2, k3, -⟩ := g_o5.kept hS.2.1; exact ⟨cell, k1, k2, k3⟩), fun U hU hW => ⟨rfl, by rw [hU], by rw [hU]; exact hPc, va_K.moved hW.alike hKc, hDc.weaken (fun _ _ _ _ => trivial), gv.pass hW hU hS hFc hG⟩⟩ rfl rfl hl.1 rfl (lv_room (Nat.le_of_ble_eq_true rfl)) dL_law_1899 ⟨Nat.le_of_ble_eq_true rfl, Nat.le_of_ble_eq_true rfl⟩) hS (fun q _ h => hFc q h) hFc (fun r9 u t H1 locs ht hvm hw hB hz1 hk1 hS => ?_)
  obtain rfl := hw
  obtain ⟨hP1, hK1, hD1⟩ := hB
  rw [ht] at hP1
  have hK1 := va_K.moved hvm.symm hK1
  obtain ⟨hP, hD⟩ := va_join (wr := [(x0, .inr (7, [.ref x1, .ref x2, .ref x45, .ref x53, .ref x55, .ref x57, .int 0, .int 0, .int 0])), (x1, .inl (xc0, 4, .inr (.inr (.inr (.inr (va_up (va_up (va_up (va_up (fun _ => none) 0 (some x59)) 1 (some x61)) 2 (some x63)) 3 (some x65))))))), (x2, .inr (5, [.ref x3, .ref x4, .ref x5, .ref x7, .ref x9, .ref x11, .int 0, .int 0])), (x59, .inr (6, [.ref x60, .int 0])), (x61, .inr (6, [.ref x62, .int 0])), (x63, .inr (6, [.ref x64, .int 0])), (x65, .inr (6, [.ref x66, .int 0])), (o0, .inr (8, [.long 0, .ref ge5])), (m0, .inr (9, [.int 0, .ref m1, .ref m2, .ref m3, .int 0, .int 0, .int 0]))]) (w1 := []) hP hD [] [0, 1, 2, 3, 4, 5, 6, 7, 8] rfl rfl (by decide) (by decide) hk1 hFc hP1 hD1
  generalize H1 = H at hP hS ⊢
  have hP : va_P (dC, dI) vwCl [(x0, .inr (7, [.ref x1, .ref x2, .ref x45, .ref x53, .ref x55, .ref x57, .int 0, .int 0, .int 0])), (x1, .inl (xc0, 4, .inr (.inr (.inr (.inr (va_up (va_up (va_up (va_up (fun _ => none) 0 (some x59)) 1 (some x61)) 2 (some x63)) 3 (some x65))))))), (x2, .inr (5, [.ref x3, .ref x4, .ref x5, .ref x7, .ref x9, .ref x11, .int 0, .int 0])), (x59, .inr (6, [.ref x60, .int 0])), (x61, .inr (6, [.ref x62, .int 0])), (x63, .inr (6, [.ref x64, .int 0])), (x65, .inr (6, [.ref x66, .int 0])), (o0, .inr (8, [.long 0, .ref ge5])), (m0, .inr (9, [.int 0, .ref m1, .ref m2, .ref m3, .int 0, .int 0, .int 0]))] H := hP
  have hD : va_D A [(x0, .inr (7, [.ref x1, .ref x2, .ref x45, .ref x53, .ref x55, .ref x57, .int 0, .int 0, .int 0])), (x1, .inl (xc0, 4, .inr (.inr (.inr (.inr (va_up (va_up (va_up (va_up (fun _ => none) 0 (some x59)) 1 (some x61)) 2 (some x63)) 3 (some x65))))))), (x2, .inr (5, [.ref x3, .ref x4, .ref x5, .ref x7, .ref x9, .ref x11, .int 0, .int 0])), (x59, .inr (6, [.ref x60, .int 0])), (x61, .inr (6, [.ref x62, .int 0])), (x63, .inr (6, [.ref x64, .int 0])), (x65, .inr (6, [.ref x66, .int 0])), (o0, .inr (8, [.long 0, .ref ge5])), (m0, .inr (9, [.int 0, .ref m1, .ref m2, .ref m3, .int 0, .int 0, .int 0]))] := hD
  refine lv_if_ne (tgt := 1907) hx hb dL_law_1902 (by decide) (fun _ => ?_) (fun c9 => absurd c9 (by decide))
  refine lv_goto (tgt := 2342) hx hb dL_law_1907 (by decide) ?_
  refine lv_iinc (v := 7) (lv' := [(4, .int 7), (6, .ref ge5), (5, .int 0), (3, .ref o0), (2, .ref m0), (1, .ref x0), (0, .ref b)]) hx hb dL_law_2342 hl (k := 2) rfl (by decide) (by decide) rfl (fun ls hl => ?_)
  refine lv_goto (tgt := 27) hx hb dL_law_2345 (by decide) ?_
  refine lv_iload hx hb dL_law_27 (lv_at hl 0 rfl) ?_
  refine lv_aload_n hx hb dL_law_29 rfl (lv_at hl 6 rfl) ?_
  refine va_slen hx hb hX hbl hbA hS dL_law_30 ?_
  refine lv_topi (fun y6 ey6 => ?_)
  obtain rfl : y6 = 7 := ey6.trans (by decide)
  refine lv_bipush (v := 7) hx hb dL_law_31 (by decide) ?_
  refine lv_isub hx hb dL_law_33 ?_
  refine lv_topi (fun y7 ey7 => ?_)
  obtain rfl : y7 = 0 := ey7.trans (by decide)
  refine lv_icmp_gt (tgt := 2348) hx hb dL_law_34 (by decide) (fun _ => ?_) (fun c9 => absurd (by decide) c9)
  refine lv_iconst (v := 1) hx hb dL_law_2348 (by decide) ?_
  refine va_forget (fun q hq => (by have h := hS.2.2 q hq; rw [hAe] at h; exact h)) ?_
  refine W.widen (k := 600002) (n := 7302232) (Nat.le_of_ble_eq_true rfl) (Nat.le_of_ble_eq_true rfl) ?_
  exact lw_ret hx hb hr hlocks dL_law_2349
set_option maxHeartbeats 4000000 in
set_option maxRecDepth 100000 in
theorem lc_isEnd_0 {p : Program} {e : Env} {s : State} {m : MethodId} {below : List Frame} {meth : Method} {c : Code} {l : Launch} (hst : l.stackTraces = false) {b : Nat} {xs : Nat → Int32} (C9 : lx_At p s m meth c b xs) {dC : Nat → ClassId} {dI : Nat → Nat → Nat} {ge5 gea gv5 gva gde gic gi0 : Nat} {x0 x1 x2 x59 x61 x63 x65 m0 m1 m2 o0 x45 x53 x55 x57 x3 x4 x5 x7 x9 x11 x60 x62 x64 x66 m3 : Nat} {xc0 mc0 : ClassId} (hG : gv ge5 gea gv5 gva gde gic gi0 (fun q => s.heap.size ≤ q) s s.heap) {v1 : Int32} (v1_l : (0 : Int) ≤ v1.toInt) (v1_u : v1.toInt ≤ (3 : Int)) (hx1 : xs 1 = v1) {H : Heap} {locs : List Loc} (hK : va_K (dC, dI) vwCl [(xc0, .object "Rewriterope$Text"), (mc0, .object "java/lang/String")] s) (hP : va_P (dC, dI) vwCl [(x0, .inr (7, [.ref x1, .ref x2, .ref x45, .ref x53, .ref x55, .ref x57, .int 0, .int 0, .int 0])), (x1, .inl (xc0, 4, .inr (.inr (.inr (.inr (va_up (va_up (va_up (va_up (fun _ => none) 0 (some x59)) 1 (some x61)) 2 (some x63)) 3 (some x65))))))), (x2, .inr (5, [.ref x3, .ref x4, .ref x5, .ref x7, .ref x9, .ref x11, .int 0, .int 0])), (x59, .inr (6, [.ref x60, .int 0])), (x61, .inr (6, [.ref x62, .int 0])), (x63, .inr (6, [.ref x64, .int 0])), (x65, .inr (6, [.ref x66, .int 0])), (m0, .inr (9, [.int 0, .ref m1, .ref m2, .ref m3, .int 0, .int 0, .int 0])), (m1, .inl (mc0, 4, .inr (.inr (.inr (.inr (va_up (va_up (va_up (va_up (fun _ => none) 0 (some ge5)) 1 (some ge5)) 2 (some ge5)) 3 (some ge5))))))), (m2, .inr (3, [.int 0, .ref gde, .int 0])), (o0, .inr (8, [.long 0, .null]))] H) (hD : va_D (fun q => s.heap.size ≤ q) [(x0, .inr (7, [.ref x1, .ref x2, .ref x45, .ref x53, .ref x55, .ref x57, .int 0, .int 0, .int 0])), (x1, .inl (xc0, 4, .inr (.inr (.inr (.inr (va_up (va_up (va_up (va_up (fun _ => none) 0 (some x59)) 1 (some x61)) 2 (some x63)) 3 (some x65))))))), (x2, .inr (5, [.ref x3, .ref x4, .ref x5, .ref x7, .ref x9, .ref x11, .int 0, .int 0])), (x59, .inr (6, [.ref x60, .int 0])), (x61, .inr (6, [.ref x62, .int 0])), (x63, .inr (6, [.ref x64, .int 0])), (x65, .inr (6, [.ref x66, .int 0])), (m0, .inr (9, [.int 0, .ref m1, .ref m2, .ref m3, .int 0, .int 0, .int 0])), (m1, .inl (mc0, 4, .inr (.inr (.inr (.inr (va_up (va_up (va_up (va_up (fun _ => none) 0 (some ge5)) 1 (some ge5)) 2 (some ge5)) 3 (some ge5))))))), (m2, .inr (3, [.int 0, .ref gde, .int 0])), (o0, .inr (8, [.long 0, .null]))]) (hS : va_S (fun q => s.heap.size ≤ q) s.heap H locs) {ls : Array Slot} (hl : lv_has ls 7 [(4, .int 0), (3, .ref o0), (2, .ref m0), (1, .ref x0), (0, .ref b)]) : W p l e room_1 s m #[Value.ref b] below meth c H locs 72 2748 (lw_Z below #[Value.ref b] s) (F0 m 1910 ls []) := by
  obtain ⟨hx, hb, hr, hml, hown, hts, hX, hbl, hlocks⟩ := id C9
  have hA : ∀ q : Nat, s.heap.size ≤ q → (fun q : Nat => s.heap.size ≤ q) q := fun _ h => h
  have hbA : ¬ (fun q : Nat => s.heap.size ≤ q) b := Nat.not_le.mpr hbl
  obtain ⟨A, hAe⟩ : ∃ A : Nat → Prop, A = (fun q : Nat => s.heap.size ≤ q) := ⟨_, rfl⟩
  rw [← hAe] at hG hD hS hA hbA
  obtain ⟨⟨g_AO_Text, g_AO_String, g_AO_Object, g_nm_RX1_20, g_nm_RX0_17, g_nm_RX3_31, g_nm_RX2_44, g_nm_RL_121, g_nf_RL_13, g_nf_RL_47, g_ca_IO, g_ca_IA, g_ca_IS, g_ca_IntObj, g_ca_StrObj, g_de_RT, g_de_EX, g_de_TH, g_nc_IA_IO, g_nc_IS_IO, g_nc_IS_IA⟩, ⟨g_s3, g_s5, g_sa, g_x278, g_x280, g_x282, g_x284, g_x286, g_x180, g_x238, g_x250⟩, ⟨g_o5, g_c5, g_v5, g_t5, g_oa, g_ca, g_va, g_ta, g_zc, g_zd, g_td, g_zf, g_zU, g_zN, g_zh, g_zk, g_tk, g_oi, g_vi⟩⟩ := id hG
  refine lv_aload_n hx hb dL_law_1910 rfl (lv_at hl 3 rfl) ?_
  refine lv_aload_n hx hb dL_law_1911 rfl (lv_at hl 4 rfl) ?_
  refine lv_iload hx hb dL_law_1912 (lv_at hl 0 rfl) ?_
  refine lv_iconst (v := 1) hx hb dL_law_1914 (by decide) ?_
  refine lv_iadd hx hb dL_law_1915 ?_
  refine lv_topi (fun y1 ey1 => ?_)
  obtain rfl : y1 = 1 := ey1.trans (by decide)
  refine va_sld hx hb hX hbl hbA hS (by unfold vp_in; decide) dL_law_1916 ?_
  rw [show xs (Int32.toNatClampNeg 1) = v1 from hx1]
  refine lv_aload_n hx hb dL_law_1917 rfl (lv_at hl 1 rfl) ?_
  have hPc := hP.sub (ws' := [(x0, .inr (7, [.ref x1, .ref x2, .ref x45, .ref x53, .ref x55, .ref x57, .int 0, .int 0, .int 0])), (x1, .inl (xc0, 4, .inr (.inr (.inr (.inr (va_up (va_up (va_up (va_up (fun _ => none) 0 (some x59)) 1 (some x61)) 2 (some x63)) 3 (some x65))))))), (x2, .inr (5, [.ref x3, .ref x4, .ref x5, .ref x7, .ref x9, .ref x11, .int 0, .int 0])), (x59, .inr (6, [.ref x60, .int 0])), (x61, .inr (6, [.ref x62, .int 0])), (x63, .inr (6, [.ref x64, .int 0])), (x65, .inr (6, [.ref x66, .int 0])), (o0, .inr (8, [.long 0, .null]))]) [0, 1, 2, 3, 4, 5, 6, 10] rfl
  have hDc := hD.sub (ws' := [(x0, .inr (7, [.ref x1, .ref x2, .ref x45, .ref x53, .ref x55, .ref x57, .int 0, .int 0, .int 0])), (x1, .inl (xc0, 4, .inr (.inr (.inr (.inr (va_up (va_up (va_up (va_up (fun _ => none) 0 (some x59)) 1 (some x61)) 2 (some x63)) 3 (some x65))))))), (x2, .inr (5, [.ref x3, .ref x4, .ref x5, .ref x7, .ref x9, .ref x11, .int 0, .int 0])), (x59, .inr (6, [.ref x60, .int 0])), (x61, .inr (6, [.ref x62, .int 0])), (x63, .inr (6, [.ref x64, .int 0])), (x65, .inr (6, [.ref x66, .int 0])), (o0, .inr (8, [.long 0, .null]))]) [0, 1, 2, 3, 4, 5, 6, 10] (by decide) rfl
  have hKc := hK.sub (tys' := [(xc0, .object "Rewriterope$Text")]) [0] rfl
  have hFc := va_free (wc := [(x0, .inr (7, [.ref x1, .ref x2, .ref x45, .ref x53, .ref x55, .ref x57, .int 0, .int 0, .int 0])), (x1, .inl (xc0, 4, .inr (.inr (.inr (.inr (va_up (va_up (va_up (va_up (fun _ => none) 0 (some x59)) 1 (some x61)) 2 (some x63)) 3 (some x65))))))), (x2, .inr (5, [.ref x3, .ref x4, .ref x5, .ref x7, .ref x9, .ref x11, .int 0, .int 0])), (x59, .inr (6, [.ref x60, .int 0])), (x61, .inr (6, [.ref x62, .int 0])), (x63, .inr (6, [.ref x64, .int 0])), (x65, .inr (6, [.ref x66, .int 0])), (o0, .inr (8, [.long 0, .null]))]) hD hS hA [0, 1, 2, 3, 4, 5, 6, 10] rfl
  refine va_calli (vx_runSW (As := [.ref x0, .int v1, .ref o0]) (rest := []) ⟨hx, hb, hml, hown, hts⟩ (kx_L_isEnd_0 l dC dI ge5 gea gv5 gva gde gic gi0 x0 x1 x2 x59 x61 x63 x65 o0 x45 x53 x55 x57 x3 x4 x5 x7 x9 x11 x60 x62 x64 x66 xc0 H.size v1 v1_l v1_u) (vx_cwSW 3 hts gL_law_L_isEnd rfl rfl rfl (by decide +kernel) ⟨Nat.le_of_ble_eq_true rfl, Nat.le_of_ble_eq_true rfl⟩) ⟨fun a U g mk q => by obtain ⟨q0, q1, qP, qK, qD, qG⟩ := q; exact ⟨q0, q1, qP, va_K.moved (u := U) (U := U.calling g mk a) (Vm.Alike.refl U.vm) qK, qD, gv.fb qG⟩, fun U hU hW => ⟨rfl, by rw [hU], by rw [hU]; exact hPc, va_K.moved hW.alike hKc, hDc.weaken (fun _ _ _ _ => trivial), gv.pass hW hU hS hFc hG⟩⟩ rfl rfl hl.1 rfl (lv_room (Nat.le_of_ble_eq_true rfl)) dL_law_1918 ⟨Nat.le_of_ble_eq_true rfl, Nat.le_of_ble_eq_true rfl⟩) hS (fun q _ h => hFc q h) hFc (fun r9 u t H1 locs ht hvm hw hB hz1 hk1 hS => ?_)
  obtain rfl := hw
  obtain ⟨hP1, hK1, hD1⟩ := hB
  rw [ht] at hP1
  have hK1 := va_K.moved hvm.symm hK1
  obtain ⟨hP, hD⟩ := va_join (wr := [(m0, .inr (9, [.int 0, .ref m1, .ref m2, .ref m3, .int 0, .int 0, .int 0])), (m1, .inl (mc0, 4, .inr (.inr (.inr (.inr (va_up (va_up (va_up (va_up (fun _ => none) 0 (some ge5)) 1 (some ge5)) 2 (some ge5)) 3 (some ge5))))))), (m2, .inr (3, [.int 0, .ref gde, .int 0]))]) (w1 := [(x0, .inr (7, [.ref x1, .ref x2, .ref x45, .ref x53, .ref x55, .ref x57, .int 0, .int 0, .int 0])), (x1, .inl (xc0, 4, .inr (.inr (.inr (.inr (va_up (va_up (va_up (va_up (fun _ => none) 0 (some x59)) 1 (some x61)) 2 (some x63)) 3 (some x65))))))), (x2, .inr (5, [.ref x3, .ref x4, .ref x5, .ref x7, .ref x9, .ref x11, .int 0, .int 0])), (x59, .inr (6, [.ref x60, .int 0])), (x61, .inr (6, [.ref x62, .int 0])), (x63, .inr (6, [.ref x64, .int 0])), (x65, .inr (6, [.ref x66, .int 0])), (o0, .inr (8, [.long 1, .null]))]) hP hD [0, 1, 2, 3, 4, 5, 6, 10] [7, 8, 9] rfl rfl (by decide) (by decide) hk1 hFc hP1 hD1
  generalize H1 = H at hP hS ⊢
  have hP : va_P (dC, dI) vwCl [(m0, .inr (9, [.int 0, .ref m1, .ref m2, .ref m3, .int 0, .int 0, .int 0])), (m1, .inl (mc0, 4, .inr (.inr (.inr (.inr (va_up (va_up (va_up (va_up (fun _ => none) 0 (some ge5)) 1 (some ge5)) 2 (some ge5)) 3 (some ge5))))))), (m2, .inr (3, [.int 0, .ref gde, .int 0])), (x0, .inr (7, [.ref x1, .ref x2, .ref x45, .ref x53, .ref x55, .ref x57, .int 0, .int 0, .int 0])), (x1, .inl (xc0, 4, .inr (.inr (.inr (.inr (va_up (va_up (va_up (va_up (fun _ => none) 0 (some x59)) 1 (some x61)) 2 (some x63)) 3 (some x65))))))), (x2, .inr (5, [.ref x3, .ref x4, .ref x5, .ref x7, .ref x9, .ref x11, .int 0, .int 0])), (x59, .inr (6, [.ref x60, .int 0])), (x61, .inr (6, [.ref x62, .int 0])), (x63, .inr (6, [.ref x64, .int 0])), (x65, .inr (6, [.ref x66, .int 0])), (o0, .inr (8, [.long 1, .null]))] H := hP
  have hD : va_D A [(m0, .inr (9, [.int 0, .ref m1, .ref m2, .ref m3, .int 0, .int 0, .int 0])), (m1, .inl (mc0, 4, .inr (.inr (.inr (.inr (va_up (va_up (va_up (va_up (fun _ => none) 0 (some ge5)) 1 (some ge5)) 2 (some ge5)) 3 (some ge5))))))), (m2, .inr (3, [.int 0, .ref gde, .int 0])), (x0, .inr (7, [.ref x1, .ref x2, .ref x45, .ref x53, .ref x55, .ref x57, .int 0, .int 0, .int 0])), (x1, .inl (xc0, 4, .inr (.inr (.inr (.inr (va_up (va_up (va_up (va_up (fun _ => none) 0 (some x59)) 1 (some x61)) 2 (some x63)) 3 (some x65))))))), (x2, .inr (5, [.ref x3, .ref x4, .ref x5, .ref x7, .ref x9, .ref x11, .int 0, .int 0])), (x59, .inr (6, [.ref x60, .int 0])), (x61, .inr (6, [.ref x62, .int 0])), (x63, .inr (6, [.ref x64, .int 0])), (x65, .inr (6, [.ref x66, .int 0])), (o0, .inr (8, [.long 1, .null]))] := hD
  refine lv_istore (lv' := [(5, .int 0), (4, .int 0), (3, .ref o0), (2, .ref m0), (1, .ref x0), (0, .ref b)]) hx hb dL_law_1921 hl (by decide) rfl (fun ls hl => ?_)
  refine lv_aload_n hx hb dL_law_1923 rfl (lv_at hl 3 rfl) ?_
  refine lv_aload_n hx hb dL_law_1924 rfl (lv_at hl 5 rfl) ?_
  refine lv_iload hx hb dL_law_1925 (lv_at hl 1 rfl) ?_
  refine lv_iconst (v := 1) hx hb dL_law_1927 (by decide) ?_
  refine lv_iadd hx hb dL_law_1928 ?_
  refine lv_topi (fun y2 ey2 => ?_)
  obtain rfl : y2 = 1 := ey2.trans (by decide)
  refine va_sld hx hb hX hbl hbA hS (by unfold vp_in; decide) dL_law_1929 ?_
  rw [show xs (Int32.toNatClampNeg 1) = v1 from hx1]
  have hPc := hP.sub (ws' := [(m0, .inr (9, [.int 0, .ref m1, .ref m2, .ref m3, .int 0, .int 0, .int 0])), (m1, .inl (mc0, 4, .inr (.inr (.inr (.inr (va_up (va_up (va_up (va_up (fun _ => none) 0 (some ge5)) 1 (some ge5)) 2 (some ge5)) 3 (some ge5))))))), (m2, .inr (3, [.int 0, .ref gde, .int 0]))]) [0, 1, 2] rfl
  have hDc := hD.sub (ws' := [(m0, .inr (9, [.int 0, .ref m1, .ref m2, .ref m3, .int 0, .int 0, .int 0])), (m1, .inl (mc0, 4, .inr (.inr (.inr (.inr (va_up (va_up (va_up (va_up (fun _ => none) 0 (some ge5)) 1 (some ge5)) 2 (some ge5)) 3 (some ge5))))))), (m2, .inr (3, [.int 0, .ref gde, .int 0]))]) [0, 1, 2] (by decide) rfl
  have hKc := hK.sub (tys' := [(mc0, .object "java/lang/String")]) [1] rfl
  have hFc := va_free (wc := [(m0, .inr (9, [.int 0, .ref m1, .ref m2, .ref m3, .int 0, .int 0, .int 0])), (m1, .inl (mc0, 4, .inr (.inr (.inr (.inr (va_up (va_up (va_up (va_up (fun _ => none) 0 (some ge5)) 1 (some ge5)) 2 (some ge5)) 3 (some ge5))))))), (m2, .inr (3, [.int 0, .ref gde, .int 0]))]) hD hS hA [0, 1, 2] rfl
  refine va_calli (va_runV (As := [.int v1]) (rest := []) ⟨hx, hb, hml, hown, hts⟩ (kx_X5_isEnd_0 l dC dI ge5 gea gv5 gva gde gic gi0 m0 m1 m2 m3 mc0 H.size v1 v1_l v1_u) (cwV 1 hts gL_law_X5_isEnd rfl rfl rfl (by decide +kernel) ⟨Nat.le_of_ble_eq_true rfl, Nat.le_of_ble_eq_true rfl⟩) ⟨fun a U g mk q => by obtain ⟨q0, q1, qP, qK, qD, qG⟩ := q; exact ⟨q0, q1, qP, va_K.moved (u := U) (U := U.calling g mk a) (Vm.Alike.refl U.vm) qK, qD, gv.fb qG⟩, va_recv hKc hPc (ci := 9) (q0 := 0) rfl rfl, fun U hU hW => ⟨rfl, by rw [hU], by rw [hU]; exact hPc, va_K.moved hW.alike hKc, hDc.weaken (fun _ _ _ _ => trivial), gv.pass hW hU hS hFc hG⟩⟩ rfl rfl hl.1 rfl (lv_room (Nat.le_of_ble_eq_true rfl)) dL_law_1930 ⟨Nat.le_of_ble_eq_true rfl, Nat.le_of_ble_eq_true rfl⟩) hS (fun q _ h => hFc q h) hFc (fun r9 u t H1 locs ht hvm hw hB hz1 hk1 hS => ?_)
  obtain rfl := hw
  obtain ⟨hP1, hK1, hD1⟩ := hB
  rw [ht] at hP1
  have hK1 := va_K.moved hvm.symm hK1
  obtain ⟨hP, hD⟩ := va_join (wr := [(x0, .inr (7, [.ref x1, .ref x2, .ref x45, .ref x53, .ref x55, .ref x57, .int 0, .int 0, .int 0])), (x1, .inl (xc0, 4, .inr (.inr (.inr (.inr (va_up (va_up (va_up (va_up (fun _ => none) 0 (some x59)) 1 (some x61)) 2 (some x63)) 3 (some x65))))))), (x2, .inr (5, [.ref x3, .ref x4, .ref x5, .ref x7, .ref x9, .ref x11, .int 0, .int 0])), (x59, .inr (6, [.ref x60, .int 0])), (x61, .inr (6, [.ref x62, .int 0])), (x63, .inr (6, [.ref x64, .int 0])), (x65, .inr (6, [.ref x66, .int 0])), (o0, .inr (8, [.long 1, .null]))]) (w1 := [(m0, .inr (9, [.int 0, .ref m1, .ref m2, .ref m3, .int 0, .int 0, .int 0]))]) hP hD [0, 1, 2] [3, 4, 5, 6, 7, 8, 9, 10] rfl rfl (by decide) (by decide) hk1 hFc hP1 hD1
  generalize H1 = H at hP hS ⊢
  have hP : va_P (dC, dI) vwCl [(x0, .inr (7, [.ref x1, .ref x2, .ref x45, .ref x53, .ref x55, .ref x57, .int 0, .int 0, .int 0])), (x1, .inl (xc0, 4, .inr (.inr (.inr (.inr (va_up (va_up (va_up (va_up (fun _ => none) 0 (some x59)) 1 (some x61)) 2 (some x63)) 3 (some x65))))))), (x2, .inr (5, [.ref x3, .ref x4, .ref x5, .ref x7, .ref x9, .ref x11, .int 0, .int 0])), (x59, .inr (6, [.ref x60, .int 0])), (x61, .inr (6, [.ref x62, .int 0])), (x63, .inr (6, [.ref x64, .int 0])), (x65, .inr (6, [.ref x66, .int 0])), (o0, .inr (8, [.long 1, .null])), (m0, .inr (9, [.int 0, .ref m1, .ref m2, .ref m3, .int 0, .int 0, .int 0]))] H := hP
  have hD : va_D A [(x0, .inr (7, [.ref x1, .ref x2, .ref x45, .ref x53, .ref x55, .ref x57, .int 0, .int 0, .int 0])), (x1, .inl (xc0, 4, .inr (.inr (.inr (.inr (va_up (va_up (va_up (va_up (fun _ => none) 0 (some x59)) 1 (some x61)) 2 (some x63)) 3 (some x65))))))), (x2, .inr (5, [.ref x3, .ref x4, .ref x5, .ref x7, .ref x9, .ref x11, .int 0, .int 0])), (x59, .inr (6, [.ref x60, .int 0])), (x61, .inr (6, [.ref x62, .int 0])), (x63, .inr (6, [.ref x64, .int 0])), (x65, .inr (6, [.ref x66, .int 0])), (o0, .inr (8, [.long 1, .null])), (m0, .inr (9, [.int 0, .ref m1, .ref m2, .ref m3, .int 0, .int 0, .int 0]))] := hD
  refine lv_istore (lv' := [(6, .int 1), (5, .int 0), (4, .int 0), (3, .ref o0), (2, .ref m0), (1, .ref x0), (0, .ref b)]) hx hb dL_law_1933 hl (by decide) rfl (fun ls hl => ?_)
  refine lv_aload_n hx hb dL_law_1935 rfl (lv_at hl 4 rfl) ?_
  have hPc := hP.sub (ws' := [(m0, .inr (9, [.int 0, .ref m1, .ref m2, .ref m3, .int 0, .int 0, .int 0]))]) [8] rfl
  have hDc := hD.sub (ws' := [(m0, .inr (9, [.int 0, .ref m1, .ref m2, .ref m3, .int 0, .int 0, .int 0]))]) [8] (by decide) rfl
  have hKc := hK.sub (tys' := []) [] rfl
  have hFc := va_free (wc := [(m0, .inr (9, [.int 0, .ref m1, .ref m2, .ref m3, .int 0, .int 0, .int 0]))]) hD hS hA [8] rfl
  refine va_calli (va_runV (As := []) (rest := []) ⟨hx, hb, hml, hown, hts⟩ (kx_X5_thrown_2 l dC dI m0 m1 m2 m3 H.size) (cwV 0 hts gL_law_X5_thrown rfl rfl rfl (by decide +kernel) ⟨Nat.le_of_ble_eq_true rfl, Nat.le_of_ble_eq_true rfl⟩) ⟨fun a U g mk q => by obtain ⟨q0, q1, qP, qK, qD⟩ := q; exact ⟨q0, q1, qP, va_K.moved (u := U) (U := U.calling g mk a) (Vm.Alike.refl U.vm) qK, qD⟩, va_recv hKc hPc (ci := 9) (q0 := 0) rfl rfl, fun U hU hW => ⟨rfl, by rw [hU], by rw [hU]; exact hPc, va_K.moved hW.alike hKc, hDc.weaken (fun _ _ _ _ => trivial)⟩⟩ rfl rfl hl.1 rfl (lv_room (Nat.le_of_ble_eq_true rfl)) dL_law_1936 ⟨Nat.le_of_ble_eq_true rfl, Nat.le_of_ble_eq_true rfl⟩) hS (fun q _ h => hFc q h) hFc (fun r9 u t H1 locs ht hvm hw hB hz1 hk1 hS => ?_)
  obtain rfl := hw
  obtain ⟨hP1, hK1, hD1⟩ := hB
  rw [ht] at hP1
  have hK1 := va_K.moved hvm.symm hK1
  obtain ⟨hP, hD⟩ := va_join (wr := [(x0, .inr (7, [.ref x1, .ref x2, .ref x45, .ref x53, .ref x55, .ref x57, .int 0, .int 0, .int 0])), (x1, .inl (xc0, 4, .inr (.inr (.inr (.inr (va_up (va_up (va_up (va_up (fun _ => none) 0 (some x59)) 1 (some x61)) 2 (some x63)) 3 (some x65))))))), (x2, .inr (5, [.ref x3, .ref x4, .ref x5, .ref x7, .ref x9, .ref x11, .int 0, .int 0])), (x59, .inr (6, [.ref x60, .int 0])), (x61, .inr (6, [.ref x62, .int 0])), (x63, .inr (6, [.ref x64, .int 0])), (x65, .inr (6, [.ref x66, .int 0])), (o0, .inr (8, [.long 1, .null]))]) (w1 := [(m0, .inr (9, [.int 0, .ref m1, .ref m2, .ref m3, .int 0, .int 0, .int 0]))]) hP hD [8] [0, 1, 2, 3, 4, 5, 6, 7] rfl rfl (by decide) (by decide) hk1 hFc hP1 hD1
  generalize H1 = H at hP hS ⊢
  have hP : va_P (dC, dI) vwCl [(x0, .inr (7, [.ref x1, .ref x2, .ref x45, .ref x53, .ref x55, .ref x57, .int 0, .int 0, .int 0])), (x1, .inl (xc0, 4, .inr (.inr (.inr (.inr (va_up (va_up (va_up (va_up (fun _ => none) 0 (some x59)) 1 (some x61)) 2 (some x63)) 3 (some x65))))))), (x2, .inr (5, [.ref x3, .ref x4, .ref x5, .ref x7, .ref x9, .ref x11, .int 0, .int 0])), (x59, .inr (6, [.ref x60, .int 0])), (x61, .inr (6, [.ref x62, .int 0])), (x63, .inr (6, [.ref x64, .int 0])), (x65, .inr (6, [.ref x66, .int 0])), (o0, .inr (8, [.long 1, .null])), (m0, .inr (9, [.int 0, .ref m1, .ref m2, .ref m3, .int 0, .int 0, .int 0]))] H := hP
  have hD : va_D A [(x0, .inr (7, [.ref x1, .ref x2, .ref x45, .ref x53, .ref x55, .ref x57, .int 0, .int 0, .int 0])), (x1, .inl (xc0, 4, .inr (.inr (.inr (.inr (va_up (va_up (va_up (va_up (fun _ => none) 0 (some x59)) 1 (some x61)) 2 (some x63)) 3 (some x65))))))), (x2, .inr (5, [.ref x3, .ref x4, .ref x5, .ref x7, .ref x9, .ref x11, .int 0, .int 0])), (x59, .inr (6, [.ref x60, .int 0])), (x61, .inr (6, [.ref x62, .int 0])), (x63, .inr (6, [.ref x64, .int 0])), (x65, .inr (6, [.ref x66, .int 0])), (o0, .inr (8, [.long 1, .null])), (m0, .inr (9, [.int 0, .ref m1, .ref m2, .ref m3, .int 0, .int 0, .int 0]))] := hD
  refine lv_iload hx hb dL_law_1939 (lv_at hl 1 rfl) ?_
  refine lv_icmp_eq (tgt := 1946) hx hb dL_law_1941 (by decide) (fun _ => ?_) (fun c9 => absurd (by decide) c9)
  refine lv_iload hx hb dL_law_1946 (lv_at hl 1 rfl) ?_
  refine lv_if_ne (tgt := 1971) hx hb dL_law_1948 (by decide) (fun c9 => absurd (by decide) c9) (fun _ => ?_)
  refine lv_aload_n hx hb dL_law_1951 rfl (lv_at hl 3 rfl) ?_
  refine va_getN (D := (dC, dI)) (ci := 8) (v := .long 1) (C := RX4) (T := TX4) (N := 2) hx hb hts (by decide +kernel) hown hK hP 7 rfl rfl 0 (by decide) (va_Nw.use rfl g_nf_RL_13) (fun _ h9 => h9) rfl dL_law_1952 ?_
  refine lv_iload hx hb dL_law_1955 (lv_at hl 0 rfl) ?_
  refine lv_if_eq (tgt := 1964) hx hb dL_law_1957 (by decide) (fun c9 => absurd c9 (by decide)) (fun _ => ?_)
  refine lv_lconst (v := 1) hx hb dL_law_1960 (by decide) ?_
  refine lv_goto (tgt := 1965) hx hb dL_law_1961 (by decide) ?_
  refine W.lcmp hx hb dL_law_1965 ?_
  refine lv_topi (fun y3 ey3 => ?_)
  obtain rfl : y3 = 0 := ey3.trans (by decide)
  refine lv_if_eq (tgt := 1971) hx hb dL_law_1966 (by decide) (fun _ => ?_) (fun c9 => absurd (by decide) c9)
  refine lv_goto (tgt := 2342) hx hb dL_law_1971 (by decide) ?_
  refine lv_iinc (v := 7) (lv' := [(4, .int 7), (6, .int 1), (5, .int 0), (3, .ref o0), (2, .ref m0), (1, .ref x0), (0, .ref b)]) hx hb dL_law_2342 hl (k := 2) rfl (by decide) (by decide) rfl (fun ls hl => ?_)
  refine lv_goto (tgt := 27) hx hb dL_law_2345 (by decide) ?_
  refine lv_iload hx hb dL_law_27 (lv_at hl 0 rfl) ?_
  refine lv_aload_n hx hb dL_law_29 rfl (lv_at hl 6 rfl) ?_
  refine va_slen hx hb hX hbl hbA hS dL_law_30 ?_
  refine lv_topi (fun y4 ey4 => ?_)
  obtain rfl : y4 = 7 := ey4.trans (by decide)
  refine lv_bipush (v := 7) hx hb dL_law_31 (by decide) ?_
  refine lv_isub hx hb dL_law_33 ?_
  refine lv_topi (fun y5 ey5 => ?_)
  obtain rfl : y5 = 0 := ey5.trans (by decide)
  refine lv_icmp_gt (tgt := 2348) hx hb dL_law_34 (by decide) (fun _ => ?_) (fun c9 => absurd (by decide) c9)
  refine lv_iconst (v := 1) hx hb dL_law_2348 (by decide) ?_
  refine va_forget (fun q hq => (by have h := hS.2.2 q hq; rw [hAe] at h; exact h)) ?_
  refine W.widen (k := 600002) (n := 7302232) (Nat.le_of_ble_eq_true rfl) (Nat.le_of_ble_eq_true rfl) ?_
  exact lw_ret hx hb hr hlocks dL_law_2349
set_option maxHeartbeats 4000000 in
set_option maxRecDepth 100000 in
theorem lc_isEnd_1 {p : Program} {e : Env} {s : State} {m : MethodId} {below : List Frame} {meth : Method} {c : Code} {l : Launch} (hst : l.stackTraces = false) {b : Nat} {xs : Nat → Int32} (C9 : lx_At p s m meth c b xs) {dC : Nat → ClassId} {dI : Nat → Nat → Nat} {ge5 gea gv5 gva gde gic gi0 : Nat} {x0 m0 x1 x2 x45 x53 x55 x57 m1 m2 m3 o0 : Nat} (hG : gv ge5 gea gv5 gva gde gic gi0 (fun q => s.heap.size ≤ q) s s.heap) {v1 : Int32} (v1_l : ((-2147483648) : Int) ≤ v1.toInt) (v1_u : v1.toInt ≤ ((-1) : Int)) (hx1 : xs 1 = v1) {H : Heap} {locs : List Loc} (hK : va_K (dC, dI) vwCl [] s) (hP : va_P (dC, dI) vwCl [(x0, .inr (7, [.ref x1, .ref x2, .ref x45, .ref x53, .ref x55, .ref x57, .int 0, .int 0, .int 0])), (m0, .inr (9, [.int 0, .ref m1, .ref m2, .ref m3, .int 0, .int 0, .int 0]))] H) (hD : va_D (fun q => s.heap.size ≤ q) [(x0, .inr (7, [.ref x1, .ref x2, .ref x45, .ref x53, .ref x55, .ref x57, .int 0, .int 0, .int 0])), (m0, .inr (9, [.int 0, .ref m1, .ref m2, .ref m3, .int 0, .int 0, .int 0]))]) (hS : va_S (fun q => s.heap.size ≤ q) s.heap H locs) {ls : Array Slot} (hl : lv_has ls 7 [(4, .int 0), (3, .ref o0), (2, .ref m0), (1, .ref x0), (0, .ref b)]) : W p l e room_1 s m #[Value.ref b] below meth c H locs 72 2748 (lw_Z below #[Value.ref b] s) (F0 m 1910 ls []) := by
  obtain ⟨hx, hb, hr, hml, hown, hts, hX, hbl, hlocks⟩ := id C9
  have hA : ∀ q : Nat, s.heap.size ≤ q → (fun q : Nat => s.heap.size ≤ q) q := fun _ h => h
  have hbA : ¬ (fun q : Nat => s.heap.size ≤ q) b := Nat.not_le.mpr hbl
  obtain ⟨A, hAe⟩ : ∃ A : Nat → Prop, A = (fun q : Nat => s.heap.size ≤ q) := ⟨_, rfl⟩
  rw [← hAe] at hG hD hS hA hbA
  obtain ⟨⟨g_AO_Text, g_AO_String, g_AO_Object, g_nm_RX1_20, g_nm_RX0_17, g_nm_RX3_31, g_nm_RX2_44, g_nm_RL_121, g_nf_RL_13, g_nf_RL_47, g_ca_IO, g_ca_IA, g_ca_IS, g_ca_IntObj, g_ca_StrObj, g_de_RT, g_de_EX, g_de_TH, g_nc_IA_IO, g_nc_IS_IO, g_nc_IS_IA⟩, ⟨g_s3, g_s5, g_sa, g_x278, g_x280, g_x282, g_x284, g_x286, g_x180, g_x238, g_x250⟩, ⟨g_o5, g_c5, g_v5, g_t5, g_oa, g_ca, g_va, g_ta, g_zc, g_zd, g_td, g_zf, g_zU, g_zN, g_zh, g_zk, g_tk, g_oi, g_vi⟩⟩ := id hG
  refine lv_aload_n hx hb dL_law_1910 rfl (lv_at hl 3 rfl) ?_
  refine lv_aload_n hx hb dL_law_1911 rfl (lv_at hl 4 rfl) ?_
  refine lv_iload hx hb dL_law_1912 (lv_at hl 0 rfl) ?_
  refine lv_iconst (v := 1) hx hb dL_law_1914 (by decide) ?_
  refine lv_iadd hx hb dL_law_1915 ?_
  refine lv_topi (fun y1 ey1 => ?_)
  obtain rfl : y1 = 1 := ey1.trans (by decide)
  refine va_sld hx hb hX hbl hbA hS (by unfold vp_in; decide) dL_law_1916 ?_
  rw [show xs (Int32.toNatClampNeg 1) = v1 from hx1]
  refine lv_aload_n hx hb dL_law_1917 rfl (lv_at hl 1 rfl) ?_
  have hPc := hP.sub (ws' := [(x0, .inr (7, [.ref x1, .ref x2, .ref x45, .ref x53, .ref x55, .ref x57, .int 0, .int 0, .int 0]))]) [0] rfl
  have hDc := hD.sub (ws' := [(x0, .inr (7, [.ref x1, .ref x2, .ref x45, .ref x53, .ref x55, .ref x57, .int 0, .int 0, .int 0]))]) [0] (by decide) rfl
  have hKc := hK.sub (tys' := []) [] rfl
  have hFc := va_free (wc := [(x0, .inr (7, [.ref x1, .ref x2, .ref x45, .ref x53, .ref x55, .ref x57, .int 0, .int 0, .int 0]))]) hD hS hA [0] rfl
  refine va_calli (vx_runSW (As := [.ref x0, .int v1, .ref o0]) (rest := []) ⟨hx, hb, hml, hown, hts⟩ (kx_L_isEnd_1 l hst dC dI ge5 gea gv5 gva gde gic gi0 x0 o0 x1 x2 x45 x53 x55 x57 H.size v1 v1_l v1_u) (vx_cwSW 3 hts gL_law_L_isEnd rfl rfl rfl (by decide +kernel) ⟨Nat.le_of_ble_eq_true rfl, Nat.le_of_ble_eq_true rfl⟩) ⟨fun a U g mk q => by obtain ⟨q0, q1, qP, qK, qD, qG⟩ := q; exact ⟨q0, q1, qP, va_K.moved (u := U) (U := U.calling g mk a) (Vm.Alike.refl U.vm) qK, qD, gv.fb qG⟩, fun U hU hW => ⟨rfl, by rw [hU], by rw [hU]; exact hPc, va_K.moved hW.alike hKc, hDc.weaken (fun _ _ _ _ => trivial), gv.pass hW hU hS hFc hG⟩⟩ rfl rfl hl.1 rfl (lv_room (Nat.le_of_ble_eq_true rfl)) dL_law_1918 ⟨Nat.le_of_ble_eq_true rfl, Nat.le_of_ble_eq_true rfl⟩) hS (fun q _ h => hFc q h) hFc (fun r9 u t H1 locs ht hvm hw hB hz1 hk1 hS => ?_)
  obtain rfl := hw
  obtain ⟨hP1, hK1, hD1⟩ := hB
  rw [ht] at hP1
  have hK1 := va_K.moved hvm.symm hK1
  obtain ⟨hP, hD⟩ := va_join (wr := [(m0, .inr (9, [.int 0, .ref m1, .ref m2, .ref m3, .int 0, .int 0, .int 0]))]) (w1 := [(x0, .inr (7, [.ref x1, .ref x2, .ref x45, .ref x53, .ref x55, .ref x57, .int 0, .int 0, .int 0]))]) hP hD [0] [1] rfl rfl (by decide) (by decide) hk1 hFc hP1 hD1
  generalize H1 = H at hP hS ⊢
  have hP : va_P (dC, dI) vwCl [(m0, .inr (9, [.int 0, .ref m1, .ref m2, .ref m3, .int 0, .int 0, .int 0])), (x0, .inr (7, [.ref x1, .ref x2, .ref x45, .ref x53, .ref x55, .ref x57, .int 0, .int 0, .int 0]))] H := hP
  have hD : va_D A [(m0, .inr (9, [.int 0, .ref m1, .ref m2, .ref m3, .int 0, .int 0, .int 0])), (x0, .inr (7, [.ref x1, .ref x2, .ref x45, .ref x53, .ref x55, .ref x57, .int 0, .int 0, .int 0]))] := hD
  refine W.widen (k := 73) (n := 2754) (by omega) (by omega) ?_
  refine lv_istore (lv' := [(5, .int 1), (4, .int 0), (3, .ref o0), (2, .ref m0), (1, .ref x0), (0, .ref b)]) hx hb dL_law_1921 hl (by decide) rfl (fun ls hl => ?_)
  refine lv_aload_n hx hb dL_law_1923 rfl (lv_at hl 3 rfl) ?_
  refine lv_aload_n hx hb dL_law_1924 rfl (lv_at hl 5 rfl) ?_
  refine lv_iload hx hb dL_law_1925 (lv_at hl 1 rfl) ?_
  refine lv_iconst (v := 1) hx hb dL_law_1927 (by decide) ?_
  refine lv_iadd hx hb dL_law_1928 ?_
  refine lv_topi (fun y2 ey2 => ?_)
  obtain rfl : y2 = 1 := ey2.trans (by decide)
  refine va_sld hx hb hX hbl hbA hS (by unfold vp_in; decide) dL_law_1929 ?_
  rw [show xs (Int32.toNatClampNeg 1) = v1 from hx1]
  have hPc := hP.sub (ws' := [(m0, .inr (9, [.int 0, .ref m1, .ref m2, .ref m3, .int 0, .int 0, .int 0]))]) [0] rfl
  have hDc := hD.sub (ws' := [(m0, .inr (9, [.int 0, .ref m1, .ref m2, .ref m3, .int 0, .int 0, .int 0]))]) [0] (by decide) rfl
  have hKc := hK.sub (tys' := []) [] rfl
  have hFc := va_free (wc := [(m0, .inr (9, [.int 0, .ref m1, .ref m2, .ref m3, .int 0, .int 0, .int 0]))]) hD hS hA [0] rfl
  refine va_calli (va_runV (As := [.int v1]) (rest := []) ⟨hx, hb, hml, hown, hts⟩ (kx_X5_isEnd_1 l dC dI m0 m1 m2 m3 H.size v1 v1_l v1_u) (cwV 1 hts gL_law_X5_isEnd rfl rfl rfl (by decide +kernel) ⟨Nat.le_of_ble_eq_true rfl, Nat.le_of_ble_eq_true rfl⟩) ⟨fun a U g mk q => by obtain ⟨q0, q1, qP, qK, qD⟩ := q; exact ⟨q0, q1, qP, va_K.moved (u := U) (U := U.calling g mk a) (Vm.Alike.refl U.vm) qK, qD⟩, va_recv hKc hPc (ci := 9) (q0 := 0) rfl rfl, fun U hU hW => ⟨rfl, by rw [hU], by rw [hU]; exact hPc, va_K.moved hW.alike hKc, hDc.weaken (fun _ _ _ _ => trivial)⟩⟩ rfl rfl hl.1 rfl (lv_room (Nat.le_of_ble_eq_true rfl)) dL_law_1930 ⟨Nat.le_of_ble_eq_true rfl, Nat.le_of_ble_eq_true rfl⟩) hS (fun q _ h => hFc q h) hFc (fun r9 u t H1 locs ht hvm hw hB hz1 hk1 hS => ?_)
  obtain rfl := hw
  obtain ⟨hP1, hK1, hD1⟩ := hB
  rw [ht] at hP1
  have hK1 := va_K.moved hvm.symm hK1
  obtain ⟨hP, hD⟩ := va_join (wr := [(x0, .inr (7, [.ref x1, .ref x2, .ref x45, .ref x53, .ref x55, .ref x57, .int 0, .int 0, .int 0]))]) (w1 := [(m0, .inr (9, [.int 1, .ref m1, .ref m2, .ref m3, .int 0, .int 0, .int 0]))]) hP hD [0] [1] rfl rfl (by decide) (by decide) hk1 hFc hP1 hD1
  generalize H1 = H at hP hS ⊢
  have hP : va_P (dC, dI) vwCl [(x0, .inr (7, [.ref x1, .ref x2, .ref x45, .ref x53, .ref x55, .ref x57, .int 0, .int 0, .int 0])), (m0, .inr (9, [.int 1, .ref m1, .ref m2, .ref m3, .int 0, .int 0, .int 0]))] H := hP
  have hD : va_D A [(x0, .inr (7, [.ref x1, .ref x2, .ref x45, .ref x53, .ref x55, .ref x57, .int 0, .int 0, .int 0])), (m0, .inr (9, [.int 1, .ref m1, .ref m2, .ref m3, .int 0, .int 0, .int 0]))] := hD
  refine lv_istore (lv' := [(6, .int 0), (5, .int 1), (4, .int 0), (3, .ref o0), (2, .ref m0), (1, .ref x0), (0, .ref b)]) hx hb dL_law_1933 hl (by decide) rfl (fun ls hl => ?_)
  refine lv_aload_n hx hb dL_law_1935 rfl (lv_at hl 4 rfl) ?_
  have hPc := hP.sub (ws' := [(m0, .inr (9, [.int 1, .ref m1, .ref m2, .ref m3, .int 0, .int 0, .int 0]))]) [1] rfl
  have hDc := hD.sub (ws' := [(m0, .inr (9, [.int 1, .ref m1, .ref m2, .ref m3, .int 0, .int 0, .int 0]))]) [1] (by decide) rfl
  have hKc := hK.sub (tys' := []) [] rfl
  have hFc := va_free (wc := [(m0, .inr (9, [.int 1, .ref m1, .ref m2, .ref m3, .int 0, .int 0, .int 0]))]) hD hS hA [1] rfl
  refine va_calli (va_runV (As := []) (rest := []) ⟨hx, hb, hml, hown, hts⟩ (kx_X5_thrown_0 l dC dI m0 m1 m2 m3 H.size) (cwV 0 hts gL_law_X5_thrown rfl rfl rfl (by decide +kernel) ⟨Nat.le_of_ble_eq_true rfl, Nat.le_of_ble_eq_true rfl⟩) ⟨fun a U g mk q => by obtain ⟨q0, q1, qP, qK, qD⟩ := q; exact ⟨q0, q1, qP, va_K.moved (u := U) (U := U.calling g mk a) (Vm.Alike.refl U.vm) qK, qD⟩, va_recv hKc hPc (ci := 9) (q0 := 0) rfl rfl, fun U hU hW => ⟨rfl, by rw [hU], by rw [hU]; exact hPc, va_K.moved hW.alike hKc, hDc.weaken (fun _ _ _ _ => trivial)⟩⟩ rfl rfl hl.1 rfl (lv_room (Nat.le_of_ble_eq_true rfl)) dL_law_1936 ⟨Nat.le_of_ble_eq_true rfl, Nat.le_of_ble_eq_true rfl⟩) hS (fun q _ h => hFc q h) hFc (fun r9 u t H1 locs ht hvm hw hB hz1 hk1 hS => ?_)
  obtain rfl := hw
  obtain ⟨hP1, hK1, hD1⟩ := hB
  rw [ht] at hP1
  have hK1 := va_K.moved hvm.symm hK1
  obtain ⟨hP, hD⟩ := va_join (wr := [(x0, .inr (7, [.ref x1, .ref x2, .ref x45, .ref x53, .ref x55, .ref x57, .int 0, .int 0, .int 0]))]) (w1 := [(m0, .inr (9, [.int 1, .ref m1, .ref m2, .ref m3, .int 0, .int 0, .int 0]))]) hP hD [1] [0] rfl rfl (by decide) (by decide) hk1 hFc hP1 hD1
  generalize H1 = H at hP hS ⊢
  have hP : va_P (dC, dI) vwCl [(x0, .inr (7, [.ref x1, .ref x2, .ref x45, .ref x53, .ref x55, .ref x57, .int 0, .int 0, .int 0])), (m0, .inr (9, [.int 1, .ref m1, .ref m2, .ref m3, .int 0, .int 0, .int 0]))] H := hP
  have hD : va_D A [(x0, .inr (7, [.ref x1, .ref x2, .ref x45, .ref x53, .ref x55, .ref x57, .int 0, .int 0, .int 0])), (m0, .inr (9, [.int 1, .ref m1, .ref m2, .ref m3, .int 0, .int 0, .int 0]))] := hD
  refine lv_iload hx hb dL_law_1939 (lv_at hl 1 rfl) ?_
  refine lv_icmp_eq (tgt := 1946) hx hb dL_law_1941 (by decide) (fun _ => ?_) (fun c9 => absurd (by decide) c9)
  refine lv_iload hx hb dL_law_1946 (lv_at hl 1 rfl) ?_
  refine lv_if_ne (tgt := 1971) hx hb dL_law_1948 (by decide) (fun _ => ?_) (fun c9 => absurd c9 (by decide))
  refine lv_goto (tgt := 2342) hx hb dL_law_1971 (by decide) ?_
  refine lv_iinc (v := 7) (lv' := [(4, .int 7), (6, .int 0), (5, .int 1), (3, .ref o0), (2, .ref m0), (1, .ref x0), (0, .ref b)]) hx hb dL_law_2342 hl (k := 2) rfl (by decide) (by decide) rfl (fun ls hl => ?_)
  refine lv_goto (tgt := 27) hx hb dL_law_2345 (by decide) ?_
  refine lv_iload hx hb dL_law_27 (lv_at hl 0 rfl) ?_
  refine lv_aload_n hx hb dL_law_29 rfl (lv_at hl 6 rfl) ?_
  refine va_slen hx hb hX hbl hbA hS dL_law_30 ?_
  refine lv_topi (fun y3 ey3 => ?_)
  obtain rfl : y3 = 7 := ey3.trans (by decide)
  refine lv_bipush (v := 7) hx hb dL_law_31 (by decide) ?_
  refine lv_isub hx hb dL_law_33 ?_
  refine lv_topi (fun y4 ey4 => ?_)
  obtain rfl : y4 = 0 := ey4.trans (by decide)
  refine lv_icmp_gt (tgt := 2348) hx hb dL_law_34 (by decide) (fun _ => ?_) (fun c9 => absurd (by decide) c9)
  refine lv_iconst (v := 1) hx hb dL_law_2348 (by decide) ?_
  refine va_forget (fun q hq => (by have h := hS.2.2 q hq; rw [hAe] at h; exact h)) ?_
  refine W.widen (k := 600002) (n := 7302232) (Nat.le_of_ble_eq_true rfl) (Nat.le_of_ble_eq_true rfl) ?_
  exact lw_ret hx hb hr hlocks dL_law_2349
set_option maxHeartbeats 4000000 in
set_option maxRecDepth 100000 in
theorem lc_isEnd_2 {p : Program} {e : Env} {s : State} {m : MethodId} {below : List Frame} {meth : Method} {c : Code} {l : Launch} (hst : l.stackTraces = false) {b : Nat} {xs : Nat → Int32} (C9 : lx_At p s m meth c b xs) {dC : Nat → ClassId} {dI : Nat → Nat → Nat} {ge5 gea gv5 gva gde gic gi0 : Nat} {x0 m0 x1 x2 x45 x53 x55 x57 m1 m2 m3 o0 : Nat} (hG : gv ge5 gea gv5 gva gde gic gi0 (fun q => s.heap.size ≤ q) s s.heap) {v1 : Int32} (v1_l : (4 : Int) ≤ v1.toInt) (v1_u : v1.toInt ≤ (2147483647 : Int)) (hx1 : xs 1 = v1) {H : Heap} {locs : List Loc} (hK : va_K (dC, dI) vwCl [] s) (hP : va_P (dC, dI) vwCl [(x0, .inr (7, [.ref x1, .ref x2, .ref x45, .ref x53, .ref x55, .ref x57, .int 0, .int 0, .int 0])), (m0, .inr (9, [.int 0, .ref m1, .ref m2, .ref m3, .int 0, .int 0, .int 0]))] H) (hD : va_D (fun q => s.heap.size ≤ q) [(x0, .inr (7, [.ref x1, .ref x2, .ref x45, .ref x53, .ref x55, .ref x57, .int 0, .int 0, .int 0])), (m0, .inr (9, [.int 0, .ref m1, .ref m2, .ref m3, .int 0, .int 0, .int 0]))]) (hS : va_S (fun q => s.heap.size ≤ q) s.heap H locs) {ls : Array Slot} (hl : lv_has ls 7 [(4, .int 0), (3, .ref o0), (2, .ref m0), (1, .ref x0), (0, .ref b)]) : W p l e room_1 s m #[Value.ref b] below meth c H locs 72 2748 (lw_Z below #[Value.ref b] s) (F0 m 1910 ls []) := by
  obtain ⟨hx, hb, hr, hml, hown, hts, hX, hbl, hlocks⟩ := id C9
  have hA : ∀ q : Nat, s.heap.size ≤ q → (fun q : Nat => s.heap.size ≤ q) q := fun _ h => h
  have hbA : ¬ (fun q : Nat => s.heap.size ≤ q) b := Nat.not_le.mpr hbl
  obtain ⟨A, hAe⟩ : ∃ A : Nat → Prop, A = (fun q : Nat => s.heap.size ≤ q) := ⟨_, rfl⟩
  rw [← hAe] at hG hD hS hA hbA
  obtain ⟨⟨g_AO_Text, g_AO_String, g_AO_Object, g_nm_RX1_20, g_nm_RX0_17, g_nm_RX3_31, g_nm_RX2_44, g_nm_RL_121, g_nf_RL_13, g_nf_RL_47, g_ca_IO, g_ca_IA, g_ca_IS, g_ca_IntObj, g_ca_StrObj, g_de_RT, g_de_EX, g_de_TH, g_nc_IA_IO, g_nc_IS_IO, g_nc_IS_IA⟩, ⟨g_s3, g_s5, g_sa, g_x278, g_x280, g_x282, g_x284, g_x286, g_x180, g_x238, g_x250⟩, ⟨g_o5, g_c5, g_v5, g_t5, g_oa, g_ca, g_va, g_ta, g_zc, g_zd, g_td, g_zf, g_zU, g_zN, g_zh, g_zk, g_tk, g_oi, g_vi⟩⟩ := id hG
  refine lv_aload_n hx hb dL_law_1910 rfl (lv_at hl 3 rfl) ?_
  refine lv_aload_n hx hb dL_law_1911 rfl (lv_at hl 4 rfl) ?_
  refine lv_iload hx hb dL_law_1912 (lv_at hl 0 rfl) ?_
  refine lv_iconst (v := 1) hx hb dL_law_1914 (by decide) ?_
  refine lv_iadd hx hb dL_law_1915 ?_
  refine lv_topi (fun y1 ey1 => ?_)
  obtain rfl : y1 = 1 := ey1.trans (by decide)
  refine va_sld hx hb hX hbl hbA hS (by unfold vp_in; decide) dL_law_1916 ?_
  rw [show xs (Int32.toNatClampNeg 1) = v1 from hx1]
  refine lv_aload_n hx hb dL_law_1917 rfl (lv_at hl 1 rfl) ?_
  have hPc := hP.sub (ws' := [(x0, .inr (7, [.ref x1, .ref x2, .ref x45, .ref x53, .ref x55, .ref x57, .int 0, .int 0, .int 0]))]) [0] rfl
  have hDc := hD.sub (ws' := [(x0, .inr (7, [.ref x1, .ref x2, .ref x45, .ref x53, .ref x55, .ref x57, .int 0, .int 0, .int 0]))]) [0] (by decide) rfl
  have hKc := hK.sub (tys' := []) [] rfl
  have hFc := va_free (wc := [(x0, .inr (7, [.ref x1, .ref x2, .ref x45, .ref x53, .ref x55, .ref x57, .int 0, .int 0, .int 0]))]) hD hS hA [0] rfl
  refine va_calli (vx_runSW (As := [.ref x0, .int v1, .ref o0]) (rest := []) ⟨hx, hb, hml, hown, hts⟩ (kx_L_isEnd_2 l hst dC dI ge5 gea gv5 gva gde gic gi0 x0 o0 x1 x2 x45 x53 x55 x57 H.size v1 v1_l v1_u) (vx_cwSW 3 hts gL_law_L_isEnd rfl rfl rfl (by decide +kernel) ⟨Nat.le_of_ble_eq_true rfl, Nat.le_of_ble_eq_true rfl⟩) ⟨fun a U g mk q => by obtain ⟨q0, q1, qP, qK, qD, qG⟩ := q; exact ⟨q0, q1, qP, va_K.moved (u := U) (U := U.calling g mk a) (Vm.Alike.refl U.vm) qK, qD, gv.fb qG⟩, fun U hU hW => ⟨rfl, by rw [hU], by rw [hU]; exact hPc, va_K.moved hW.alike hKc, hDc.weaken (fun _ _ _ _ => trivial), gv.pass hW hU hS hFc hG⟩⟩ rfl rfl hl.1 rfl (lv_room (Nat.le_of_ble_eq_true rfl)) dL_law_1918 ⟨Nat.le_of_ble_eq_true rfl, Nat.le_of_ble_eq_true rfl⟩) hS (fun q _ h => hFc q h) hFc (fun r9 u t H1 locs ht hvm hw hB hz1 hk1 hS => ?_)
  obtain rfl := hw
  obtain ⟨hP1, hK1, hD1⟩ := hB
  rw [ht] at hP1
  have hK1 := va_K.moved hvm.symm hK1
  obtain ⟨hP, hD⟩ := va_join (wr := [(m0, .inr (9, [.int 0, .ref m1, .ref m2, .ref m3, .int 0, .int 0, .int 0]))]) (w1 := [(x0, .inr (7, [.ref x1, .ref x2, .ref x45, .ref x53, .ref x55, .ref x57, .int 0, .int 0, .int 0]))]) hP hD [0] [1] rfl rfl (by decide) (by decide) hk1 hFc hP1 hD1
  generalize H1 = H at hP hS ⊢
  have hP : va_P (dC, dI) vwCl [(m0, .inr (9, [.int 0, .ref m1, .ref m2, .ref m3, .int 0, .int 0, .int 0])), (x0, .inr (7, [.ref x1, .ref x2, .ref x45, .ref x53, .ref x55, .ref x57, .int 0, .int 0, .int 0]))] H := hP
  have hD : va_D A [(m0, .inr (9, [.int 0, .ref m1, .ref m2, .ref m3, .int 0, .int 0, .int 0])), (x0, .inr (7, [.ref x1, .ref x2, .ref x45, .ref x53, .ref x55, .ref x57, .int 0, .int 0, .int 0]))] := hD
  refine W.widen (k := 73) (n := 2754) (by omega) (by omega) ?_
  refine lv_istore (lv' := [(5, .int 1), (4, .int 0), (3, .ref o0), (2, .ref m0), (1, .ref x0), (0, .ref b)]) hx hb dL_law_1921 hl (by decide) rfl (fun ls hl => ?_)
  refine lv_aload_n hx hb dL_law_1923 rfl (lv_at hl 3 rfl) ?_
  refine lv_aload_n hx hb dL_law_1924 rfl (lv_at hl 5 rfl) ?_
  refine lv_iload hx hb dL_law_1925 (lv_at hl 1 rfl) ?_
  refine lv_iconst (v := 1) hx hb dL_law_1927 (by decide) ?_
  refine lv_iadd hx hb dL_law_1928 ?_
  refine lv_topi (fun y2 ey2 => ?_)
  obtain rfl : y2 = 1 := ey2.trans (by decide)
  refine va_sld hx hb hX hbl hbA hS (by unfold vp_in; decide) dL_law_1929 ?_
  rw [show xs (Int32.toNatClampNeg 1) = v1 from hx1]
  have hPc := hP.sub (ws' := [(m0, .inr (9, [.int 0, .ref m1, .ref m2, .ref m3, .int 0, .int 0, .int 0]))]) [0] rfl
  have hDc := hD.sub (ws' := [(m0, .inr (9, [.int 0, .ref m1, .ref m2, .ref m3, .int 0, .int 0, .int 0]))]) [0] (by decide) rfl
  have hKc := hK.sub (tys' := []) [] rfl
  have hFc := va_free (wc := [(m0, .inr (9, [.int 0, .ref m1, .ref m2, .ref m3, .int 0, .int 0, .int 0]))]) hD hS hA [0] rfl
  refine va_calli (va_runV (As := [.int v1]) (rest := []) ⟨hx, hb, hml, hown, hts⟩ (kx_X5_isEnd_2 l dC dI m0 m1 m2 m3 H.size v1 v1_l v1_u) (cwV 1 hts gL_law_X5_isEnd rfl rfl rfl (by decide +kernel) ⟨Nat.le_of_ble_eq_true rfl, Nat.le_of_ble_eq_true rfl⟩) ⟨fun a U g mk q => by obtain ⟨q0, q1, qP, qK, qD⟩ := q; exact ⟨q0, q1, qP, va_K.moved (u := U) (U := U.calling g mk a) (Vm.Alike.refl U.vm) qK, qD⟩, va_recv hKc hPc (ci := 9) (q0 := 0) rfl rfl, fun U hU hW => ⟨rfl, by rw [hU], by rw [hU]; exact hPc, va_K.moved hW.alike hKc, hDc.weaken (fun _ _ _ _ => trivial)⟩⟩ rfl rfl hl.1 rfl (lv_room (Nat.le_of_ble_eq_true rfl)) dL_law_1930 ⟨Nat.le_of_ble_eq_true rfl, Nat.le_of_ble_eq_true rfl⟩) hS (fun q _ h => hFc q h) hFc (fun r9 u t H1 locs ht hvm hw hB hz1 hk1 hS => ?_)
  obtain rfl := hw
  obtain ⟨hP1, hK1, hD1⟩ := hB
  rw [ht] at hP1
  have hK1 := va_K.moved hvm.symm hK1
  obtain ⟨hP, hD⟩ := va_join (wr := [(x0, .inr (7, [.ref x1, .ref x2, .ref x45, .ref x53, .ref x55, .ref x57, .int 0, .int 0, .int 0]))]) (w1 := [(m0, .inr (9, [.int 1, .ref m1, .ref m2, .ref m3, .int 0, .int 0, .int 0]))]) hP hD [0] [1] rfl rfl (by decide) (by decide) hk1 hFc hP1 hD1
  generalize H1 = H at hP hS ⊢
  have hP : va_P (dC, dI) vwCl [(x0, .inr (7, [.ref x1, .ref x2, .ref x45, .ref x53, .ref x55, .ref x57, .int 0, .int 0, .int 0])), (m0, .inr (9, [.int 1, .ref m1, .ref m2, .ref m3, .int 0, .int 0, .int 0]))] H := hP
  have hD : va_D A [(x0, .inr (7, [.ref x1, .ref x2, .ref x45, .ref x53, .ref x55, .ref x57, .int 0, .int 0, .int 0])), (m0, .inr (9, [.int 1, .ref m1, .ref m2, .ref m3, .int 0, .int 0, .int 0]))] := hD
  refine lv_istore (lv' := [(6, .int 0), (5, .int 1), (4, .int 0), (3, .ref o0), (2, .ref m0), (1, .ref x0), (0, .ref b)]) hx hb dL_law_1933 hl (by decide) rfl (fun ls hl => ?_)
  refine lv_aload_n hx hb dL_law_1935 rfl (lv_at hl 4 rfl) ?_
  have hPc := hP.sub (ws' := [(m0, .inr (9, [.int 1, .ref m1, .ref m2, .ref m3, .int 0, .int 0, .int 0]))]) [1] rfl
  have hDc := hD.sub (ws' := [(m0, .inr (9, [.int 1, .ref m1, .ref m2, .ref m3, .int 0, .int 0, .int 0]))]) [1] (by decide) rfl
  have hKc := hK.sub (tys' := []) [] rfl
  have hFc := va_free (wc := [(m0, .inr (9, [.int 1, .ref m1, .ref m2, .ref m3, .int 0, .int 0, .int 0]))]) hD hS hA [1] rfl
  refine va_calli (va_runV (As := []) (rest := []) ⟨hx, hb, hml, hown, hts⟩ (kx_X5_thrown_0 l dC dI m0 m1 m2 m3 H.size) (cwV 0 hts gL_law_X5_thrown rfl rfl rfl (by decide +kernel) ⟨Nat.le_of_ble_eq_true rfl, Nat.le_of_ble_eq_true rfl⟩) ⟨fun a U g mk q => by obtain ⟨q0, q1, qP, qK, qD⟩ := q; exact ⟨q0, q1, qP, va_K.moved (u := U) (U := U.calling g mk a) (Vm.Alike.refl U.vm) qK, qD⟩, va_recv hKc hPc (ci := 9) (q0 := 0) rfl rfl, fun U hU hW => ⟨rfl, by rw [hU], by rw [hU]; exact hPc, va_K.moved hW.alike hKc, hDc.weaken (fun _ _ _ _ => trivial)⟩⟩ rfl rfl hl.1 rfl (lv_room (Nat.le_of_ble_eq_true rfl)) dL_law_1936 ⟨Nat.le_of_ble_eq_true rfl, Nat.le_of_ble_eq_true rfl⟩) hS (fun q _ h => hFc q h) hFc (fun r9 u t H1 locs ht hvm hw hB hz1 hk1 hS => ?_)
  obtain rfl := hw
  obtain ⟨hP1, hK1, hD1⟩ := hB
  rw [ht] at hP1
  have hK1 := va_K.moved hvm.symm hK1
  obtain ⟨hP, hD⟩ := va_join (wr := [(x0, .inr (7, [.ref x1, .ref x2, .ref x45, .ref x53, .ref x55, .ref x57, .int 0, .int 0, .int 0]))]) (w1 := [(m0, .inr (9, [.int 1, .ref m1, .ref m2, .ref m3, .int 0, .int 0, .int 0]))]) hP hD [1] [0] rfl rfl (by decide) (by decide) hk1 hFc hP1 hD1
  generalize H1 = H at hP hS ⊢
  have hP : va_P (dC, dI) vwCl [(x0, .inr (7, [.ref x1, .ref x2, .ref x45, .ref x53, .ref x55, .ref x57, .int 0, .int 0, .int 0])), (m0, .inr (9, [.int 1, .ref m1, .ref m2, .ref m3, .int 0, .int 0, .int 0]))] H := hP
  have hD : va_D A [(x0, .inr (7, [.ref x1, .ref x2, .ref x45, .ref x53, .ref x55, .ref x57, .int 0, .int 0, .int 0])), (m0, .inr (9, [.int 1, .ref m1, .ref m2, .ref m3, .int 0, .int 0, .int 0]))] := hD
  refine lv_iload hx hb dL_law_1939 (lv_at hl 1 rfl) ?_
  refine lv_icmp_eq (tgt := 1946) hx hb dL_law_1941 (by decide) (fun _ => ?_) (fun c9 => absurd (by decide) c9)
  refine lv_iload hx hb dL_law_1946 (lv_at hl 1 rfl) ?_
  refine lv_if_ne (tgt := 1971) hx hb dL_law_1948 (by decide) (fun _ => ?_) (fun c9 => absurd c9 (by decide))
  refine lv_goto (tgt := 2342) hx hb dL_law_1971 (by decide) ?_
  refine lv_iinc (v := 7) (lv' := [(4, .int 7), (6, .int 0), (5, .int 1), (3, .ref o0), (2, .ref m0), (1, .ref x0), (0, .ref b)]) hx hb dL_law_2342 hl (k := 2) rfl (by decide) (by decide) rfl (fun ls hl => ?_)
  refine lv_goto (tgt := 27) hx hb dL_law_2345 (by decide) ?_
  refine lv_iload hx hb dL_law_27 (lv_at hl 0 rfl) ?_
  refine lv_aload_n hx hb dL_law_29 rfl (lv_at hl 6 rfl) ?_
  refine va_slen hx hb hX hbl hbA hS dL_law_30 ?_
  refine lv_topi (fun y3 ey3 => ?_)
  obtain rfl : y3 = 7 := ey3.trans (by decide)
  refine lv_bipush (v := 7) hx hb dL_law_31 (by decide) ?_
  refine lv_isub hx hb dL_law_33 ?_
  refine lv_topi (fun y4 ey4 => ?_)
  obtain rfl : y4 = 0 := ey4.trans (by decide)
  refine lv_icmp_gt (tgt := 2348) hx hb dL_law_34 (by decide) (fun _ => ?_) (fun c9 => absurd (by decide) c9)
  refine lv_iconst (v := 1) hx hb dL_law_2348 (by decide) ?_
  refine va_forget (fun q hq => (by have h := hS.2.2 q hq; rw [hAe] at h; exact h)) ?_
  refine W.widen (k := 600002) (n := 7302232) (Nat.le_of_ble_eq_true rfl) (Nat.le_of_ble_eq_true rfl) ?_
  exact lw_ret hx hb hr hlocks dL_law_2349
set_option maxHeartbeats 4000000 in
set_option maxRecDepth 100000 in
theorem lc_form_0 {p : Program} {e : Env} {s : State} {m : MethodId} {below : List Frame} {meth : Method} {c : Code} {l : Launch} (hst : l.stackTraces = false) {b : Nat} {xs : Nat → Int32} (C9 : lx_At p s m meth c b xs) {dC : Nat → ClassId} {dI : Nat → Nat → Nat} {ge5 gea gv5 gva gde gic gi0 : Nat} {x0 x1 x2 x53 x54 x59 x60 x61 x62 x63 x64 x65 x66 m0 m1 m2 o0 x45 x55 x57 x3 x4 x5 x7 x9 x11 m3 : Nat} {xc0 xc27 xc30 xc31 xc32 xc33 mc0 : ClassId} (hG : gv ge5 gea gv5 gva gde gic gi0 (fun q => s.heap.size ≤ q) s s.heap) {v1 : Int32} (v1_l : (0 : Int) ≤ v1.toInt) (v1_u : v1.toInt ≤ (3 : Int)) (hx1 : xs 1 = v1) {H : Heap} {locs : List Loc} (hK : va_K (dC, dI) vwCl [(xc0, .object "Rewriterope$Text"), (xc27, .byte), (xc30, .byte), (xc31, .byte), (xc32, .byte), (xc33, .byte), (mc0, .object "java/lang/String")] s) (hP : va_P (dC, dI) vwCl [(x0, .inr (7, [.ref x1, .ref x2, .ref x45, .ref x53, .ref x55, .ref x57, .int 0, .int 0, .int 0])), (x1, .inl (xc0, 4, .inr (.inr (.inr (.inr (va_up (va_up (va_up (va_up (fun _ => none) 0 (some x59)) 1 (some x61)) 2 (some x63)) 3 (some x65))))))), (x2, .inr (5, [.ref x3, .ref x4, .ref x5, .ref x7, .ref x9, .ref x11, .int 0, .int 0])), (x53, .inr (6, [.ref x54, .int 0])), (x54, .inl (xc27, 64, .inl (fun _ => 0))), (x59, .inr (6, [.ref x60, .int 0])), (x60, .inl (xc30, 64, .inl (fun _ => 0))), (x61, .inr (6, [.ref x62, .int 0])), (x62, .inl (xc31, 64, .inl (fun _ => 0))), (x63, .inr (6, [.ref x64, .int 0])), (x64, .inl (xc32, 64, .inl (fun _ => 0))), (x65, .inr (6, [.ref x66, .int 0])), (x66, .inl (xc33, 64, .inl (fun _ => 0))), (m0, .inr (9, [.int 0, .ref m1, .ref m2, .ref m3, .int 0, .int 0, .int 0])), (m1, .inl (mc0, 4, .inr (.inr (.inr (.inr (va_up (va_up (va_up (va_up (fun _ => none) 0 (some ge5)) 1 (some ge5)) 2 (some ge5)) 3 (some ge5))))))), (m2, .inr (3, [.int 0, .ref gde, .int 0])), (o0, .inr (8, [.long 0, .null]))] H) (hD : va_D (fun q => s.heap.size ≤ q) [(x0, .inr (7, [.ref x1, .ref x2, .ref x45, .ref x53, .ref x55, .ref x57, .int 0, .int 0, .int 0])), (x1, .inl (xc0, 4, .inr (.inr (.inr (.inr (va_up (va_up (va_up (va_up (fun _ => none) 0 (some x59)) 1 (some x61)) 2 (some x63)) 3 (some x65))))))), (x2, .inr (5, [.ref x3, .ref x4, .ref x5, .ref x7, .ref x9, .ref x11, .int 0, .int 0])), (x53, .inr (6, [.ref x54, .int 0])), (x54, .inl (xc27, 64, .inl (fun _ => 0))), (x59, .inr (6, [.ref x60, .int 0])), (x60, .inl (xc30, 64, .inl (fun _ => 0))), (x61, .inr (6, [.ref x62, .int 0])), (x62, .inl (xc31, 64, .inl (fun _ => 0))), (x63, .inr (6, [.ref x64, .int 0])), (x64, .inl (xc32, 64, .inl (fun _ => 0))), (x65, .inr (6, [.ref x66, .int 0])), (x66, .inl (xc33, 64, .inl (fun _ => 0))), (m0, .inr (9, [.int 0, .ref m1, .ref m2, .ref m3, .int 0, .int 0, .int 0])), (m1, .inl (mc0, 4, .inr (.inr (.inr (.inr (va_up (va_up (va_up (va_up (fun _ => none) 0 (some ge5)) 1 (some ge5)) 2 (some ge5)) 3 (some ge5))))))), (m2, .inr (3, [.int 0, .ref gde, .int 0])), (o0, .inr (8, [.long 0, .null]))]) (hS : va_S (fun q => s.heap.size ≤ q) s.heap H locs) {ls : Array Slot} (hl : lv_has ls 7 [(4, .int 0), (3, .ref o0), (2, .ref m0), (1, .ref x0), (0, .ref b)]) : W p l e room_1 s m #[Value.ref b] below meth c H locs 72 2748 (lw_Z below #[Value.ref b] s) (F0 m 1974 ls []) := by
  obtain ⟨hx, hb, hr, hml, hown, hts, hX, hbl, hlocks⟩ := id C9
  have hA : ∀ q : Nat, s.heap.size ≤ q → (fun q : Nat => s.heap.size ≤ q) q := fun _ h => h
  have hbA : ¬ (fun q : Nat => s.heap.size ≤ q) b := Nat.not_le.mpr hbl
  obtain ⟨A, hAe⟩ : ∃ A : Nat → Prop, A = (fun q : Nat => s.heap.size ≤ q) := ⟨_, rfl⟩
  rw [← hAe] at hG hD hS hA hbA
  obtain ⟨⟨g_AO_Text, g_AO_String, g_AO_Object, g_nm_RX1_20, g_nm_RX0_17, g_nm_RX3_31, g_nm_RX2_44, g_nm_RL_121, g_nf_RL_13, g_nf_RL_47, g_ca_IO, g_ca_IA, g_ca_IS, g_ca_IntObj, g_ca_StrObj, g_de_RT, g_de_EX, g_de_TH, g_nc_IA_IO, g_nc_IS_IO, g_nc_IS_IA⟩, ⟨g_s3, g_s5, g_sa, g_x278, g_x280, g_x282, g_x284, g_x286, g_x180, g_x238, g_x250⟩, ⟨g_o5, g_c5, g_v5, g_t5, g_oa, g_ca, g_va, g_ta, g_zc, g_zd, g_td, g_zf, g_zU, g_zN, g_zh, g_zk, g_tk, g_oi, g_vi⟩⟩ := id hG
  refine lv_aload_n hx hb dL_law_1974 rfl (lv_at hl 3 rfl) ?_
  refine lv_aload_n hx hb dL_law_1975 rfl (lv_at hl 4 rfl) ?_
  refine lv_iload hx hb dL_law_1976 (lv_at hl 0 rfl) ?_
  refine lv_iconst (v := 1) hx hb dL_law_1978 (by decide) ?_
  refine lv_iadd hx hb dL_law_1979 ?_
  refine lv_topi (fun y1 ey1 => ?_)
  obtain rfl : y1 = 1 := ey1.trans (by decide)
  refine va_sld hx hb hX hbl hbA hS (by unfold vp_in; decide) dL_law_1980 ?_
  rw [show xs (Int32.toNatClampNeg 1) = v1 from hx1]
  refine lv_aload_n hx hb dL_law_1981 rfl (lv_at hl 1 rfl) ?_
  have hPc := hP.sub (ws' := [(x0, .inr (7, [.ref x1, .ref x2, .ref x45, .ref x53, .ref x55, .ref x57, .int 0, .int 0, .int 0])), (x1, .inl (xc0, 4, .inr (.inr (.inr (.inr (va_up (va_up (va_up (va_up (fun _ => none) 0 (some x59)) 1 (some x61)) 2 (some x63)) 3 (some x65))))))), (x2, .inr (5, [.ref x3, .ref x4, .ref x5, .ref x7, .ref x9, .ref x11, .int 0, .int 0])), (x53, .inr (6, [.ref x54, .int 0])), (x54, .inl (xc27, 64, .inl (fun _ => 0))), (x59, .inr (6, [.ref x60, .int 0])), (x60, .inl (xc30, 64, .inl (fun _ => 0))), (x61, .inr (6, [.ref x62, .int 0])), (x62, .inl (xc31, 64, .inl (fun _ => 0))), (x63, .inr (6, [.ref x64, .int 0])), (x64, .inl (xc32, 64, .inl (fun _ => 0))), (x65, .inr (6, [.ref x66, .int 0])), (x66, .inl (xc33, 64, .inl (fun _ => 0))), (o0, .inr (8, [.long 0, .null]))]) [0, 1, 2, 3, 4, 5, 6, 7, 8, 9, 10, 11, 12, 16] rfl
  have hDc := hD.sub (ws' := [(x0, .inr (7, [.ref x1, .ref x2, .ref x45, .ref x53, .ref x55, .ref x57, .int 0, .int 0, .int 0])), (x1, .inl (xc0, 4, .inr (.inr (.inr (.inr (va_up (va_up (va_up (va_up (fun _ => none) 0 (some x59)) 1 (some x61)) 2 (some x63)) 3 (some x65))))))), (x2, .inr (5, [.ref x3, .ref x4, .ref x5, .ref x7, .ref x9, .ref x11, .int 0, .int 0])), (x53, .inr (6, [.ref x54, .int 0])), (x54, .inl (xc27, 64, .inl (fun _ => 0))), (x59, .inr (6, [.ref x60, .int 0])), (x60, .inl (xc30, 64, .inl (fun _ => 0))), (x61, .inr (6, [.ref x62, .int 0])), (x62, .inl (xc31, 64, .inl (fun _ => 0))), (x63, .inr (6, [.ref x64, .int 0])), (x64, .inl (xc32, 64, .inl (fun _ => 0))), (x65, .inr (6, [.ref x66, .int 0])), (x66, .inl (xc33, 64, .inl (fun _ => 0))), (o0, .inr (8, [.long 0, .null]))]) [0, 1, 2, 3, 4, 5, 6, 7, 8, 9, 10, 11, 12, 16] (by decide) rfl
  have hKc := hK.sub (tys' := [(xc0, .object "Rewriterope$Text"), (xc27, .byte), (xc30, .byte), (xc31, .byte), (xc32, .byte), (xc33, .byte)]) [0, 1, 2, 3, 4, 5] rfl
  have hFc := va_free (wc := [(x0, .inr (7, [.ref x1, .ref x2, .ref x45, .ref x53, .ref x55, .ref x57, .int 0, .int 0, .int 0])), (x1, .inl (xc0, 4, .inr (.inr (.inr (.inr (va_up (va_up (va_up (va_up (fun _ => none) 0 (some x59)) 1 (some x61)) 2 (some x63)) 3 (some x65))))))), (x2, .inr (5, [.ref x3, .ref x4, .ref x5, .ref x7, .ref x9, .ref x11, .int 0, .int 0])), (x53, .inr (6, [.ref x54, .int 0])), (x54, .inl (xc27, 64, .inl (fun _ => 0))), (x59, .inr (6, [.ref x60, .int 0])), (x60, .inl (xc30, 64, .inl (fun _ => 0))), (x61, .inr (6, [.ref x62, .int 0])), (x62, .inl (xc31, 64, .inl (fun _ => 0))), (x63, .inr (6, [.ref x64, .int 0])), (x64, .inl (xc32, 64, .inl (fun _ => 0))), (x65, .inr (6, [.ref x66, .int 0])), (x66, .inl (xc33, 64, .inl (fun _ => 0))), (o0, .inr (8, [.long 0, .null]))]) hD hS hA [0, 1, 2, 3, 4, 5, 6, 7, 8, 9, 10, 11, 12, 16] rfl
  refine va_calli (vx_runSW (As := [.ref x0, .int v1, .ref o0]) (rest := []) ⟨hx, hb, hml, hown, hts⟩ (kx_L_form_0 l dC dI ge5 gea gv5 gva gde gic gi0 x0 x1 x2 x53 x54 x59 x60 x61 x62 x63 x64 x65 x66 o0 x45 x55 x57 x3 x4 x5 x7 x9 x11 xc0 xc27 xc30 xc31 xc32 xc33 H.size v1 v1_l v1_u) (vx_cwSW 3 hts gL_law_L_form rfl rfl rfl (by decide +kernel) ⟨Nat.le_of_ble_eq_true rfl, Nat.le_of_ble_eq_true rfl⟩) ⟨fun a U g mk q => by obtain ⟨q0, q1, qP, qK, qD, qG⟩ := q; exact ⟨q0, q1, qP, va_K.moved (u := U) (U := U.calling g mk a) (Vm.Alike.refl U.vm) qK, qD, gv.fb qG⟩, fun U hU hW => ⟨rfl, by rw [hU], by rw [hU]; exact hPc, va_K.moved hW.alike hKc, hDc.weaken (fun _ _ _ _ => trivial), gv.pass hW hU hS hFc hG⟩⟩ rfl rfl hl.1 rfl (lv_room (Nat.le_of_ble_eq_true rfl)) dL_law_1982 ⟨Nat.le_of_ble_eq_true rfl, Nat.le_of_ble_eq_true rfl⟩) hS (fun q _ h => hFc q h) hFc (fun r9 u t H1 locs ht hvm hw hB hz1 hk1 hS => ?_)
  obtain rfl := hw
  obtain ⟨q2, q3, q4, q5, cq6, cq7, hP1, hK1, hD1⟩ := hB
  rw [ht] at hP1
  have hK1 := va_K.moved hvm.symm hK1
  obtain ⟨hP, hD⟩ := va_join (wr := [(m0, .inr (9, [.int 0, .ref m1, .ref m2, .ref m3, .int 0, .int 0, .int 0])), (m1, .inl (mc0, 4, .inr (.inr (.inr (.inr (va_up (va_up (va_up (va_up (fun _ => none) 0 (some ge5)) 1 (some ge5)) 2 (some ge5)) 3 (some ge5))))))), (m2, .inr (3, [.int 0, .ref gde, .int 0]))]) (w1 := [(x0, .inr (7, [.ref x1, .ref x2, .ref x45, .ref x53, .ref x55, .ref x57, .int 0, .int 0, .int 0])), (x1, .inl (xc0, 4, .inr (.inr (.inr (.inr (va_up (va_up (va_up (va_up (fun _ => none) 0 (some x59)) 1 (some x61)) 2 (some x63)) 3 (some x65))))))), (x2, .inr (5, [.ref x3, .ref x4, .ref x5, .ref x7, .ref x9, .ref x11, .int 0, .int 0])), (x53, .inr (6, [.ref x54, .int 0])), (x54, .inl (xc27, 64, .inl (fun _ => 0))), (x59, .inr (6, [.ref x60, .int 0])), (x60, .inl (xc30, 64, .inl (fun _ => 0))), (x61, .inr (6, [.ref x62, .int 0])), (x62, .inl (xc31, 64, .inl (fun _ => 0))), (x63, .inr (6, [.ref x64, .int 0])), (x64, .inl (xc32, 64, .inl (fun _ => 0))), (x65, .inr (6, [.ref x66, .int 0])), (x66, .inl (xc33, 64, .inl (fun _ => 0))), (o0, .inr (8, [.long 0, .ref q4])), (q2, .inr (1, [.ref q3, .int 0, .int 0, .int 0])), (q3, .inl (cq6, 16, .inl (fun _ => 0))), (q4, .inr (0, [.ref q5, .int 0, .int 0, .int 0])), (q5, .inl (cq7, 0, .inl (fun _ => 0)))]) hP hD [0, 1, 2, 3, 4, 5, 6, 7, 8, 9, 10, 11, 12, 16] [13, 14, 15] rfl rfl (by decide) (by decide) hk1 hFc hP1 hD1
  have hK := hK.app (hK1.sub (tys' := [(cq6, .byte), (cq7, .byte)]) [6, 7] rfl)
  generalize H1 = H at hP hS ⊢
  have hK : va_K (dC, dI) vwCl [(xc0, .object "Rewriterope$Text"), (xc27, .byte), (xc30, .byte), (xc31, .byte), (xc32, .byte), (xc33, .byte), (mc0, .object "java/lang/String"), (cq6, .byte), (cq7, .byte)] s := hK
  have hP : va_P (dC, dI) vwCl [(m0, .inr (9, [.int 0, .ref m1, .ref m2, .ref m3, .int 0, .int 0, .int 0])), (m1, .inl (mc0, 4, .inr (.inr (.inr (.inr (va_up (va_up (va_up (va_up (fun _ => none) 0 (some ge5)) 1 (some ge5)) 2 (some ge5)) 3 (some ge5))))))), (m2, .inr (3, [.int 0, .ref gde, .int 0])), (x0, .inr (7, [.ref x1, .ref x2, .ref x45, .ref x53, .ref x55, .ref x57, .int 0, .int 0, .int 0])), (x1, .inl (xc0, 4, .inr (.inr (.inr (.inr (va_up (va_up (va_up (va_up (fun _ => none) 0 (some x59)) 1 (some x61)) 2 (some x63)) 3 (some x65))))))), (x2, .inr (5, [.ref x3, .ref x4, .ref x5, .ref x7, .ref x9, .ref x11, .int 0, .int 0])), (x53, .inr (6, [.ref x54, .int 0])), (x54, .inl (xc27, 64, .inl (fun _ => 0))), (x59, .inr (6, [.ref x60, .int 0])), (x60, .inl (xc30, 64, .inl (fun _ => 0))), (x61, .inr (6, [.ref x62, .int 0])), (x62, .inl (xc31, 64, .inl (fun _ => 0))), (x63, .inr (6, [.ref x64, .int 0])), (x64, .inl (xc32, 64, .inl (fun _ => 0))), (x65, .inr (6, [.ref x66, .int 0])), (x66, .inl (xc33, 64, .inl (fun _ => 0))), (o0, .inr (8, [.long 0, .ref q4])), (q2, .inr (1, [.ref q3, .int 0, .int 0, .int 0])), (q3, .inl (cq6, 16, .inl (fun _ => 0))), (q4, .inr (0, [.ref q5, .int 0, .int 0, .int 0])), (q5, .inl (cq7, 0, .inl (fun _ => 0)))] H := hP
  have hD : va_D A [(m0, .inr (9, [.int 0, .ref m1, .ref m2, .ref m3, .int 0, .int 0, .int 0])), (m1, .inl (mc0, 4, .inr (.inr (.inr (.inr (va_up (va_up (va_up (va_up (fun _ => none) 0 (some ge5)) 1 (some ge5)) 2 (some ge5)) 3 (some ge5))))))), (m2, .inr (3, [.int 0, .ref gde, .int 0])), (x0, .inr (7, [.ref x1, .ref x2, .ref x45, .ref x53, .ref x55, .ref x57, .int 0, .int 0, .int 0])), (x1, .inl (xc0, 4, .inr (.inr (.inr (.inr (va_up (va_up (va_up (va_up (fun _ => none) 0 (some x59)) 1 (some x61)) 2 (some x63)) 3 (some x65))))))), (x2, .inr (5, [.ref x3, .ref x4, .ref x5, .ref x7, .ref x9, .ref x11, .int 0, .int 0])), (x53, .inr (6, [.ref x54, .int 0])), (x54, .inl (xc27, 64, .inl (fun _ => 0))), (x59, .inr (6, [.ref x60, .int 0])), (x60, .inl (xc30, 64, .inl (fun _ => 0))), (x61, .inr (6, [.ref x62, .int 0])), (x62, .inl (xc31, 64, .inl (fun _ => 0))), (x63, .inr (6, [.ref x64, .int 0])), (x64, .inl (xc32, 64, .inl (fun _ => 0))), (x65, .inr (6, [.ref x66, .int 0])), (x66, .inl (xc33, 64, .inl (fun _ => 0))), (o0, .inr (8, [.long 0, .ref q4])), (q2, .inr (1, [.ref q3, .int 0, .int 0, .int 0])), (q3, .inl (cq6, 16, .inl (fun _ => 0))), (q4, .inr (0, [.ref q5, .int 0, .int 0, .int 0])), (q5, .inl (cq7, 0, .inl (fun _ => 0)))] := hD
  refine W.widen (k := 76) (n := 2772) (by omega) (by omega) ?_
  refine lv_istore (lv' := [(5, .int 0), (4, .int 0), (3, .ref o0), (2, .ref m0), (1, .ref x0), (0, .ref b)]) hx hb dL_law_1985 hl (by decide) rfl (fun ls hl => ?_)
  refine lv_aload_n hx hb dL_law_1987 rfl (lv_at hl 3 rfl) ?_
  refine lv_aload_n hx hb dL_law_1988 rfl (lv_at hl 5 rfl) ?_
  refine lv_iload hx hb dL_law_1989 (lv_at hl 1 rfl) ?_
  refine lv_iconst (v := 1) hx hb dL_law_1991 (by decide) ?_
  refine lv_iadd hx hb dL_law_1992 ?_
  refine lv_topi (fun y8 ey8 => ?_)
  obtain rfl : y8 = 1 := ey8.trans (by decide)
  refine va_sld hx hb hX hbl hbA hS (by unfold vp_in; decide) dL_law_1993 ?_
  rw [show xs (Int32.toNatClampNeg 1) = v1 from hx1]
  have hPc := hP.sub (ws' := [(m0, .inr (9, [.int 0, .ref m1, .ref m2, .ref m3, .int 0, .int 0, .int 0])), (m1, .inl (mc0, 4, .inr (.inr (.inr (.inr (va_up (va_up (va_up (va_up (fun _ => none) 0 (some ge5)) 1 (some ge5)) 2 (some ge5)) 3 (some ge5))))))), (m2, .inr (3, [.int 0, .ref gde, .int 0]))]) [0, 1, 2] rfl
  have hDc := hD.sub (ws' := [(m0, .inr (9, [.int 0, .ref m1, .ref m2, .ref m3, .int 0, .int 0, .int 0])), (m1, .inl (mc0, 4, .inr (.inr (.inr (.inr (va_up (va_up (va_up (va_up (fun _ => none) 0 (some ge5)) 1 (some ge5)) 2 (some ge5)) 3 (some ge5))))))), (m2, .inr (3, [.int 0, .ref gde, .int 0]))]) [0, 1, 2] (by decide) rfl
  have hKc := hK.sub (tys' := [(mc0, .object "java/lang/String")]) [6] rfl
  have hFc := va_free (wc := [(m0, .inr (9, [.int 0, .ref m1, .ref m2, .ref m3, .int 0, .int 0, .int 0])), (m1, .inl (mc0, 4, .inr (.inr (.inr (.inr (va_up (va_up (va_up (va_up (fun _ => none) 0 (some ge5)) 1 (some ge5)) 2 (some ge5)) 3 (some ge5))))))), (m2, .inr (3, [.int 0, .ref gde, .int 0]))]) hD hS hA [0, 1, 2] rfl
  refine va_callr (va_runV (As := [.int v1]) (rest := []) ⟨hx, hb, hml, hown, hts⟩ (kx_X5_form_0 l dC dI ge5 gea gv5 gva gde gic gi0 m0 m1 m2 m3 mc0 H.size v1 v1_l v1_u) (cwV 1 hts gL_law_X5_form rfl rfl rfl (by decide +kernel) ⟨Nat.le_of_ble_eq_true rfl, Nat.le_of_ble_eq_true rfl⟩) ⟨fun a U g mk q => by obtain ⟨q0, q1, qP, qK, qD, qG⟩ := q; exact ⟨q0, q1, qP, va_K.moved (u := U) (U := U.calling g mk a) (Vm.Alike.refl U.vm) qK, qD, gv.fb qG⟩, va_recv hKc hPc (ci := 9) (q0 := 0) rfl rfl, fun U hU hW => ⟨rfl, by rw [hU], by rw [hU]; exact hPc, va_K.moved hW.alike hKc, hDc.weaken (fun _ _ _ _ => trivial), gv.pass hW hU hS hFc hG⟩⟩ rfl rfl hl.1 rfl (lv_room (Nat.le_of_ble_eq_true rfl)) dL_law_1994 ⟨Nat.le_of_ble_eq_true rfl, Nat.le_of_ble_eq_true rfl⟩) hS (fun q _ h => hFc q h) hFc (fun u ra t H1 locs ht hvm hw hB hz1 hk1 hS => ?_)
  obtain ⟨q9, cq10, hra, hP1, hK1, hD1⟩ := hB
  rw [hra]
  rw [ht] at hP1
  have hK1 := va_K.moved hvm.symm hK1
  obtain ⟨hP, hD⟩ := va_join (wr := [(x0, .inr (7, [.ref x1, .ref x2, .ref x45, .ref x53, .ref x55, .ref x57, .int 0, .int 0, .int 0])), (x1, .inl (xc0, 4, .inr (.inr (.inr (.inr (va_up (va_up (va_up (va_up (fun _ => none) 0 (some x59)) 1 (some x61)) 2 (some x63)) 3 (some x65))))))), (x2, .inr (5, [.ref x3, .ref x4, .ref x5, .ref x7, .ref x9, .ref x11, .int 0, .int 0])), (x53, .inr (6, [.ref x54, .int 0])), (x54, .inl (xc27, 64, .inl (fun _ => 0))), (x59, .inr (6, [.ref x60, .int 0])), (x60, .inl (xc30, 64, .inl (fun _ => 0))), (x61, .inr (6, [.ref x62, .int 0])), (x62, .inl (xc31, 64, .inl (fun _ => 0))), (x63, .inr (6, [.ref x64, .int 0])), (x64, .inl (xc32, 64, .inl (fun _ => 0))), (x65, .inr (6, [.ref x66, .int 0])), (x66, .inl (xc33, 64, .inl (fun _ => 0))), (o0, .inr (8, [.long 0, .ref q4])), (q2, .inr (1, [.ref q3, .int 0, .int 0, .int 0])), (q3, .inl (cq6, 16, .inl (fun _ => 0))), (q4, .inr (0, [.ref q5, .int 0, .int 0, .int 0])), (q5, .inl (cq7, 0, .inl (fun _ => 0)))]) (w1 := [(m0, .inr (9, [.int 0, .ref m1, .ref m2, .ref m3, .int 0, .int 0, .int 0]))]) hP hD [0, 1, 2] [3, 4, 5, 6, 7, 8, 9, 10, 11, 12, 13, 14, 15, 16, 17, 18, 19, 20] rfl rfl (by decide) (by decide) hk1 hFc hP1 hD1
  have hK := hK.app (hK1.sub (tys' := [(cq10, .int)]) [1] rfl)
  generalize H1 = H at hP hS ⊢
  have hK : va_K (dC, dI) vwCl [(xc0, .object "Rewriterope$Text"), (xc27, .byte), (xc30, .byte), (xc31, .byte), (xc32, .byte), (xc33, .byte), (mc0, .object "java/lang/String"), (cq6, .byte), (cq7, .byte), (cq10, .int)] s := hK
  have hP : va_P (dC, dI) vwCl [(x0, .inr (7, [.ref x1, .ref x2, .ref x45, .ref x53, .ref x55, .ref x57, .int 0, .int 0, .int 0])), (x1, .inl (xc0, 4, .inr (.inr (.inr (.inr (va_up (va_up (va_up (va_up (fun _ => none) 0 (some x59)) 1 (some x61)) 2 (some x63)) 3 (some x65))))))), (x2, .inr (5, [.ref x3, .ref x4, .ref x5, .ref x7, .ref x9, .ref x11, .int 0, .int 0])), (x53, .inr (6, [.ref x54, .int 0])), (x54, .inl (xc27, 64, .inl (fun _ => 0))), (x59, .inr (6, [.ref x60, .int 0])), (x60, .inl (xc30, 64, .inl (fun _ => 0))), (x61, .inr (6, [.ref x62, .int 0])), (x62, .inl (xc31, 64, .inl (fun _ => 0))), (x63, .inr (6, [.ref x64, .int 0])), (x64, .inl (xc32, 64, .inl (fun _ => 0))), (x65, .inr (6, [.ref x66, .int 0])), (x66, .inl (xc33, 64, .inl (fun _ => 0))), (o0, .inr (8, [.long 0, .ref q4])), (q2, .inr (1, [.ref q3, .int 0, .int 0, .int 0])), (q3, .inl (cq6, 16, .inl (fun _ => 0))), (q4, .inr (0, [.ref q5, .int 0, .int 0, .int 0])), (q5, .inl (cq7, 0, .inl (fun _ => 0))), (m0, .inr (9, [.int 0, .ref m1, .ref m2, .ref m3, .int 0, .int 0, .int 0]))] H := hP
  have hD : va_D A [(x0, .inr (7, [.ref x1, .ref x2, .ref x45, .ref x53, .ref x55, .ref x57, .int 0, .int 0, .int 0])), (x1, .inl (xc0, 4, .inr (.inr (.inr (.inr (va_up (va_up (va_up (va_up (fun _ => none) 0 (some x59)) 1 (some x61)) 2 (some x63)) 3 (some x65))))))), (x2, .inr (5, [.ref x3, .ref x4, .ref x5, .ref x7, .ref x9, .ref x11, .int 0, .int 0])), (x53, .inr (6, [.ref x54, .int 0])), (x54, .inl (xc27, 64, .inl (fun _ => 0))), (x59, .inr (6, [.ref x60, .int 0])), (x60, .inl (xc30, 64, .inl (fun _ => 0))), (x61, .inr (6, [.ref x62, .int 0])), (x62, .inl (xc31, 64, .inl (fun _ => 0))), (x63, .inr (6, [.ref x64, .int 0])), (x64, .inl (xc32, 64, .inl (fun _ => 0))), (x65, .inr (6, [.ref x66, .int 0])), (x66, .inl (xc33, 64, .inl (fun _ => 0))), (o0, .inr (8, [.long 0, .ref q4])), (q2, .inr (1, [.ref q3, .int 0, .int 0, .int 0])), (q3, .inl (cq6, 16, .inl (fun _ => 0))), (q4, .inr (0, [.ref q5, .int 0, .int 0, .int 0])), (q5, .inl (cq7, 0, .inl (fun _ => 0))), (m0, .inr (9, [.int 0, .ref m1, .ref m2, .ref m3, .int 0, .int 0, .int 0]))] := hD
  refine W.widen (k := 77) (n := 2773) (by omega) (by omega) ?_
  refine lv_astore (lv' := [(6, .ref ge5), (5, .int 0), (4, .int 0), (3, .ref o0), (2, .ref m0), (1, .ref x0), (0, .ref b)]) hx hb dL_law_1997 hl (by decide) rfl (fun ls hl => ?_)
  refine lv_aload_n hx hb dL_law_1999 rfl (lv_at hl 4 rfl) ?_
  have hPc := hP.sub (ws' := [(m0, .inr (9, [.int 0, .ref m1, .ref m2, .ref m3, .int 0, .int 0, .int 0]))]) [18] rfl
  have hDc := hD.sub (ws' := [(m0, .inr (9, [.int 0, .ref m1, .ref m2, .ref m3, .int 0, .int 0, .int 0]))]) [18] (by decide) rfl
  have hKc := hK.sub (tys' := []) [] rfl
  have hFc := va_free (wc := [(m0, .inr (9, [.int 0, .ref m1, .ref m2, .ref m3, .int 0, .int 0, .int 0]))]) hD hS hA [18] rfl
  refine va_calli (va_runV (As := []) (rest := []) ⟨hx, hb, hml, hown, hts⟩ (kx_X5_thrown_2 l dC dI m0 m1 m2 m3 H.size) (cwV 0 hts gL_law_X5_thrown rfl rfl rfl (by decide +kernel) ⟨Nat.le_of_ble_eq_true rfl, Nat.le_of_ble_eq_true rfl⟩) ⟨fun a U g mk q => by obtain ⟨q0, q1, qP, qK, qD⟩ := q; exact ⟨q0, q1, qP, va_K.moved (u := U) (U := U.calling g mk a) (Vm.Alike.refl U.vm) qK, qD⟩, va_recv hKc hPc (ci := 9) (q0 := 0) rfl rfl, fun U hU hW => ⟨rfl, by rw [hU], by rw [hU]; exact hPc, va_K.moved hW.alike hKc, hDc.weaken (fun _ _ _ _ => trivial)⟩⟩ rfl rfl hl.1 rfl (lv_room (Nat.le_of_ble_eq_true rfl)) dL_law_2000 ⟨Nat.le_of_ble_eq_true rfl, Nat.le_of_ble_eq_true rfl⟩) hS (fun q _ h => hFc q h) hFc (fun r9 u t H1 locs ht hvm hw hB hz1 hk1 hS => ?_)
  obtain rfl := hw
  obtain ⟨hP1, hK1, hD1⟩ := hB
  rw [ht] at hP1
  have hK1 := va_K.moved hvm.symm hK1
  obtain ⟨hP, hD⟩ := va_join (wr := [(x0, .inr (7, [.ref x1, .ref x2, .ref x45, .ref x53, .ref x55, .ref x57, .int 0, .int 0, .int 0])), (x1, .inl (xc0, 4, .inr (.inr (.inr (.inr (va_up (va_up (va_up (va_up (fun _ => none) 0 (some x59)) 1 (some x61)) 2 (some x63)) 3 (some x65))))))), (x2, .inr (5, [.ref x3, .ref x4, .ref x5, .ref x7, .ref x9, .ref x11, .int 0, .int 0])), (x53, .inr (6, [.ref x54, .int 0])), (x54, .inl (xc27, 64, .inl (fun _ => 0))), (x59, .inr (6, [.ref x60, .int 0])), (x60, .inl (xc30, 64, .inl (fun _ => 0))), (x61, .inr (6, [.ref x62, .int 0])), (x62, .inl (xc31, 64, .inl (fun _ => 0))), (x63, .inr (6, [.ref x64, .int 0])), (x64, .inl (xc32, 64, .inl (fun _ => 0))), (x65, .inr (6, [.ref x66, .int 0])), (x66, .inl (xc33, 64, .inl (fun _ => 0))), (o0, .inr (8, [.long 0, .ref q4])), (q2, .inr (1, [.ref q3, .int 0, .int 0, .int 0])), (q3, .inl (cq6, 16, .inl (fun _ => 0))), (q4, .inr (0, [.ref q5, .int 0, .int 0, .int 0])), (q5, .inl (cq7, 0, .inl (fun _ => 0)))]) (w1 := [(m0, .inr (9, [.int 0, .ref m1, .ref m2, .ref m3, .int 0, .int 0, .int 0]))]) hP hD [18] [0, 1, 2, 3, 4, 5, 6, 7, 8, 9, 10, 11, 12, 13, 14, 15, 16, 17] rfl rfl (by decide) (by decide) hk1 hFc hP1 hD1
  generalize H1 = H at hP hS ⊢
  have hP : va_P (dC, dI) vwCl [(x0, .inr (7, [.ref x1, .ref x2, .ref x45, .ref x53, .ref x55, .ref x57, .int 0, .int 0, .int 0])), (x1, .inl (xc0, 4, .inr (.inr (.inr (.inr (va_up (va_up (va_up (va_up (fun _ => none) 0 (some x59)) 1 (some x61)) 2 (some x63)) 3 (some x65))))))), (x2, .inr (5, [.ref x3, .ref x4, .ref x5, .ref x7, .ref x9, .ref x11, .int 0, .int 0])), (x53, .inr (6, [.ref x54, .int 0])), (x54, .inl (xc27, 64, .inl (fun _ => 0))), (x59, .inr (6, [.ref x60, .int 0])), (x60, .inl (xc30, 64, .inl (fun _ => 0))), (x61, .inr (6, [.ref x62, .int 0])), (x62, .inl (xc31, 64, .inl (fun _ => 0))), (x63, .inr (6, [.ref x64, .int 0])), (x64, .inl (xc32, 64, .inl (fun _ => 0))), (x65, .inr (6, [.ref x66, .int 0])), (x66, .inl (xc33, 64, .inl (fun _ => 0))), (o0, .inr (8, [.long 0, .ref q4])), (q2, .inr (1, [.ref q3, .int 0, .int 0, .int 0])), (q3, .inl (cq6, 16, .inl (fun _ => 0))), (q4, .inr (0, [.ref q5, .int 0, .int 0, .int 0])), (q5, .inl (cq7, 0, .inl (fun _ => 0))), (m0, .inr (9, [.int 0, .ref m1, .ref m2, .ref m3, .int 0, .int 0, .int 0]))] H := hP
  have hD : va_D A [(x0, .inr (7, [.ref x1, .ref x2, .ref x45, .ref x53, .ref x55, .ref x57, .int 0, .int 0, .int 0])), (x1, .inl (xc0, 4, .inr (.inr (.inr (.inr (va_up (va_up (va_up (va_up (fun _ => none) 0 (some x59)) 1 (some x61)) 2 (some x63)) 3 (some x65))))))), (x2, .inr (5, [.ref x3, .ref x4, .ref x5, .ref x7, .ref x9, .ref x11, .int 0, .int 0])), (x53, .inr (6, [.ref x54, .int 0])), (x54, .inl (xc27, 64, .inl (fun _ => 0))), (x59, .inr (6, [.ref x60, .int 0])), (x60, .inl (xc30, 64, .inl (fun _ => 0))), (x61, .inr (6, [.ref x62, .int 0])), (x62, .inl (xc31, 64, .inl (fun _ => 0))), (x63, .inr (6, [.ref x64, .int 0])), (x64, .inl (xc32, 64, .inl (fun _ => 0))), (x65, .inr (6, [.ref x66, .int 0])), (x66, .inl (xc33, 64, .inl (fun _ => 0))), (o0, .inr (8, [.long 0, .ref q4])), (q2, .inr (1, [.ref q3, .int 0, .int 0, .int 0])), (q3, .inl (cq6, 16, .inl (fun _ => 0))), (q4, .inr (0, [.ref q5, .int 0, .int 0, .int 0])), (q5, .inl (cq7, 0, .inl (fun _ => 0))), (m0, .inr (9, [.int 0, .ref m1, .ref m2, .ref m3, .int 0, .int 0, .int 0]))] := hD
  refine lv_iload hx hb dL_law_2003 (lv_at hl 1 rfl) ?_
  refine lv_icmp_eq (tgt := 2010) hx hb dL_law_2005 (by decide) (fun _ => ?_) (fun c9 => absurd (by decide) c9)
  refine lv_iload hx hb dL_law_2010 (lv_at hl 1 rfl) ?_
  refine lv_if_ne (tgt := 2029) hx hb dL_law_2012 (by decide) (fun c9 => absurd (by decide) c9) (fun _ => ?_)
  refine lv_aload_n hx hb dL_law_2015 rfl (lv_at hl 3 rfl) ?_
  refine va_getN (D := (dC, dI)) (ci := 8) (v := .ref q4) (C := RX4) (T := TX4) (N := 2) hx hb hts (by decide +kernel) hown hK hP 13 rfl rfl 1 (by decide) (va_Nw.use rfl g_nf_RL_47) (fun _ h9 => h9) rfl dL_law_2016 ?_
  refine lv_aload hx hb dL_law_2019 (lv_at hl 0 rfl) ?_
  have hPc := hP.sub (ws' := [(q4, .inr (0, [.ref q5, .int 0, .int 0, .int 0])), (q5, .inl (cq7, 0, .inl (fun _ => 0)))]) [16, 17] rfl
  have hDc := hD.sub (ws' := [(q4, .inr (0, [.ref q5, .int 0, .int 0, .int 0])), (q5, .inl (cq7, 0, .inl (fun _ => 0)))]) [16, 17] (by decide) rfl
  have hKc := hK.sub (tys' := [(cq7, .byte)]) [8] rfl
  have hFc := va_free (wc := [(q4, .inr (0, [.ref q5, .int 0, .int 0, .int 0])), (q5, .inl (cq7, 0, .inl (fun _ => 0)))]) hD hS hA [16, 17] rfl
  refine va_calli (va_runV (As := [.ref ge5]) (rest := []) ⟨hx, hb, hml, hown, hts⟩ (kx_J0_equals_9ea2d_0 l dC dI ge5 gea gv5 gva gde gic gi0 q4 q5 cq7 H.size) (cwV 1 hts gL_law_J0_equals_9ea2d rfl rfl rfl (by decide +kernel) ⟨Nat.le_of_ble_eq_true rfl, Nat.le_of_ble_eq_true rfl⟩) ⟨fun a U g mk q => by obtain ⟨q0, q1, qP, qK, qD, qG⟩ := q; exact ⟨q0, q1, qP, va_K.moved (u := U) (U := U.calling g mk a) (Vm.Alike.refl U.vm) qK, qD, gv.fb qG⟩, va_recv hKc hPc (ci := 0) (q0 := 0) rfl rfl, fun U hU hW => ⟨rfl, by rw [hU], by rw [hU]; exact hPc, va_K.moved hW.alike hKc, hDc.weaken (fun _ _ _ _ => trivial), gv.pass hW hU hS hFc hG⟩⟩ rfl rfl hl.1 rfl (lv_room (Nat.le_of_ble_eq_true rfl)) dL_law_2021 ⟨Nat.le_of_ble_eq_true rfl, Nat.le_of_ble_eq_true rfl⟩) hS (fun q _ h => hFc q h) hFc (fun r9 u t H1 locs ht hvm hw hB hz1 hk1 hS => ?_)
  obtain rfl := hw
  obtain ⟨hP1, hK1, hD1⟩ := hB
  rw [ht] at hP1
  have hK1 := va_K.moved hvm.symm hK1
  obtain ⟨hP, hD⟩ := va_join (wr := [(x0, .inr (7, [.ref x1, .ref x2, .ref x45, .ref x53, .ref x55, .ref x57, .int 0, .int 0, .int 0])), (x1, .inl (xc0, 4, .inr (.inr (.inr (.inr (va_up (va_up (va_up (va_up (fun _ => none) 0 (some x59)) 1 (some x61)) 2 (some x63)) 3 (some x65))))))), (x2, .inr (5, [.ref x3, .ref x4, .ref x5, .ref x7, .ref x9, .ref x11, .int 0, .int 0])), (x53, .inr (6, [.ref x54, .int 0])), (x54, .inl (xc27, 64, .inl (fun _ => 0))), (x59, .inr (6, [.ref x60, .int 0])), (x60, .inl (xc30, 64, .inl (fun _ => 0))), (x61, .inr (6, [.ref x62, .int 0])), (x62, .inl (xc31, 64, .inl (fun _ => 0))), (x63, .inr (6, [.ref x64, .int 0])), (x64, .inl (xc32, 64, .inl (fun _ => 0))), (x65, .inr (6, [.ref x66, .int 0])), (x66, .inl (xc33, 64, .inl (fun _ => 0))), (o0, .inr (8, [.long 0, .ref q4])), (q2, .inr (1, [.ref q3, .int 0, .int 0, .int 0])), (q3, .inl (cq6, 16, .inl (fun _ => 0))), (m0, .inr (9, [.int 0, .ref m1, .ref m2, .ref m3, .int 0, .int 0, .int 0]))]) (w1 := [(q4, .inr (0, [.ref q5, .int 0, .int 0, .int 0])), (q5, .inl (cq7, 0, .inl (fun _ => 0)))]) hP hD [16, 17] [0, 1, 2, 3, 4, 5, 6, 7, 8, 9, 10, 11, 12, 13, 14, 15, 18] rfl rfl (by decide) (by decide) hk1 hFc hP1 hD1
  generalize H1 = H at hP hS ⊢
  have hP : va_P (dC, dI) vwCl [(x0, .inr (7, [.ref x1, .ref x2, .ref x45, .ref x53, .ref x55, .ref x57, .int 0, .int 0, .int 0])), (x1, .inl (xc0, 4, .inr (.inr (.inr (.inr (va_up (va_up (va_up (va_up (fun _ => none) 0 (some x59)) 1 (some x61)) 2 (some x63)) 3 (some x65))))))), (x2, .inr (5, [.ref x3, .ref x4, .ref x5, .ref x7, .ref x9, .ref x11, .int 0, .int 0])), (x53, .inr (6, [.ref x54, .int 0])), (x54, .inl (xc27, 64, .inl (fun _ => 0))), (x59, .inr (6, [.ref x60, .int 0])), (x60, .inl (xc30, 64, .inl (fun _ => 0))), (x61, .inr (6, [.ref x62, .int 0])), (x62, .inl (xc31, 64, .inl (fun _ => 0))), (x63, .inr (6, [.ref x64, .int 0])), (x64, .inl (xc32, 64, .inl (fun _ => 0))), (x65, .inr (6, [.ref x66, .int 0])), (x66, .inl (xc33, 64, .inl (fun _ => 0))), (o0, .inr (8, [.long 0, .ref q4])), (q2, .inr (1, [.ref q3, .int 0, .int 0, .int 0])), (q3, .inl (cq6, 16, .inl (fun _ => 0))), (m0, .inr (9, [.int 0, .ref m1, .ref m2, .ref m3, .int 0, .int 0, .int 0])), (q4, .inr (0, [.ref q5, .int 0, .int 0, .int 0])), (q5, .inl (cq7, 0, .inl (fun _ => 0)))] H := hP
  have hD : va_D A [(x0, .inr (7, [.ref x1, .ref x2, .ref x45, .ref x53, .ref x55, .ref x57, .int 0, .int 0, .int 0])), (x1, .inl (xc0, 4, .inr (.inr (.inr (.inr (va_up (va_up (va_up (va_up (fun _ => none) 0 (some x59)) 1 (some x61)) 2 (some x63)) 3 (some x65))))))), (x2, .inr (5, [.ref x3, .ref x4, .ref x5, .ref x7, .ref x9, .ref x11, .int 0, .int 0])), (x53, .inr (6, [.ref x54, .int 0])), (x54, .inl (xc27, 64, .inl (fun _ => 0))), (x59, .inr (6, [.ref x60, .int 0])), (x60, .inl (xc30, 64, .inl (fun _ => 0))), (x61, .inr (6, [.ref x62, .int 0])), (x62, .inl (xc31, 64, .inl (fun _ => 0))), (x63, .inr (6, [.ref x64, .int 0])), (x64, .inl (xc32, 64, .inl (fun _ => 0))), (x65, .inr (6, [.ref x66, .int 0])), (x66, .inl (xc33, 64, .inl (fun _ => 0))), (o0, .inr (8, [.long 0, .ref q4])), (q2, .inr (1, [.ref q3, .int 0, .int 0, .int 0])), (q3, .inl (cq6, 16, .inl (fun _ => 0))), (m0, .inr (9, [.int 0, .ref m1, .ref m2, .ref m3, .int 0, .int 0, .int 0])), (q4, .inr (0, [.ref q5, .int 0, .int 0, .int 0])), (q5, .inl (cq7, 0, .inl (fun _ => 0)))] := hD
  refine lv_if_ne (tgt := 2029) hx hb dL_law_2024 (by decide) (fun _ => ?_) (fun c9 => absurd c9 (by decide))
  refine lv_goto (tgt := 2342) hx hb dL_law_2029 (by decide) ?_
  refine lv_iinc (v := 7) (lv' := [(4, .int 7), (6, .ref ge5), (5, .int 0), (3, .ref o0), (2, .ref m0), (1, .ref x0), (0, .ref b)]) hx hb dL_law_2342 hl (k := 2) rfl (by decide) (by decide) rfl (fun ls hl => ?_)
  refine lv_goto (tgt := 27) hx hb dL_law_2345 (by decide) ?_
  refine lv_iload hx hb dL_law_27 (lv_at hl 0 rfl) ?_
  refine lv_aload_n hx hb dL_law_29 rfl (lv_at hl 6 rfl) ?_
  refine va_slen hx hb hX hbl hbA hS dL_law_30 ?_
  refine lv_topi (fun y11 ey11 => ?_)
  obtain rfl : y11 = 7 := ey11.trans (by decide)
  refine lv_bipush (v := 7) hx hb dL_law_31 (by decide) ?_
  refine lv_isub hx hb dL_law_33 ?_
  refine lv_topi (fun y12 ey12 => ?_)
  obtain rfl : y12 = 0 := ey12.trans (by decide)
  refine lv_icmp_gt (tgt := 2348) hx hb dL_law_34 (by decide) (fun _ => ?_) (fun c9 => absurd (by decide) c9)
  refine lv_iconst (v := 1) hx hb dL_law_2348 (by decide) ?_
  refine va_forget (fun q hq => (by have h := hS.2.2 q hq; rw [hAe] at h; exact h)) ?_
  refine W.widen (k := 600002) (n := 7302232) (Nat.le_of_ble_eq_true rfl) (Nat.le_of_ble_eq_true rfl) ?_
  exact lw_ret hx hb hr hlocks dL_law_2349
set_option maxHeartbeats 4000000 in
set_option maxRecDepth 100000 in
theorem lc_form_1 {p : Program} {e : Env} {s : State} {m : MethodId} {below : List Frame} {meth : Method} {c : Code} {l : Launch} (hst : l.stackTraces = false) {b : Nat} {xs : Nat → Int32} (C9 : lx_At p s m meth c b xs) {dC : Nat → ClassId} {dI : Nat → Nat → Nat} {ge5 gea gv5 gva gde gic gi0 : Nat} {x0 m0 x1 x2 x45 x53 x55 x57 m1 m2 m3 o0 : Nat} (hG : gv ge5 gea gv5 gva gde gic gi0 (fun q => s.heap.size ≤ q) s s.heap) {v1 : Int32} (v1_l : ((-2147483648) : Int) ≤ v1.toInt) (v1_u : v1.toInt ≤ ((-1) : Int)) (hx1 : xs 1 = v1) {H : Heap} {locs : List Loc} (hK : va_K (dC, dI) vwCl [] s) (hP : va_P (dC, dI) vwCl [(x0, .inr (7, [.ref x1, .ref x2, .ref x45, .ref x53, .ref x55, .ref x57, .int 0, .int 0, .int 0])), (m0, .inr (9, [.int 0, .ref m1, .ref m2, .ref m3, .int 0, .int 0, .int 0]))] H) (hD : va_D (fun q => s.heap.size ≤ q) [(x0, .inr (7, [.ref x1, .ref x2, .ref x45, .ref x53, .ref x55, .ref x57, .int 0, .int 0, .int 0])), (m0, .inr (9, [.int 0, .ref m1, .ref m2, .ref m3, .int 0, .int 0, .int 0]))]) (hS : va_S (fun q => s.heap.size ≤ q) s.heap H locs) {ls : Array Slot} (hl : lv_has ls 7 [(4, .int 0), (3, .ref o0), (2, .ref m0), (1, .ref x0), (0, .ref b)]) : W p l e room_1 s m #[Value.ref b] below meth c H locs 72 2748 (lw_Z below #[Value.ref b] s) (F0 m 1974 ls []) := by
  obtain ⟨hx, hb, hr, hml, hown, hts, hX, hbl, hlocks⟩ := id C9
  have hA : ∀ q : Nat, s.heap.size ≤ q → (fun q : Nat => s.heap.size ≤ q) q := fun _ h => h
  have hbA : ¬ (fun q : Nat => s.heap.size ≤ q) b := Nat.not_le.mpr hbl
  obtain ⟨A, hAe⟩ : ∃ A : Nat → Prop, A = (fun q : Nat => s.heap.size ≤ q) := ⟨_, rfl⟩
  rw [← hAe] at hG hD hS hA hbA
  obtain ⟨⟨g_AO_Text, g_AO_String, g_AO_Object, g_nm_RX1_20, g_nm_RX0_17, g_nm_RX3_31, g_nm_RX2_44, g_nm_RL_121, g_nf_RL_13, g_nf_RL_47, g_ca_IO, g_ca_IA, g_ca_IS, g_ca_IntObj, g_ca_StrObj, g_de_RT, g_de_EX, g_de_TH, g_nc_IA_IO, g_nc_IS_IO, g_nc_IS_IA⟩, ⟨g_s3, g_s5, g_sa, g_x278, g_x280, g_x282, g_x284, g_x286, g_x180, g_x238, g_x250⟩, ⟨g_o5, g_c5, g_v5, g_t5, g_oa, g_ca, g_va, g_ta, g_zc, g_zd, g_td, g_zf, g_zU, g_zN, g_zh, g_zk, g_tk, g_oi, g_vi⟩⟩ := id hG
  refine lv_aload_n hx hb dL_law_1974 rfl (lv_at hl 3 rfl) ?_
  refine lv_aload_n hx hb dL_law_1975 rfl (lv_at hl 4 rfl) ?_
  refine lv_iload hx hb dL_law_1976 (lv_at hl 0 rfl) ?_
  refine lv_iconst (v := 1) hx hb dL_law_1978 (by decide) ?_
  refine lv_iadd hx hb dL_law_1979 ?_
  refine lv_topi (fun y1 ey1 => ?_)
  obtain rfl : y1 = 1 := ey1.trans (by decide)
  refine va_sld hx hb hX hbl hbA hS (by unfold vp_in; decide) dL_law_1980 ?_
  rw [show xs (Int32.toNatClampNeg 1) = v1 from hx1]
  refine lv_aload_n hx hb dL_law_1981 rfl (lv_at hl 1 rfl) ?_
  have hPc := hP.sub (ws' := [(x0, .inr (7, [.ref x1, .ref x2, .ref x45, .ref x53, .ref x55, .ref x57, .int 0, .int 0, .int 0]))]) [0] rfl
  have hDc := hD.sub (ws' := [(x0, .inr (7, [.ref x1, .ref x2, .ref x45, .ref x53, .ref x55, .ref x57, .int 0, .int 0, .int 0]))]) [0] (by decide) rfl
  have hKc := hK.sub (tys' := []) [] rfl
  have hFc := va_free (wc := [(x0, .inr (7, [.ref x1, .ref x2, .ref x45, .ref x53, .ref x55, .ref x57, .int 0, .int 0, .int 0]))]) hD hS hA [0] rfl
  refine va_calli (vx_runSW (As := [.ref x0, .int v1, .ref o0]) (rest := []) ⟨hx, hb, hml, hown, hts⟩ (kx_L_form_1 l hst dC dI ge5 gea gv5 gva gde gic gi0 x0 o0 x1 x2 x45 x53 x55 x57 H.size v1 v1_l v1_u) (vx_cwSW 3 hts gL_law_L_form rfl rfl rfl (by decide +kernel) ⟨Nat.le_of_ble_eq_true rfl, Nat.le_of_ble_eq_true rfl⟩) ⟨fun a U g mk q => by obtain ⟨q0, q1, qP, qK, qD, qG⟩ := q; exact ⟨q0, q1, qP, va_K.moved (u := U) (U := U.calling g mk a) (Vm.Alike.refl U.vm) qK, qD, gv.fb qG⟩, fun U hU hW => ⟨rfl, by rw [hU], by rw [hU]; exact hPc, va_K.moved hW.alike hKc, hDc.weaken (fun _ _ _ _ => trivial), gv.pass hW hU hS hFc hG⟩⟩ rfl rfl hl.1 rfl (lv_room (Nat.le_of_ble_eq_true rfl)) dL_law_1982 ⟨Nat.le_of_ble_eq_true rfl, Nat.le_of_ble_eq_true rfl⟩) hS (fun q _ h => hFc q h) hFc (fun r9 u t H1 locs ht hvm hw hB hz1 hk1 hS => ?_)
  obtain rfl := hw
  obtain ⟨hP1, hK1, hD1⟩ := hB
  rw [ht] at hP1
  have hK1 := va_K.moved hvm.symm hK1
  obtain ⟨hP, hD⟩ := va_join (wr := [(m0, .inr (9, [.int 0, .ref m1, .ref m2, .ref m3, .int 0, .int 0, .int 0]))]) (w1 := [(x0, .inr (7, [.ref x1, .ref x2, .ref x45, .ref x53, .ref x55, .ref x57, .int 0, .int 0, .int 0]))]) hP hD [0] [1] rfl rfl (by decide) (by decide) hk1 hFc hP1 hD1
  generalize H1 = H at hP hS ⊢
  have hP : va_P (dC, dI) vwCl [(m0, .inr (9, [.int 0, .ref m1, .ref m2, .ref m3, .int 0, .int 0, .int 0])), (x0, .inr (7, [.ref x1, .ref x2, .ref x45, .ref x53, .ref x55, .ref x57, .int 0, .int 0, .int 0]))] H := hP
  have hD : va_D A [(m0, .inr (9, [.int 0, .ref m1, .ref m2, .ref m3, .int 0, .int 0, .int 0])), (x0, .inr (7, [.ref x1, .ref x2, .ref x45, .ref x53, .ref x55, .ref x57, .int 0, .int 0, .int 0]))] := hD
  refine W.widen (k := 73) (n := 2754) (by omega) (by omega) ?_
  refine lv_istore (lv' := [(5, .int 1), (4, .int 0), (3, .ref o0), (2, .ref m0), (1, .ref x0), (0, .ref b)]) hx hb dL_law_1985 hl (by decide) rfl (fun ls hl => ?_)
  refine lv_aload_n hx hb dL_law_1987 rfl (lv_at hl 3 rfl) ?_
  refine lv_aload_n hx hb dL_law_1988 rfl (lv_at hl 5 rfl) ?_
  refine lv_iload hx hb dL_law_1989 (lv_at hl 1 rfl) ?_
  refine lv_iconst (v := 1) hx hb dL_law_1991 (by decide) ?_
  refine lv_iadd hx hb dL_law_1992 ?_
  refine lv_topi (fun y2 ey2 => ?_)
  obtain rfl : y2 = 1 := ey2.trans (by decide)
  refine va_sld hx hb hX hbl hbA hS (by unfold vp_in; decide) dL_law_1993 ?_
  rw [show xs (Int32.toNatClampNeg 1) = v1 from hx1]
  have hPc := hP.sub (ws' := [(m0, .inr (9, [.int 0, .ref m1, .ref m2, .ref m3, .int 0, .int 0, .int 0]))]) [0] rfl
  have hDc := hD.sub (ws' := [(m0, .inr (9, [.int 0, .ref m1, .ref m2, .ref m3, .int 0, .int 0, .int 0]))]) [0] (by decide) rfl
  have hKc := hK.sub (tys' := []) [] rfl
  have hFc := va_free (wc := [(m0, .inr (9, [.int 0, .ref m1, .ref m2, .ref m3, .int 0, .int 0, .int 0]))]) hD hS hA [0] rfl
  refine va_callr (va_runV (As := [.int v1]) (rest := []) ⟨hx, hb, hml, hown, hts⟩ (kx_X5_form_1 l dC dI ge5 gea gv5 gva gde gic gi0 m0 m1 m2 m3 H.size v1 v1_l v1_u) (cwV 1 hts gL_law_X5_form rfl rfl rfl (by decide +kernel) ⟨Nat.le_of_ble_eq_true rfl, Nat.le_of_ble_eq_true rfl⟩) ⟨fun a U g mk q => by obtain ⟨q0, q1, qP, qK, qD, qG⟩ := q; exact ⟨q0, q1, qP, va_K.moved (u := U) (U := U.calling g mk a) (Vm.Alike.refl U.vm) qK, qD, gv.fb qG⟩, va_recv hKc hPc (ci := 9) (q0 := 0) rfl rfl, fun U hU hW => ⟨rfl, by rw [hU], by rw [hU]; exact hPc, va_K.moved hW.alike hKc, hDc.weaken (fun _ _ _ _ => trivial), gv.pass hW hU hS hFc hG⟩⟩ rfl rfl hl.1 rfl (lv_room (Nat.le_of_ble_eq_true rfl)) dL_law_1994 ⟨Nat.le_of_ble_eq_true rfl, Nat.le_of_ble_eq_true rfl⟩) hS (fun q _ h => hFc q h) hFc (fun u ra t H1 locs ht hvm hw hB hz1 hk1 hS => ?_)
  obtain ⟨hra, hP1, hK1, hD1⟩ := hB
  rw [hra]
  rw [ht] at hP1
  have hK1 := va_K.moved hvm.symm hK1
  obtain ⟨hP, hD⟩ := va_join (wr := [(x0, .inr (7, [.ref x1, .ref x2, .ref x45, .ref x53, .ref x55, .ref x57, .int 0, .int 0, .int 0]))]) (w1 := [(m0, .inr (9, [.int 1, .ref m1, .ref m2, .ref m3, .int 0, .int 0, .int 0]))]) hP hD [0] [1] rfl rfl (by decide) (by decide) hk1 hFc hP1 hD1
  generalize H1 = H at hP hS ⊢
  have hP : va_P (dC, dI) vwCl [(x0, .inr (7, [.ref x1, .ref x2, .ref x45, .ref x53, .ref x55, .ref x57, .int 0, .int 0, .int 0])), (m0, .inr (9, [.int 1, .ref m1, .ref m2, .ref m3, .int 0, .int 0, .int 0]))] H := hP
  have hD : va_D A [(x0, .inr (7, [.ref x1, .ref x2, .ref x45, .ref x53, .ref x55, .ref x57, .int 0, .int 0, .int 0])), (m0, .inr (9, [.int 1, .ref m1, .ref m2, .ref m3, .int 0, .int 0, .int 0]))] := hD
  refine lv_astore (lv' := [(6, .ref ge5), (5, .int 1), (4, .int 0), (3, .ref o0), (2, .ref m0), (1, .ref x0), (0, .ref b)]) hx hb dL_law_1997 hl (by decide) rfl (fun ls hl => ?_)
  refine lv_aload_n hx hb dL_law_1999 rfl (lv_at hl 4 rfl) ?_
  have hPc := hP.sub (ws' := [(m0, .inr (9, [.int 1, .ref m1, .ref m2, .ref m3, .int 0, .int 0, .int 0]))]) [1] rfl
  have hDc := hD.sub (ws' := [(m0, .inr (9, [.int 1, .ref m1, .ref m2, .ref m3, .int 0, .int 0, .int 0]))]) [1] (by decide) rfl
  have hKc := hK.sub (tys' := []) [] rfl
  have hFc := va_free (wc := [(m0, .inr (9, [.int 1, .ref m1, .ref m2, .ref m3, .int 0, .int 0, .int 0]))]) hD hS hA [1] rfl
  refine va_calli (va_runV (As := []) (rest := []) ⟨hx, hb, hml, hown, hts⟩ (kx_X5_thrown_0 l dC dI m0 m1 m2 m3 H.size) (cwV 0 hts gL_law_X5_thrown rfl rfl rfl (by decide +kernel) ⟨Nat.le_of_ble_eq_true rfl, Nat.le_of_ble_eq_true rfl⟩) ⟨fun a U g mk q => by obtain ⟨q0, q1, qP, qK, qD⟩ := q; exact ⟨q0, q1, qP, va_K.moved (u := U) (U := U.calling g mk a) (Vm.Alike.refl U.vm) qK, qD⟩, va_recv hKc hPc (ci := 9) (q0 := 0) rfl rfl, fun U hU hW => ⟨rfl, by rw [hU], by rw [hU]; exact hPc, va_K.moved hW.alike hKc, hDc.weaken (fun _ _ _ _ => trivial)⟩⟩ rfl rfl hl.1 rfl (lv_room (Nat.le_of_ble_eq_true rfl)) dL_law_2000 ⟨Nat.le_of_ble_eq_true rfl, Nat.le_of_ble_eq_true rfl⟩) hS (fun q _ h => hFc q h) hFc (fun r9 u t H1 locs ht hvm hw hB hz1 hk1 hS => ?_)
  obtain rfl := hw
  obtain ⟨hP1, hK1, hD1⟩ := hB
  rw [ht] at hP1
  have hK1 := va_K.moved hvm.symm hK1
  obtain ⟨hP, hD⟩ := va_join (wr := [(x0, .inr (7, [.ref x1, .ref x2, .ref x45, .ref x53, .ref x55, .ref x57, .int 0, .int 0, .int 0]))]) (w1 := [(m0, .inr (9, [.int 1, .ref m1, .ref m2, .ref m3, .int 0, .int 0, .int 0]))]) hP hD [1] [0] rfl rfl (by decide) (by decide) hk1 hFc hP1 hD1
  generalize H1 = H at hP hS ⊢
  have hP : va_P (dC, dI) vwCl [(x0, .inr (7, [.ref x1, .ref x2, .ref x45, .ref x53, .ref x55, .ref x57, .int 0, .int 0, .int 0])), (m0, .inr (9, [.int 1, .ref m1, .ref m2, .ref m3, .int 0, .int 0, .int 0]))] H := hP
  have hD : va_D A [(x0, .inr (7, [.ref x1, .ref x2, .ref x45, .ref x53, .ref x55, .ref x57, .int 0, .int 0, .int 0])), (m0, .inr (9, [.int 1, .ref m1, .ref m2, .ref m3, .int 0, .int 0, .int 0]))] := hD
  refine lv_iload hx hb dL_law_2003 (lv_at hl 1 rfl) ?_
  refine lv_icmp_eq (tgt := 2010) hx hb dL_law_2005 (by decide) (fun _ => ?_) (fun c9 => absurd (by decide) c9)
  refine lv_iload hx hb dL_law_2010 (lv_at hl 1 rfl) ?_
  refine lv_if_ne (tgt := 2029) hx hb dL_law_2012 (by decide) (fun _ => ?_) (fun c9 => absurd c9 (by decide))
  refine lv_goto (tgt := 2342) hx hb dL_law_2029 (by decide) ?_
  refine lv_iinc (v := 7) (lv' := [(4, .int 7), (6, .ref ge5), (5, .int 1), (3, .ref o0), (2, .ref m0), (1, .ref x0), (0, .ref b)]) hx hb dL_law_2342 hl (k := 2) rfl (by decide) (by decide) rfl (fun ls hl => ?_)
  refine lv_goto (tgt := 27) hx hb dL_law_2345 (by decide) ?_
  refine lv_iload hx hb dL_law_27 (lv_at hl 0 rfl) ?_
  refine lv_aload_n hx hb dL_law_29 rfl (lv_at hl 6 rfl) ?_
  refine va_slen hx hb hX hbl hbA hS dL_law_30 ?_
  refine lv_topi (fun y3 ey3 => ?_)
  obtain rfl : y3 = 7 := ey3.trans (by decide)
  refine lv_bipush (v := 7) hx hb dL_law_31 (by decide) ?_
  refine lv_isub hx hb dL_law_33 ?_
  refine lv_topi (fun y4 ey4 => ?_)
  obtain rfl : y4 = 0 := ey4.trans (by decide)
  refine lv_icmp_gt (tgt := 2348) hx hb dL_law_34 (by decide) (fun _ => ?_) (fun c9 => absurd (by decide) c9)
  refine lv_iconst (v := 1) hx hb dL_law_2348 (by decide) ?_
  refine va_forget (fun q hq => (by have h := hS.2.2 q hq; rw [hAe] at h; exact h)) ?_
  refine W.widen (k := 600002) (n := 7302232) (Nat.le_of_ble_eq_true rfl) (Nat.le_of_ble_eq_true rfl) ?_
  exact lw_ret hx hb hr hlocks dL_law_2349
set_option maxHeartbeats 4000000 in
set_option maxRecDepth 100000 in
theorem lc_form_2 {p : Program} {e : Env} {s : State} {m : MethodId} {below : List Frame} {meth : Method} {c : Code} {l : Launch} (hst : l.stackTraces = false) {b : Nat} {xs : Nat → Int32} (C9 : lx_At p s m meth c b xs) {dC : Nat → ClassId} {dI : Nat → Nat → Nat} {ge5 gea gv5 gva gde gic gi0 : Nat} {x0 m0 x1 x2 x45 x53 x55 x57 m1 m2 m3 o0 : Nat} (hG : gv ge5 gea gv5 gva gde gic gi0 (fun q => s.heap.size ≤ q) s s.heap) {v1 : Int32} (v1_l : (4 : Int) ≤ v1.toInt) (v1_u : v1.toInt ≤ (2147483647 : Int)) (hx1 : xs 1 = v1) {H : Heap} {locs : List Loc} (hK : va_K (dC, dI) vwCl [] s) (hP : va_P (dC, dI) vwCl [(x0, .inr (7, [.ref x1, .ref x2, .ref x45, .ref x53, .ref x55, .ref x57, .int 0, .int 0, .int 0])), (m0, .inr (9, [.int 0, .ref m1, .ref m2, .ref m3, .int 0, .int 0, .int 0]))] H) (hD : va_D (fun q => s.heap.size ≤ q) [(x0, .inr (7, [.ref x1, .ref x2, .ref x45, .ref x53, .ref x55, .ref x57, .int 0, .int 0, .int 0])), (m0, .inr (9, [.int 0, .ref m1, .ref m2, .ref m3, .int 0, .int 0, .int 0]))]) (hS : va_S (fun q => s.heap.size ≤ q) s.heap H locs) {ls : Array Slot} (hl : lv_has ls 7 [(4, .int 0), (3, .ref o0), (2, .ref m0), (1, .ref x0), (0, .ref b)]) : W p l e room_1 s m #[Value.ref b] below meth c H locs 72 2748 (lw_Z below #[Value.ref b] s) (F0 m 1974 ls []) := by
  obtain ⟨hx, hb, hr, hml, hown, hts, hX, hbl, hlocks⟩ := id C9
  have hA : ∀ q : Nat, s.heap.size ≤ q → (fun q : Nat => s.heap.size ≤ q) q := fun _ h => h
  have hbA : ¬ (fun q : Nat => s.heap.size ≤ q) b := Nat.not_le.mpr hbl
  obtain ⟨A, hAe⟩ : ∃ A : Nat → Prop, A = (fun q : Nat => s.heap.size ≤ q) := ⟨_, rfl⟩
  rw [← hAe] at hG hD hS hA hbA
  obtain ⟨⟨g_AO_Text, g_AO_String, g_AO_Object, g_nm_RX1_20, g_nm_RX0_17, g_nm_RX3_31, g_nm_RX2_44, g_nm_RL_121, g_nf_RL_13, g_nf_RL_47, g_ca_IO, g_ca_IA, g_ca_IS, g_ca_IntObj, g_ca_StrObj, g_de_RT, g_de_EX, g_de_TH, g_nc_IA_IO, g_nc_IS_IO, g_nc_IS_IA⟩, ⟨g_s3, g_s5, g_sa, g_x278, g_x280, g_x282, g_x284, g_x286, g_x180, g_x238, g_x250⟩, ⟨g_o5, g_c5, g_v5, g_t5, g_oa, g_ca, g_va, g_ta, g_zc, g_zd, g_td, g_zf, g_zU, g_zN, g_zh, g_zk, g_tk, g_oi, g_vi⟩⟩ := id hG
  refine lv_aload_n hx hb dL_law_1974 rfl (lv_at hl 3 rfl) ?_
  refine lv_aload_n hx hb dL_law_1975 rfl (lv_at hl 4 rfl) ?_
  refine lv_iload hx hb dL_law_1976 (lv_at hl 0 rfl) ?_
  refine lv_iconst (v := 1) hx hb dL_law_1978 (by decide) ?_
  refine lv_iadd hx hb dL_law_1979 ?_
  refine lv_topi (fun y1 ey1 => ?_)
  obtain rfl : y1 = 1 := ey1.trans (by decide)
  refine va_sld hx hb hX hbl hbA hS (by unfold vp_in; decide) dL_law_1980 ?_
  rw [show xs (Int32.toNatClampNeg 1) = v1 from hx1]
  refine lv_aload_n hx hb dL_law_1981 rfl (lv_at hl 1 rfl) ?_
  have hPc := hP.sub (ws' := [(x0, .inr (7, [.ref x1, .ref x2, .ref x45, .ref x53, .ref x55, .ref x57, .int 0, .int 0, .int 0]))]) [0] rfl
  have hDc := hD.sub (ws' := [(x0, .inr (7, [.ref x1, .ref x2, .ref x45, .ref x53, .ref x55, .ref x57, .int 0, .int 0, .int 0]))]) [0] (by decide) rfl
  have hKc := hK.sub (tys' := []) [] rfl
  have hFc := va_free (wc := [(x0, .inr (7, [.ref x1, .ref x2, .ref x45, .ref x53, .ref x55, .ref x57, .int 0, .int 0, .int 0]))]) hD hS hA [0] rfl
  refine va_calli (vx_runSW (As := [.ref x0, .int v1, .ref o0]) (rest := []) ⟨hx, hb, hml, hown, hts⟩ (kx_L_form_2 l hst dC dI ge5 gea gv5 gva gde gic gi0 x0 o0 x1 x2 x45 x53 x55 x57 H.size v1 v1_l v1_u) (vx_cwSW 3 hts gL_law_L_form rfl rfl rfl (by decide +kernel) ⟨Nat.le_of_ble_eq_true rfl, Nat.le_of_ble_eq_true rfl⟩) ⟨fun a U g mk q => by obtain ⟨q0, q1, qP, qK, qD, qG⟩ := q; exact ⟨q0, q1, qP, va_K.moved (u := U) (U := U.calling g mk a) (Vm.Alike.refl U.vm) qK, qD, gv.fb qG⟩, fun U hU hW => ⟨rfl, by rw [hU], by rw [hU]; exact hPc, va_K.moved hW.alike hKc, hDc.weaken (fun _ _ _ _ => trivial), gv.pass hW hU hS hFc hG⟩⟩ rfl rfl hl.1 rfl (lv_room (Nat.le_of_ble_eq_true rfl)) dL_law_1982 ⟨Nat.le_of_ble_eq_true rfl, Nat.le_of_ble_eq_true rfl⟩) hS (fun q _ h => hFc q h) hFc (fun r9 u t H1 locs ht hvm hw hB hz1 hk1 hS => ?_)
  obtain rfl := hw
  obtain ⟨hP1, hK1, hD1⟩ := hB
  rw [ht] at hP1
  have hK1 := va_K.moved hvm.symm hK1
  obtain ⟨hP, hD⟩ := va_join (wr := [(m0, .inr (9, [.int 0, .ref m1, .ref m2, .ref m3, .int 0, .int 0, .int 0]))]) (w1 := [(x0, .inr (7, [.ref x1, .ref x2, .ref x45, .ref x53, .ref x55, .ref x57, .int 0, .int 0, .int 0]))]) hP hD [0] [1] rfl rfl (by decide) (by decide) hk1 hFc hP1 hD1
  generalize H1 = H at hP hS ⊢
  have hP : va_P (dC, dI) vwCl [(m0, .inr (9, [.int 0, .ref m1, .ref m2, .ref m3, .int 0, .int 0, .int 0])), (x0, .inr (7, [.ref x1, .ref x2, .ref x45, .ref x53, .ref x55, .ref x57, .int 0, .int 0, .int 0]))] H := hP
  have hD : va_D A [(m0, .inr (9, [.int 0, .ref m1, .ref m2, .ref m3, .int 0, .int 0, .int 0])), (x0, .inr (7, [.ref x1, .ref x2, .ref x45, .ref x53, .ref x55, .ref x57, .int 0, .int 0, .int 0]))] := hD
  refine W.widen (k := 73) (n := 2754) (by omega) (by omega) ?_
  refine lv_istore (lv' := [(5, .int 1), (4, .int 0), (3, .ref o0), (2, .ref m0), (1, .ref x0), (0, .ref b)]) hx hb dL_law_1985 hl (by decide) rfl (fun ls hl => ?_)
  refine lv_aload_n hx hb dL_law_1987 rfl (lv_at hl 3 rfl) ?_
  refine lv_aload_n hx hb dL_law_1988 rfl (lv_at hl 5 rfl) ?_
  refine lv_iload hx hb dL_law_1989 (lv_at hl 1 rfl) ?_
  refine lv_iconst (v := 1) hx hb dL_law_1991 (by decide) ?_
  refine lv_iadd hx hb dL_law_1992 ?_
  refine lv_topi (fun y2 ey2 => ?_)
  obtain rfl : y2 = 1 := ey2.trans (by decide)
  refine va_sld hx hb hX hbl hbA hS (by unfold vp_in; decide) dL_law_1993 ?_
  rw [show xs (Int32.toNatClampNeg 1) = v1 from hx1]
  have hPc := hP.sub (ws' := [(m0, .inr (9, [.int 0, .ref m1, .ref m2, .ref m3, .int 0, .int 0, .int 0]))]) [0] rfl
  have hDc := hD.sub (ws' := [(m0, .inr (9, [.int 0, .ref m1, .ref m2, .ref m3, .int 0, .int 0, .int 0]))]) [0] (by decide) rfl
  have hKc := hK.sub (tys' := []) [] rfl
  have hFc := va_free (wc := [(m0, .inr (9, [.int 0, .ref m1, .ref m2, .ref m3, .int 0, .int 0, .int 0]))]) hD hS hA [0] rfl
  refine va_callr (va_runV (As := [.int v1]) (rest := []) ⟨hx, hb, hml, hown, hts⟩ (kx_X5_form_2 l dC dI ge5 gea gv5 gva gde gic gi0 m0 m1 m2 m3 H.size v1 v1_l v1_u) (cwV 1 hts gL_law_X5_form rfl rfl rfl (by decide +kernel) ⟨Nat.le_of_ble_eq_true rfl, Nat.le_of_ble_eq_true rfl⟩) ⟨fun a U g mk q => by obtain ⟨q0, q1, qP, qK, qD, qG⟩ := q; exact ⟨q0, q1, qP, va_K.moved (u := U) (U := U.calling g mk a) (Vm.Alike.refl U.vm) qK, qD, gv.fb qG⟩, va_recv hKc hPc (ci := 9) (q0 := 0) rfl rfl, fun U hU hW => ⟨rfl, by rw [hU], by rw [hU]; exact hPc, va_K.moved hW.alike hKc, hDc.weaken (fun _ _ _ _ => trivial), gv.pass hW hU hS hFc hG⟩⟩ rfl rfl hl.1 rfl (lv_room (Nat.le_of_ble_eq_true rfl)) dL_law_1994 ⟨Nat.le_of_ble_eq_true rfl, Nat.le_of_ble_eq_true rfl⟩) hS (fun q _ h => hFc q h) hFc (fun u ra t H1 locs ht hvm hw hB hz1 hk1 hS => ?_)
  obtain ⟨hra, hP1, hK1, hD1⟩ := hB
  rw [hra]
  rw [ht] at hP1
  have hK1 := va_K.moved hvm.symm hK1
  obtain ⟨hP, hD⟩ := va_join (wr := [(x0, .inr (7, [.ref x1, .ref x2, .ref x45, .ref x53, .ref x55, .ref x57, .int 0, .int 0, .int 0]))]) (w1 := [(m0, .inr (9, [.int 1, .ref m1, .ref m2, .ref m3, .int 0, .int 0, .int 0]))]) hP hD [0] [1] rfl rfl (by decide) (by decide) hk1 hFc hP1 hD1
  generalize H1 = H at hP hS ⊢
  have hP : va_P (dC, dI) vwCl [(x0, .inr (7, [.ref x1, .ref x2, .ref x45, .ref x53, .ref x55, .ref x57, .int 0, .int 0, .int 0])), (m0, .inr (9, [.int 1, .ref m1, .ref m2, .ref m3, .int 0, .int 0, .int 0]))] H := hP
  have hD : va_D A [(x0, .inr (7, [.ref x1, .ref x2, .ref x45, .ref x53, .ref x55, .ref x57, .int 0, .int 0, .int 0])), (m0, .inr (9, [.int 1, .ref m1, .ref m2, .ref m3, .int 0, .int 0, .int 0]))] := hD
  refine lv_astore (lv' := [(6, .ref ge5), (5, .int 1), (4, .int 0), (3, .ref o0), (2, .ref m0), (1, .ref x0), (0, .ref b)]) hx hb dL_law_1997 hl (by decide) rfl (fun ls hl => ?_)
  refine lv_aload_n hx hb dL_law_1999 rfl (lv_at hl 4 rfl) ?_
  have hPc := hP.sub (ws' := [(m0, .inr (9, [.int 1, .ref m1, .ref m2, .ref m3, .int 0, .int 0, .int 0]))]) [1] rfl
  have hDc := hD.sub (ws' := [(m0, .inr (9, [.int 1, .ref m1, .ref m2, .ref m3, .int 0, .int 0, .int 0]))]) [1] (by decide) rfl
  have hKc := hK.sub (tys' := []) [] rfl
  have hFc := va_free (wc := [(m0, .inr (9, [.int 1, .ref m1, .ref m2, .ref m3, .int 0, .int 0, .int 0]))]) hD hS hA [1] rfl
  refine va_calli (va_runV (As := []) (rest := []) ⟨hx, hb, hml, hown, hts⟩ (kx_X5_thrown_0 l dC dI m0 m1 m2 m3 H.size) (cwV 0 hts gL_law_X5_thrown rfl rfl rfl (by decide +kernel) ⟨Nat.le_of_ble_eq_true rfl, Nat.le_of_ble_eq_true rfl⟩) ⟨fun a U g mk q => by obtain ⟨q0, q1, qP, qK, qD⟩ := q; exact ⟨q0, q1, qP, va_K.moved (u := U) (U := U.calling g mk a) (Vm.Alike.refl U.vm) qK, qD⟩, va_recv hKc hPc (ci := 9) (q0 := 0) rfl rfl, fun U hU hW => ⟨rfl, by rw [hU], by rw [hU]; exact hPc, va_K.moved hW.alike hKc, hDc.weaken (fun _ _ _ _ => trivial)⟩⟩ rfl rfl hl.1 rfl (lv_room (Nat.le_of_ble_eq_true rfl)) dL_law_2000 ⟨Nat.le_of_ble_eq_true rfl, Nat.le_of_ble_eq_true rfl⟩) hS (fun q _ h => hFc q h) hFc (fun r9 u t H1 locs ht hvm hw hB hz1 hk1 hS => ?_)
  obtain rfl := hw
  obtain ⟨hP1, hK1, hD1⟩ := hB
  rw [ht] at hP1
  have hK1 := va_K.moved hvm.symm hK1
  obtain ⟨hP, hD⟩ := va_join (wr := [(x0, .inr (7, [.ref x1, .ref x2, .ref x45, .ref x53, .ref x55, .ref x57, .int 0, .int 0, .int 0]))]) (w1 := [(m0, .inr (9, [.int 1, .ref m1, .ref m2, .ref m3, .int 0, .int 0, .int 0]))]) hP hD [1] [0] rfl rfl (by decide) (by decide) hk1 hFc hP1 hD1
  generalize H1 = H at hP hS ⊢
  have hP : va_P (dC, dI) vwCl [(x0, .inr (7, [.ref x1, .ref x2, .ref x45, .ref x53, .ref x55, .ref x57, .int 0, .int 0, .int 0])), (m0, .inr (9, [.int 1, .ref m1, .ref m2, .ref m3, .int 0, .int 0, .int 0]))] H := hP
  have hD : va_D A [(x0, .inr (7, [.ref x1, .ref x2, .ref x45, .ref x53, .ref x55, .ref x57, .int 0, .int 0, .int 0])), (m0, .inr (9, [.int 1, .ref m1, .ref m2, .ref m3, .int 0, .int 0, .int 0]))] := hD
  refine lv_iload hx hb dL_law_2003 (lv_at hl 1 rfl) ?_
  refine lv_icmp_eq (tgt := 2010) hx hb dL_law_2005 (by decide) (fun _ => ?_) (fun c9 => absurd (by decide) c9)
  refine lv_iload hx hb dL_law_2010 (lv_at hl 1 rfl) ?_
  refine lv_if_ne (tgt := 2029) hx hb dL_law_2012 (by decide) (fun _ => ?_) (fun c9 => absurd c9 (by decide))
  refine lv_goto (tgt := 2342) hx hb dL_law_2029 (by decide) ?_
  refine lv_iinc (v := 7) (lv' := [(4, .int 7), (6, .ref ge5), (5, .int 1), (3, .ref o0), (2, .ref m0), (1, .ref x0), (0, .ref b)]) hx hb dL_law_2342 hl (k := 2) rfl (by decide) (by decide) rfl (fun ls hl => ?_)
  refine lv_goto (tgt := 27) hx hb dL_law_2345 (by decide) ?_
  refine lv_iload hx hb dL_law_27 (lv_at hl 0 rfl) ?_
  refine lv_aload_n hx hb dL_law_29 rfl (lv_at hl 6 rfl) ?_
  refine va_slen hx hb hX hbl hbA hS dL_law_30 ?_
  refine lv_topi (fun y3 ey3 => ?_)
  obtain rfl : y3 = 7 := ey3.trans (by decide)
  refine lv_bipush (v := 7) hx hb dL_law_31 (by decide) ?_
  refine lv_isub hx hb dL_law_33 ?_
  refine lv_topi (fun y4 ey4 => ?_)
  obtain rfl : y4 = 0 := ey4.trans (by decide)
  refine lv_icmp_gt (tgt := 2348) hx hb dL_law_34 (by decide) (fun _ => ?_) (fun c9 => absurd (by decide) c9)
  refine lv_iconst (v := 1) hx hb dL_law_2348 (by decide) ?_
  refine va_forget (fun q hq => (by have h := hS.2.2 q hq; rw [hAe] at h; exact h)) ?_
  refine W.widen (k := 600002) (n := 7302232) (Nat.le_of_ble_eq_true rfl) (Nat.le_of_ble_eq_true rfl) ?_
  exact lw_ret hx hb hr hlocks dL_law_2349
set_option maxHeartbeats 4000000 in
set_option maxRecDepth 100000 in
theorem lc_told_0 {p : Program} {e : Env} {s : State} {m : MethodId} {below : List Frame} {meth : Method} {c : Code} {l : Launch} (hst : l.stackTraces = false) {b : Nat} {xs : Nat → Int32} (C9 : lx_At p s m meth c b xs) {dC : Nat → ClassId} {dI : Nat → Nat → Nat} {ge5 gea gv5 gva gde gic gi0 : Nat} {x0 x1 x2 x53 x54 x55 x56 x59 x60 x61 x62 x63 x64 x65 x66 m0 m1 m2 o0 x45 x57 x3 x4 x5 x7 x9 x11 m3 : Nat} {xc0 xc27 xc28 xc30 xc31 xc32 xc33 mc0 : ClassId} (hG : gv ge5 gea gv5 gva gde gic gi0 (fun q => s.heap.size ≤ q) s s.heap) {v1 : Int32} (v1_l : (0 : Int) ≤ v1.toInt) (v1_u : v1.toInt ≤ (3 : Int)) {v2 : Int32} (v2_l : (0 : Int) ≤ v2.toInt) (v2_u : v2.toInt ≤ (3 : Int)) (hx1 : xs 1 = v1) (hx2 : xs 2 = v2) {H : Heap} {locs : List Loc} (hK : va_K (dC, dI) vwCl [(xc0, .object "Rewriterope$Text"), (xc27, .byte), (xc28, .byte), (xc30, .byte), (xc31, .byte), (xc32, .byte), (xc33, .byte), (mc0, .object "java/lang/String")] s) (hP : va_P (dC, dI) vwCl [(x0, .inr (7, [.ref x1, .ref x2, .ref x45, .ref x53, .ref x55, .ref x57, .int 0, .int 0, .int 0])), (x1, .inl (xc0, 4, .inr (.inr (.inr (.inr (va_up (va_up (va_up (va_up (fun _ => none) 0 (some x59)) 1 (some x61)) 2 (some x63)) 3 (some x65))))))), (x2, .inr (5, [.ref x3, .ref x4, .ref x5, .ref x7, .ref x9, .ref x11, .int 0, .int 0])), (x53, .inr (6, [.ref x54, .int 0])), (x54, .inl (xc27, 64, .inl (fun _ => 0))), (x55, .inr (6, [.ref x56, .int 0])), (x56, .inl (xc28, 64, .inl (fun _ => 0))), (x59, .inr (6, [.ref x60, .int 0])), (x60, .inl (xc30, 64, .inl (fun _ => 0))), (x61, .inr (6, [.ref x62, .int 0])), (x62, .inl (xc31, 64, .inl (fun _ => 0))), (x63, .inr (6, [.ref x64, .int 0])), (x64, .inl (xc32, 64, .inl (fun _ => 0))), (x65, .inr (6, [.ref x66, .int 0])), (x66, .inl (xc33, 64, .inl (fun _ => 0))), (m0, .inr (9, [.int 0, .ref m1, .ref m2, .ref m3, .int 0, .int 0, .int 0])), (m1, .inl (mc0, 4, .inr (.inr (.inr (.inr (va_up (va_up (va_up (va_up (fun _ => none) 0 (some ge5)) 1 (some ge5)) 2 (some ge5)) 3 (some ge5))))))), (m2, .inr (3, [.int 0, .ref gde, .int 0])), (o0, .inr (8, [.long 0, .null]))] H) (hD : va_D (fun q => s.heap.size ≤ q) [(x0, .inr (7, [.ref x1, .ref x2, .ref x45, .ref x53, .ref x55, .ref x57, .int 0, .int 0, .int 0])), (x1, .inl (xc0, 4, .inr (.inr (.inr (.inr (va_up (va_up (va_up (va_up (fun _ => none) 0 (some x59)) 1 (some x61)) 2 (some x63)) 3 (some x65))))))), (x2, .inr (5, [.ref x3, .ref x4, .ref x5, .ref x7, .ref x9, .ref x11, .int 0, .int 0])), (x53, .inr (6, [.ref x54, .int 0])), (x54, .inl (xc27, 64, .inl (fun _ => 0))), (x55, .inr (6, [.ref x56, .int 0])), (x56, .inl (xc28, 64, .inl (fun _ => 0))), (x59, .inr (6, [.ref x60, .int 0])), (x60, .inl (xc30, 64, .inl (fun _ => 0))), (x61, .inr (6, [.ref x62, .int 0])), (x62, .inl (xc31, 64, .inl (fun _ => 0))), (x63, .inr (6, [.ref x64, .int 0])), (x64, .inl (xc32, 64, .inl (fun _ => 0))), (x65, .inr (6, [.ref x66, .int 0])), (x66, .inl (xc33, 64, .inl (fun _ => 0))), (m0, .inr (9, [.int 0, .ref m1, .ref m2, .ref m3, .int 0, .int 0, .int 0])), (m1, .inl (mc0, 4, .inr (.inr (.inr (.inr (va_up (va_up (va_up (va_up (fun _ => none) 0 (some ge5)) 1 (some ge5)) 2 (some ge5)) 3 (some ge5))))))), (m2, .inr (3, [.int 0, .ref gde, .int 0])), (o0, .inr (8, [.long 0, .null]))]) (hS : va_S (fun q => s.heap.size ≤ q) s.heap H locs) {ls : Array Slot} (hl : lv_has ls 7 [(4, .int 0), (3, .ref o0), (2, .ref m0), (1, .ref x0), (0, .ref b)]) : W p l e room_1 s m #[Value.ref b] below meth c H locs 72 2748 (lw_Z below #[Value.ref b] s) (F0 m 2032 ls []) := by
  obtain ⟨hx, hb, hr, hml, hown, hts, hX, hbl, hlocks⟩ := id C9
  have hA : ∀ q : Nat, s.heap.size ≤ q → (fun q : Nat => s.heap.size ≤ q) q := fun _ h => h
  have hbA : ¬ (fun q : Nat => s.heap.size ≤ q) b := Nat.not_le.mpr hbl
  obtain ⟨A, hAe⟩ : ∃ A : Nat → Prop, A = (fun q : Nat => s.heap.size ≤ q) := ⟨_, rfl⟩
  rw [← hAe] at hG hD hS hA hbA
  obtain ⟨⟨g_AO_Text, g_AO_String, g_AO_Object, g_nm_RX1_20, g_nm_RX0_17, g_nm_RX3_31, g_nm_RX2_44, g_nm_RL_121, g_nf_RL_13, g_nf_RL_47, g_ca_IO, g_ca_IA, g_ca_IS, g_ca_IntObj, g_ca_StrObj, g_de_RT, g_de_EX, g_de_TH, g_nc_IA_IO, g_nc_IS_IO, g_nc_IS_IA⟩, ⟨g_s3, g_s5, g_sa, g_x278, g_x280, g_x282, g_x284, g_x286, g_x180, g_x238, g_x250⟩, ⟨g_o5, g_c5, g_v5, g_t5, g_oa, g_ca, g_va, g_ta, g_zc, g_zd, g_td, g_zf, g_zU, g_zN, g_zh, g_zk, g_tk, g_oi, g_vi⟩⟩ := id hG
  refine lv_aload_n hx hb dL_law_2032 rfl (lv_at hl 3 rfl) ?_
  refine lv_aload_n hx hb dL_law_2033 rfl (lv_at hl 4 rfl) ?_
  refine lv_iload hx hb dL_law_2034 (lv_at hl 0 rfl) ?_
  refine lv_iconst (v := 1) hx hb dL_law_2036 (by decide) ?_
  refine lv_iadd hx hb dL_law_2037 ?_
  refine lv_topi (fun y1 ey1 => ?_)
  obtain rfl : y1 = 1 := ey1.trans (by decide)
  refine va_sld hx hb hX hbl hbA hS (by unfold vp_in; decide) dL_law_2038 ?_
  rw [show xs (Int32.toNatClampNeg 1) = v1 from hx1]
  refine lv_aload_n hx hb dL_law_2039 rfl (lv_at hl 4 rfl) ?_
  refine lv_iload hx hb dL_law_2040 (lv_at hl 0 rfl) ?_
  refine lv_iconst (v := 2) hx hb dL_law_2042 (by decide) ?_
  refine lv_iadd hx hb dL_law_2043 ?_
  refine lv_topi (fun y2 ey2 => ?_)
  obtain rfl : y2 = 2 := ey2.trans (by decide)
  refine va_sld hx hb hX hbl hbA hS (by unfold vp_in; decide) dL_law_2044 ?_
  rw [show xs (Int32.toNatClampNeg 2) = v2 from hx2]
  refine lv_aload_n hx hb dL_law_2045 rfl (lv_at hl 1 rfl) ?_
  have hPc := hP.sub (ws' := [(x0, .inr (7, [.ref x1, .ref x2, .ref x45, .ref x53, .ref x55, .ref x57, .int 0, .int 0, .int 0])), (x1, .inl (xc0, 4, .inr (.inr (.inr (.inr (va_up (va_up (va_up (va_up (fun _ => none) 0 (some x59)) 1 (some x61)) 2 (some x63)) 3 (some x65))))))), (x2, .inr (5, [.ref x3, .ref x4, .ref x5, .ref x7, .ref x9, .ref x11, .int 0, .int 0])), (x53, .inr (6, [.ref x54, .int 0])), (x54, .inl (xc27, 64, .inl (fun _ => 0))), (x55, .inr (6, [.ref x56, .int 0])), (x56, .inl (xc28, 64, .inl (fun _ => 0))), (x59, .inr (6, [.ref x60, .int 0])), (x60, .inl (xc30, 64, .inl (fun _ => 0))), (x61, .inr (6, [.ref x62, .int 0])), (x62, .inl (xc31, 64, .inl (fun _ => 0))), (x63, .inr (6, [.ref x64, .int 0])), (x64, .inl (xc32, 64, .inl (fun _ => 0))), (x65, .inr (6, [.ref x66, .int 0])), (x66, .inl (xc33, 64, .inl (fun _ => 0))), (o0, .inr (8, [.long 0, .null]))]) [0, 1, 2, 3, 4, 5, 6, 7, 8, 9, 10, 11, 12, 13, 14, 18] rfl
  have hDc := hD.sub (ws' := [(x0, .inr (7, [.ref x1, .ref x2, .ref x45, .ref x53, .ref x55, .ref x57, .int 0, .int 0, .int 0])), (x1, .inl (xc0, 4, .inr (.inr (.inr (.inr (va_up (va_up (va_up (va_up (fun _ => none) 0 (some x59)) 1 (some x61)) 2 (some x63)) 3 (some x65))))))), (x2, .inr (5, [.ref x3, .ref x4, .ref x5, .ref x7, .ref x9, .ref x11, .int 0, .int 0])), (x53, .inr (6, [.ref x54, .int 0])), (x54, .inl (xc27, 64, .inl (fun _ => 0))), (x55, .inr (6, [.ref x56, .int 0])), (x56, .inl (xc28, 64, .inl (fun _ => 0))), (x59, .inr (6, [.ref x60, .int 0])), (x60, .inl (xc30, 64, .inl (fun _ => 0))), (x61, .inr (6, [.ref x62, .int 0])), (x62, .inl (xc31, 64, .inl (fun _ => 0))), (x63, .inr (6, [.ref x64, .int 0])), (x64, .inl (xc32, 64, .inl (fun _ => 0))), (x65, .inr (6, [.ref x66, .int 0])), (x66, .inl (xc33, 64, .inl (fun _ => 0))), (o0, .inr (8, [.long 0, .null]))]) [0, 1, 2, 3, 4, 5, 6, 7, 8, 9, 10, 11, 12, 13, 14, 18] (by decide) rfl
  have hKc := hK.sub (tys' := [(xc0, .object "Rewriterope$Text"), (xc27, .byte), (xc28, .byte), (xc30, .byte), (xc31, .byte), (xc32, .byte), (xc33, .byte)]) [0, 1, 2, 3, 4, 5, 6] rfl
  have hFc := va_free (wc := [(x0, .inr (7, [.ref x1, .ref x2, .ref x45, .ref x53, .ref x55, .ref x57, .int 0, .int 0, .int 0])), (x1, .inl (xc0, 4, .inr (.inr (.inr (.inr (va_up (va_up (va_up (va_up (fun _ => none) 0 (some x59)) 1 (some x61)) 2 (some x63)) 3 (some x65))))))), (x2, .inr (5, [.ref x3, .ref x4, .ref x5, .ref x7, .ref x9, .ref x11, .int 0, .int 0])), (x53, .inr (6, [.ref x54, .int 0])), (x54, .inl (xc27, 64, .inl (fun _ => 0))), (x55, .inr (6, [.ref x56, .int 0])), (x56, .inl (xc28, 64, .inl (fun _ => 0))), (x59, .inr (6, [.ref x60, .int 0])), (x60, .inl (xc30, 64, .inl (fun _ => 0))), (x61, .inr (6, [.ref x62, .int 0])), (x62, .inl (xc31, 64, .inl (fun _ => 0))), (x63, .inr (6, [.ref x64, .int 0])), (x64, .inl (xc32, 64, .inl (fun _ => 0))), (x65, .inr (6, [.ref x66, .int 0])), (x66, .inl (xc33, 64, .inl (fun _ => 0))), (o0, .inr (8, [.long 0, .null]))]) hD hS hA [0, 1, 2, 3, 4, 5, 6, 7, 8, 9, 10, 11, 12, 13, 14, 18] rfl
  refine va_calli (vx_runSW (As := [.ref x0, .int v1, .int v2, .ref o0]) (rest := []) ⟨hx, hb, hml, hown, hts⟩ (kx_L_told_0 l dC dI ge5 gea gv5 gva gde gic gi0 x0 x1 x2 x53 x54 x55 x56 x59 x60 x61 x62 x63 x64 x65 x66 o0 x45 x57 x3 x4 x5 x7 x9 x11 xc0 xc27 xc28 xc30 xc31 xc32 xc33 H.size v1 v1_l v1_u v2 v2_l v2_u) (vx_cwSW 4 hts gL_law_L_told rfl rfl rfl (by decide +kernel) ⟨Nat.le_of_ble_eq_true rfl, Nat.le_of_ble_eq_true rfl⟩) ⟨fun a U g mk q => by obtain ⟨q0, q1, qP, qK, qD, qG⟩ := q; exact ⟨q0, q1, qP, va_K.moved (u := U) (U := U.calling g mk a) (Vm.Alike.refl U.vm) qK, qD, gv.fb qG⟩, fun U hU hW => ⟨rfl, by rw [hU], by rw [hU]; exact hPc, va_K.moved hW.alike hKc, hDc.weaken (fun _ _ _ _ => trivial), gv.pass hW hU hS hFc hG⟩⟩ rfl rfl hl.1 rfl (lv_room (Nat.le_of_ble_eq_true rfl)) dL_law_2046 ⟨Nat.le_of_ble_eq_true rfl, Nat.le_of_ble_eq_true rfl⟩) hS (fun q _ h => hFc q h) hFc (fun r9 u t H1 locs ht hvm hw hB hz1 hk1 hS => ?_)
  obtain rfl := hw
  obtain ⟨hP1, hK1, hD1⟩ := hB
  rw [ht] at hP1
  have hK1 := va_K.moved hvm.symm hK1
  obtain ⟨hP, hD⟩ := va_join (wr := [(m0, .inr (9, [.int 0, .ref m1, .ref m2, .ref m3, .int 0, .int 0, .int 0])), (m1, .inl (mc0, 4, .inr (.inr (.inr (.inr (va_up (va_up (va_up (va_up (fun _ => none) 0 (some ge5)) 1 (some ge5)) 2 (some ge5)) 3 (some ge5))))))), (m2, .inr (3, [.int 0, .ref gde, .int 0]))]) (w1 := [(x0, .inr (7, [.ref x1, .ref x2, .ref x45, .ref x53, .ref x55, .ref x57, .int 0, .int 0, .int 0])), (x1, .inl (xc0, 4, .inr (.inr (.inr (.inr (va_up (va_up (va_up (va_up (fun _ => none) 0 (some x59)) 1 (some x61)) 2 (some x63)) 3 (some x65))))))), (x2, .inr (5, [.ref x3, .ref x4, .ref x5, .ref x7, .ref x9, .ref x11, .int 0, .int 0])), (x53, .inr (6, [.ref x54, .int 0])), (x54, .inl (xc27, 64, .inl (fun _ => 0))), (x55, .inr (6, [.ref x56, .int 0])), (x56, .inl (xc28, 64, .inl (fun _ => 0))), (x59, .inr (6, [.ref x60, .int 0])), (x60, .inl (xc30, 64, .inl (fun _ => 0))), (x61, .inr (6, [.ref x62, .int 0])), (x62, .inl (xc31, 64, .inl (fun _ => 0))), (x63, .inr (6, [.ref x64, .int 0])), (x64, .inl (xc32, 64, .inl (fun _ => 0))), (x65, .inr (6, [.ref x66, .int 0])), (x66, .inl (xc33, 64, .inl (fun _ => 0))), (o0, .inr (8, [.long 1, .null]))]) hP hD [0, 1, 2, 3, 4, 5, 6, 7, 8, 9, 10, 11, 12, 13, 14, 18] [15, 16, 17] rfl rfl (by decide) (by decide) hk1 hFc hP1 hD1
  generalize H1 = H at hP hS ⊢
  have hP : va_P (dC, dI) vwCl [(m0, .inr (9, [.int 0, .ref m1, .ref m2, .ref m3, .int 0, .int 0, .int 0])), (m1, .inl (mc0, 4, .inr (.inr (.inr (.inr (va_up (va_up (va_up (va_up (fun _ => none) 0 (some ge5)) 1 (some ge5)) 2 (some ge5)) 3 (some ge5))))))), (m2, .inr (3, [.int 0, .ref gde, .int 0])), (x0, .inr (7, [.ref x1, .ref x2, .ref x45, .ref x53, .ref x55, .ref x57, .int 0, .int 0, .int 0])), (x1, .inl (xc0, 4, .inr (.inr (.inr (.inr (va_up (va_up (va_up (va_up (fun _ => none) 0 (some x59)) 1 (some x61)) 2 (some x63)) 3 (some x65))))))), (x2, .inr (5, [.ref x3, .ref x4, .ref x5, .ref x7, .ref x9, .ref x11, .int 0, .int 0])), (x53, .inr (6, [.ref x54, .int 0])), (x54, .inl (xc27, 64, .inl (fun _ => 0))), (x55, .inr (6, [.ref x56, .int 0])), (x56, .inl (xc28, 64, .inl (fun _ => 0))), (x59, .inr (6, [.ref x60, .int 0])), (x60, .inl (xc30, 64, .inl (fun _ => 0))), (x61, .inr (6, [.ref x62, .int 0])), (x62, .inl (xc31, 64, .inl (fun _ => 0))), (x63, .inr (6, [.ref x64, .int 0])), (x64, .inl (xc32, 64, .inl (fun _ => 0))), (x65, .inr (6, [.ref x66, .int 0])), (x66, .inl (xc33, 64, .inl (fun _ => 0))), (o0, .inr (8, [.long 1, .null]))] H := hP
  have hD : va_D A [(m0, .inr (9, [.int 0, .ref m1, .ref m2, .ref m3, .int 0, .int 0, .int 0])), (m1, .inl (mc0, 4, .inr (.inr (.inr (.inr (va_up (va_up (va_up (va_up (fun _ => none) 0 (some ge5)) 1 (some ge5)) 2 (some ge5)) 3 (some ge5))))))), (m2, .inr (3, [.int 0, .ref gde, .int 0])), (x0, .inr (7, [.ref x1, .ref x2, .ref x45, .ref x53, .ref x55, .ref x57, .int 0, .int 0, .int 0])), (x1, .inl (xc0, 4, .inr (.inr (.inr (.inr (va_up (va_up (va_up (va_up (fun _ => none) 0 (some x59)) 1 (some x61)) 2 (some x63)) 3 (some x65))))))), (x2, .inr (5, [.ref x3, .ref x4, .ref x5, .ref x7, .ref x9, .ref x11, .int 0, .int 0])), (x53, .inr (6, [.ref x54, .int 0])), (x54, .inl (xc27, 64, .inl (fun _ => 0))), (x55, .inr (6, [.ref x56, .int 0])), (x56, .inl (xc28, 64, .inl (fun _ => 0))), (x59, .inr (6, [.ref x60, .int 0])), (x60, .inl (xc30, 64, .inl (fun _ => 0))), (x61, .inr (6, [.ref x62, .int 0])), (x62, .inl (xc31, 64, .inl (fun _ => 0))), (x63, .inr (6, [.ref x64, .int 0])), (x64, .inl (xc32, 64, .inl (fun _ => 0))), (x65, .inr (6, [.ref x66, .int 0])), (x66, .inl (xc33, 64, .inl (fun _ => 0))), (o0, .inr (8, [.long 1, .null]))] := hD
  refine lv_istore (lv' := [(5, .int 0), (4, .int 0), (3, .ref o0), (2, .ref m0), (1, .ref x0), (0, .ref b)]) hx hb dL_law_2049 hl (by decide) rfl (fun ls hl => ?_)
  refine lv_aload_n hx hb dL_law_2051 rfl (lv_at hl 3 rfl) ?_
  refine lv_aload_n hx hb dL_law_2052 rfl (lv_at hl 5 rfl) ?_
  refine lv_iload hx hb dL_law_2053 (lv_at hl 1 rfl) ?_
  refine lv_iconst (v := 1) hx hb dL_law_2055 (by decide) ?_
  refine lv_iadd hx hb dL_law_2056 ?_
  refine lv_topi (fun y3 ey3 => ?_)
  obtain rfl : y3 = 1 := ey3.trans (by decide)
  refine va_sld hx hb hX hbl hbA hS (by unfold vp_in; decide) dL_law_2057 ?_
  rw [show xs (Int32.toNatClampNeg 1) = v1 from hx1]
  refine lv_aload_n hx hb dL_law_2058 rfl (lv_at hl 5 rfl) ?_
  refine lv_iload hx hb dL_law_2059 (lv_at hl 1 rfl) ?_
  refine lv_iconst (v := 2) hx hb dL_law_2061 (by decide) ?_
  refine lv_iadd hx hb dL_law_2062 ?_
  refine lv_topi (fun y4 ey4 => ?_)
  obtain rfl : y4 = 2 := ey4.trans (by decide)
  refine va_sld hx hb hX hbl hbA hS (by unfold vp_in; decide) dL_law_2063 ?_
  rw [show xs (Int32.toNatClampNeg 2) = v2 from hx2]
  have hPc := hP.sub (ws' := [(m0, .inr (9, [.int 0, .ref m1, .ref m2, .ref m3, .int 0, .int 0, .int 0])), (m1, .inl (mc0, 4, .inr (.inr (.inr (.inr (va_up (va_up (va_up (va_up (fun _ => none) 0 (some ge5)) 1 (some ge5)) 2 (some ge5)) 3 (some ge5))))))), (m2, .inr (3, [.int 0, .ref gde, .int 0]))]) [0, 1, 2] rfl
  have hDc := hD.sub (ws' := [(m0, .inr (9, [.int 0, .ref m1, .ref m2, .ref m3, .int 0, .int 0, .int 0])), (m1, .inl (mc0, 4, .inr (.inr (.inr (.inr (va_up (va_up (va_up (va_up (fun _ => none) 0 (some ge5)) 1 (some ge5)) 2 (some ge5)) 3 (some ge5))))))), (m2, .inr (3, [.int 0, .ref gde, .int 0]))]) [0, 1, 2] (by decide) rfl
  have hKc := hK.sub (tys' := [(mc0, .object "java/lang/String")]) [7] rfl
  have hFc := va_free (wc := [(m0, .inr (9, [.int 0, .ref m1, .ref m2, .ref m3, .int 0, .int 0, .int 0])), (m1, .inl (mc0, 4, .inr (.inr (.inr (.inr (va_up (va_up (va_up (va_up (fun _ => none) 0 (some ge5)) 1 (some ge5)) 2 (some ge5)) 3 (some ge5))))))), (m2, .inr (3, [.int 0, .ref gde, .int 0]))]) hD hS hA [0, 1, 2] rfl
  refine va_calli (va_runV (As := [.int v1, .int v2]) (rest := []) ⟨hx, hb, hml, hown, hts⟩ (kx_X5_told_0 l dC dI ge5 gea gv5 gva gde gic gi0 m0 m1 m2 m3 mc0 H.size v1 v1_l v1_u v2 v2_l v2_u) (cwV 2 hts gL_law_X5_told rfl rfl rfl (by decide +kernel) ⟨Nat.le_of_ble_eq_true rfl, Nat.le_of_ble_eq_true rfl⟩) ⟨fun a U g mk q => by obtain ⟨q0, q1, qP, qK, qD, qG⟩ := q; exact ⟨q0, q1, qP, va_K.moved (u := U) (U := U.calling g mk a) (Vm.Alike.refl U.vm) qK, qD, gv.fb qG⟩, va_recv hKc hPc (ci := 9) (q0 := 0) rfl rfl, fun U hU hW => ⟨rfl, by rw [hU], by rw [hU]; exact hPc, va_K.moved hW.alike hKc, hDc.weaken (fun _ _ _ _ => trivial), gv.pass hW hU hS hFc hG⟩⟩ rfl rfl hl.1 rfl (lv_room (Nat.le_of_ble_eq_true rfl)) dL_law_2064 ⟨Nat.le_of_ble_eq_true rfl, Nat.le_of_ble_eq_true rfl⟩) hS (fun q _ h => hFc q h) hFc (fun r9 u t H1 locs ht hvm hw hB hz1 hk1 hS => ?_)
  obtain rfl := hw
  obtain ⟨q5, q6, cq7, cq8, hP1, hK1, hD1⟩ := hB
  rw [ht] at hP1
  have hK1 := va_K.moved hvm.symm hK1
  obtain ⟨hP, hD⟩ := va_join (wr := [(x0, .inr (7, [.ref x1, .ref x2, .ref x45, .ref x53, .ref x55, .ref x57, .int 0, .int 0, .int 0])), (x1, .inl (xc0, 4, .inr (.inr (.inr (.inr (va_up (va_up (va_up (va_up (fun _ => none) 0 (some x59)) 1 (some x61)) 2 (some x63)) 3 (some x65))))))), (x2, .inr (5, [.ref x3, .ref x4, .ref x5, .ref x7, .ref x9, .ref x11, .int 0, .int 0])), (x53, .inr (6, [.ref x54, .int 0])), (x54, .inl (xc27, 64, .inl (fun _ => 0))), (x55, .inr (6, [.ref x56, .int 0])), (x56, .inl (xc28, 64, .inl (fun _ => 0))), (x59, .inr (6, [.ref x60, .int 0])), (x60, .inl (xc30, 64, .inl (fun _ => 0))), (x61, .inr (6, [.ref x62, .int 0])), (x62, .inl (xc31, 64, .inl (fun _ => 0))), (x63, .inr (6, [.ref x64, .int 0])), (x64, .inl (xc32, 64, .inl (fun _ => 0))), (x65, .inr (6, [.ref x66, .int 0])), (x66, .inl (xc33, 64, .inl (fun _ => 0))), (o0, .inr (8, [.long 1, .null]))]) (w1 := [(m0, .inr (9, [.int 0, .ref m1, .ref m2, .ref m3, .int 0, .int 0, .int 0]))]) hP hD [0, 1, 2] [3, 4, 5, 6, 7, 8, 9, 10, 11, 12, 13, 14, 15, 16, 17, 18] rfl rfl (by decide) (by decide) hk1 hFc hP1 hD1
  have hK := hK.app (hK1.sub (tys' := [(cq7, .int), (cq8, .int)]) [1, 2] rfl)
  generalize H1 = H at hP hS ⊢
  have hK : va_K (dC, dI) vwCl [(xc0, .object "Rewriterope$Text"), (xc27, .byte), (xc28, .byte), (xc30, .byte), (xc31, .byte), (xc32, .byte), (xc33, .byte), (mc0, .object "java/lang/String"), (cq7, .int), (cq8, .int)] s := hK
  have hP : va_P (dC, dI) vwCl [(x0, .inr (7, [.ref x1, .ref x2, .ref x45, .ref x53, .ref x55, .ref x57, .int 0, .int 0, .int 0])), (x1, .inl (xc0, 4, .inr (.inr (.inr (.inr (va_up (va_up (va_up (va_up (fun _ => none) 0 (some x59)) 1 (some x61)) 2 (some x63)) 3 (some x65))))))), (x2, .inr (5, [.ref x3, .ref x4, .ref x5, .ref x7, .ref x9, .ref x11, .int 0, .int 0])), (x53, .inr (6, [.ref x54, .int 0])), (x54, .inl (xc27, 64, .inl (fun _ => 0))), (x55, .inr (6, [.ref x56, .int 0])), (x56, .inl (xc28, 64, .inl (fun _ => 0))), (x59, .inr (6, [.ref x60, .int 0])), (x60, .inl (xc30, 64, .inl (fun _ => 0))), (x61, .inr (6, [.ref x62, .int 0])), (x62, .inl (xc31, 64, .inl (fun _ => 0))), (x63, .inr (6, [.ref x64, .int 0])), (x64, .inl (xc32, 64, .inl (fun _ => 0))), (x65, .inr (6, [.ref x66, .int 0])), (x66, .inl (xc33, 64, .inl (fun _ => 0))), (o0, .inr (8, [.long 1, .null])), (m0, .inr (9, [.int 0, .ref m1, .ref m2, .ref m3, .int 0, .int 0, .int 0]))] H := hP
  have hD : va_D A [(x0, .inr (7, [.ref x1, .ref x2, .ref x45, .ref x53, .ref x55, .ref x57, .int 0, .int 0, .int 0])), (x1, .inl (xc0, 4, .inr (.inr (.inr (.inr (va_up (va_up (va_up (va_up (fun _ => none) 0 (some x59)) 1 (some x61)) 2 (some x63)) 3 (some x65))))))), (x2, .inr (5, [.ref x3, .ref x4, .ref x5, .ref x7, .ref x9, .ref x11, .int 0, .int 0])), (x53, .inr (6, [.ref x54, .int 0])), (x54, .inl (xc27, 64, .inl (fun _ => 0))), (x55, .inr (6, [.ref x56, .int 0])), (x56, .inl (xc28, 64, .inl (fun _ => 0))), (x59, .inr (6, [.ref x60, .int 0])), (x60, .inl (xc30, 64, .inl (fun _ => 0))), (x61, .inr (6, [.ref x62, .int 0])), (x62, .inl (xc31, 64, .inl (fun _ => 0))), (x63, .inr (6, [.ref x64, .int 0])), (x64, .inl (xc32, 64, .inl (fun _ => 0))), (x65, .inr (6, [.ref x66, .int 0])), (x66, .inl (xc33, 64, .inl (fun _ => 0))), (o0, .inr (8, [.long 1, .null])), (m0, .inr (9, [.int 0, .ref m1, .ref m2, .ref m3, .int 0, .int 0, .int 0]))] := hD
  refine W.widen (k := 74) (n := 2750) (by omega) (by omega) ?_
  refine lv_istore (lv' := [(6, .int 1), (5, .int 0), (4, .int 0), (3, .ref o0), (2, .ref m0), (1, .ref x0), (0, .ref b)]) hx hb dL_law_2067 hl (by decide) rfl (fun ls hl => ?_)
  refine lv_aload_n hx hb dL_law_2069 rfl (lv_at hl 4 rfl) ?_
  have hPc := hP.sub (ws' := [(m0, .inr (9, [.int 0, .ref m1, .ref m2, .ref m3, .int 0, .int 0, .int 0]))]) [16] rfl
  have hDc := hD.sub (ws' := [(m0, .inr (9, [.int 0, .ref m1, .ref m2, .ref m3, .int 0, .int 0, .int 0]))]) [16] (by decide) rfl
  have hKc := hK.sub (tys' := []) [] rfl
  have hFc := va_free (wc := [(m0, .inr (9, [.int 0, .ref m1, .ref m2, .ref m3, .int 0, .int 0, .int 0]))]) hD hS hA [16] rfl
  refine va_calli (va_runV (As := []) (rest := []) ⟨hx, hb, hml, hown, hts⟩ (kx_X5_thrown_2 l dC dI m0 m1 m2 m3 H.size) (cwV 0 hts gL_law_X5_thrown rfl rfl rfl (by decide +kernel) ⟨Nat.le_of_ble_eq_true rfl, Nat.le_of_ble_eq_true rfl⟩) ⟨fun a U g mk q => by obtain ⟨q0, q1, qP, qK, qD⟩ := q; exact ⟨q0, q1, qP, va_K.moved (u := U) (U := U.calling g mk a) (Vm.Alike.refl U.vm) qK, qD⟩, va_recv hKc hPc (ci := 9) (q0 := 0) rfl rfl, fun U hU hW => ⟨rfl, by rw [hU], by rw [hU]; exact hPc, va_K.moved hW.alike hKc, hDc.weaken (fun _ _ _ _ => trivial)⟩⟩ rfl rfl hl.1 rfl (lv_room (Nat.le_of_ble_eq_true rfl)) dL_law_2070 ⟨Nat.le_of_ble_eq_true rfl, Nat.le_of_ble_eq_true rfl⟩) hS (fun q _ h => hFc q h) hFc (fun r9 u t H1 locs ht hvm hw hB hz1 hk1 hS => ?_)
  obtain rfl := hw
  obtain ⟨hP1, hK1, hD1⟩ := hB
  rw [ht] at hP1
  have hK1 := va_K.moved hvm.symm hK1
  obtain ⟨hP, hD⟩ := va_join (wr := [(x0, .inr (7, [.ref x1, .ref x2, .ref x45, .ref x53, .ref x55, .ref x57, .int 0, .int 0, .int 0])), (x1, .inl (xc0, 4, .inr (.inr (.inr (.inr (va_up (va_up (va_up (va_up (fun _ => none) 0 (some x59)) 1 (some x61)) 2 (some x63)) 3 (some x65))))))), (x2, .inr (5, [.ref x3, .ref x4, .ref x5, .ref x7, .ref x9, .ref x11, .int 0, .int 0])), (x53, .inr (6, [.ref x54, .int 0])), (x54, .inl (xc27, 64, .inl (fun _ => 0))), (x55, .inr (6, [.ref x56, .int 0])), (x56, .inl (xc28, 64, .inl (fun _ => 0))), (x59, .inr (6, [.ref x60, .int 0])), (x60, .inl (xc30, 64, .inl (fun _ => 0))), (x61, .inr (6, [.ref x62, .int 0])), (x62, .inl (xc31, 64, .inl (fun _ => 0))), (x63, .inr (6, [.ref x64, .int 0])), (x64, .inl (xc32, 64, .inl (fun _ => 0))), (x65, .inr (6, [.ref x66, .int 0])), (x66, .inl (xc33, 64, .inl (fun _ => 0))), (o0, .inr (8, [.long 1, .null]))]) (w1 := [(m0, .inr (9, [.int 0, .ref m1, .ref m2, .ref m3, .int 0, .int 0, .int 0]))]) hP hD [16] [0, 1, 2, 3, 4, 5, 6, 7, 8, 9, 10, 11, 12, 13, 14, 15] rfl rfl (by decide) (by decide) hk1 hFc hP1 hD1
  generalize H1 = H at hP hS ⊢
  have hP : va_P (dC, dI) vwCl [(x0, .inr (7, [.ref x1, .ref x2, .ref x45, .ref x53, .ref x55, .ref x57, .int 0, .int 0, .int 0])), (x1, .inl (xc0, 4, .inr (.inr (.inr (.inr (va_up (va_up (va_up (va_up (fun _ => none) 0 (some x59)) 1 (some x61)) 2 (some x63)) 3 (some x65))))))), (x2, .inr (5, [.ref x3, .ref x4, .ref x5, .ref x7, .ref x9, .ref x11, .int 0, .int 0])), (x53, .inr (6, [.ref x54, .int 0])), (x54, .inl (xc27, 64, .inl (fun _ => 0))), (x55, .inr (6, [.ref x56, .int 0])), (x56, .inl (xc28, 64, .inl (fun _ => 0))), (x59, .inr (6, [.ref x60, .int 0])), (x60, .inl (xc30, 64, .inl (fun _ => 0))), (x61, .inr (6, [.ref x62, .int 0])), (x62, .inl (xc31, 64, .inl (fun _ => 0))), (x63, .inr (6, [.ref x64, .int 0])), (x64, .inl (xc32, 64, .inl (fun _ => 0))), (x65, .inr (6, [.ref x66, .int 0])), (x66, .inl (xc33, 64, .inl (fun _ => 0))), (o0, .inr (8, [.long 1, .null])), (m0, .inr (9, [.int 0, .ref m1, .ref m2, .ref m3, .int 0, .int 0, .int 0]))] H := hP
  have hD : va_D A [(x0, .inr (7, [.ref x1, .ref x2, .ref x45, .ref x53, .ref x55, .ref x57, .int 0, .int 0, .int 0])), (x1, .inl (xc0, 4, .inr (.inr (.inr (.inr (va_up (va_up (va_up (va_up (fun _ => none) 0 (some x59)) 1 (some x61)) 2 (some x63)) 3 (some x65))))))), (x2, .inr (5, [.ref x3, .ref x4, .ref x5, .ref x7, .ref x9, .ref x11, .int 0, .int 0])), (x53, .inr (6, [.ref x54, .int 0])), (x54, .inl (xc27, 64, .inl (fun _ => 0))), (x55, .inr (6, [.ref x56, .int 0])), (x56, .inl (xc28, 64, .inl (fun _ => 0))), (x59, .inr (6, [.ref x60, .int 0])), (x60, .inl (xc30, 64, .inl (fun _ => 0))), (x61, .inr (6, [.ref x62, .int 0])), (x62, .inl (xc31, 64, .inl (fun _ => 0))), (x63, .inr (6, [.ref x64, .int 0])), (x64, .inl (xc32, 64, .inl (fun _ => 0))), (x65, .inr (6, [.ref x66, .int 0])), (x66, .inl (xc33, 64, .inl (fun _ => 0))), (o0, .inr (8, [.long 1, .null])), (m0, .inr (9, [.int 0, .ref m1, .ref m2, .ref m3, .int 0, .int 0, .int 0]))] := hD
  refine lv_iload hx hb dL_law_2073 (lv_at hl 1 rfl) ?_
  refine lv_icmp_eq (tgt := 2080) hx hb dL_law_2075 (by decide) (fun _ => ?_) (fun c9 => absurd (by decide) c9)
  refine lv_iload hx hb dL_law_2080 (lv_at hl 1 rfl) ?_
  refine lv_if_ne (tgt := 2098) hx hb dL_law_2082 (by decide) (fun c9 => absurd (by decide) c9) (fun _ => ?_)
  refine lv_aload_n hx hb dL_law_2085 rfl (lv_at hl 3 rfl) ?_
  refine va_getN (D := (dC, dI)) (ci := 8) (v := .long 1) (C := RX4) (T := TX4) (N := 2) hx hb hts (by decide +kernel) hown hK hP 15 rfl rfl 0 (by decide) (va_Nw.use rfl g_nf_RL_13) (fun _ h9 => h9) rfl dL_law_2086 ?_
  refine lv_iload hx hb dL_law_2089 (lv_at hl 0 rfl) ?_
  refine lv_i2l (v := 1) hx hb dL_law_2091 (by decide) ?_
  refine W.lcmp hx hb dL_law_2092 ?_
  refine lv_topi (fun y9 ey9 => ?_)
  obtain rfl : y9 = 0 := ey9.trans (by decide)
  refine lv_if_eq (tgt := 2098) hx hb dL_law_2093 (by decide) (fun _ => ?_) (fun c9 => absurd (by decide) c9)
  refine lv_goto (tgt := 2342) hx hb dL_law_2098 (by decide) ?_
  refine lv_iinc (v := 7) (lv' := [(4, .int 7), (6, .int 1), (5, .int 0), (3, .ref o0), (2, .ref m0), (1, .ref x0), (0, .ref b)]) hx hb dL_law_2342 hl (k := 2) rfl (by decide) (by decide) rfl (fun ls hl => ?_)
  refine lv_goto (tgt := 27) hx hb dL_law_2345 (by decide) ?_
  refine lv_iload hx hb dL_law_27 (lv_at hl 0 rfl) ?_
  refine lv_aload_n hx hb dL_law_29 rfl (lv_at hl 6 rfl) ?_
  refine va_slen hx hb hX hbl hbA hS dL_law_30 ?_
  refine lv_topi (fun y10 ey10 => ?_)
  obtain rfl : y10 = 7 := ey10.trans (by decide)
  refine lv_bipush (v := 7) hx hb dL_law_31 (by decide) ?_
  refine lv_isub hx hb dL_law_33 ?_
  refine lv_topi (fun y11 ey11 => ?_)
  obtain rfl : y11 = 0 := ey11.trans (by decide)
  refine lv_icmp_gt (tgt := 2348) hx hb dL_law_34 (by decide) (fun _ => ?_) (fun c9 => absurd (by decide) c9)
  refine lv_iconst (v := 1) hx hb dL_law_2348 (by decide) ?_
  refine va_forget (fun q hq => (by have h := hS.2.2 q hq; rw [hAe] at h; exact h)) ?_
  refine W.widen (k := 600002) (n := 7302232) (Nat.le_of_ble_eq_true rfl) (Nat.le_of_ble_eq_true rfl) ?_
  exact lw_ret hx hb hr hlocks dL_law_2349
set_option maxHeartbeats 4000000 in
set_option maxRecDepth 100000 in
theorem lc_told_1 {p : Program} {e : Env} {s : State} {m : MethodId} {below : List Frame} {meth : Method} {c : Code} {l : Launch} (hst : l.stackTraces = false) {b : Nat} {xs : Nat → Int32} (C9 : lx_At p s m meth c b xs) {dC : Nat → ClassId} {dI : Nat → Nat → Nat} {ge5 gea gv5 gva gde gic gi0 : Nat} {x0 m0 x1 x2 x45 x53 x55 x57 m1 m2 m3 o0 : Nat} (hG : gv ge5 gea gv5 gva gde gic gi0 (fun q => s.heap.size ≤ q) s s.heap) {v1 : Int32} (v1_l : (0 : Int) ≤ v1.toInt) (v1_u : v1.toInt ≤ (3 : Int)) {v2 : Int32} (v2_l : ((-2147483648) : Int) ≤ v2.toInt) (v2_u : v2.toInt ≤ ((-1) : Int)) (hx1 : xs 1 = v1) (hx2 : xs 2 = v2) {H : Heap} {locs : List Loc} (hK : va_K (dC, dI) vwCl [] s) (hP : va_P (dC, dI) vwCl [(x0, .inr (7, [.ref x1, .ref x2, .ref x45, .ref x53, .ref x55, .ref x57, .int 0, .int 0, .int 0])), (m0, .inr (9, [.int 0, .ref m1, .ref m2, .ref m3, .int 0, .int 0, .int 0]))] H) (hD : va_D (fun q => s.heap.size ≤ q) [(x0, .inr (7, [.ref x1, .ref x2, .ref x45, .ref x53, .ref x55, .ref x57, .int 0, .int 0, .int 0])), (m0, .inr (9, [.int 0, .ref m1, .ref m2, .ref m3, .int 0, .int 0, .int 0]))]) (hS : va_S (fun q => s.heap.size ≤ q) s.heap H locs) {ls : Array Slot} (hl : lv_has ls 7 [(4, .int 0), (3, .ref o0), (2, .ref m0), (1, .ref x0), (0, .ref b)]) : W p l e room_1 s m #[Value.ref b] below meth c H locs 72 2748 (lw_Z below #[Value.ref b] s) (F0 m 2032 ls []) := by
  obtain ⟨hx, hb, hr, hml, hown, hts, hX, hbl, hlocks⟩ := id C9
  have hA : ∀ q : Nat, s.heap.size ≤ q → (fun q : Nat => s.heap.size ≤ q) q := fun _ h => h
  have hbA : ¬ (fun q : Nat => s.heap.size ≤ q) b := Nat.not_le.mpr hbl
  obtain ⟨A, hAe⟩ : ∃ A : Nat → Prop, A = (fun q : Nat => s.heap.size ≤ q) := ⟨_, rfl⟩
  rw [← hAe] at hG hD hS hA hbA
  obtain ⟨⟨g_AO_Text, g_AO_String, g_AO_Object, g_nm_RX1_20, g_nm_RX0_17, g_nm_RX3_31, g_nm_RX2_44, g_nm_RL_121, g_nf_RL_13, g_nf_RL_47, g_ca_IO, g_ca_IA, g_ca_IS, g_ca_IntObj, g_ca_StrObj, g_de_RT, g_de_EX, g_de_TH, g_nc_IA_IO, g_nc_IS_IO, g_nc_IS_IA⟩, ⟨g_s3, g_s5, g_sa, g_x278, g_x280, g_x282, g_x284, g_x286, g_x180, g_x238, g_x250⟩, ⟨g_o5, g_c5, g_v5, g_t5, g_oa, g_ca, g_va, g_ta, g_zc, g_zd, g_td, g_zf, g_zU, g_zN, g_zh, g_zk, g_tk, g_oi, g_vi⟩⟩ := id hG
  refine lv_aload_n hx hb dL_law_2032 rfl (lv_at hl 3 rfl) ?_
  refine lv_aload_n hx hb dL_law_2033 rfl (lv_at hl 4 rfl) ?_
  refine lv_iload hx hb dL_law_2034 (lv_at hl 0 rfl) ?_
  refine lv_iconst (v := 1) hx hb dL_law_2036 (by decide) ?_
  refine lv_iadd hx hb dL_law_2037 ?_
  refine lv_topi (fun y1 ey1 => ?_)
  obtain rfl : y1 = 1 := ey1.trans (by decide)
  refine va_sld hx hb hX hbl hbA hS (by unfold vp_in; decide) dL_law_2038 ?_
  rw [show xs (Int32.toNatClampNeg 1) = v1 from hx1]
  refine lv_aload_n hx hb dL_law_2039 rfl (lv_at hl 4 rfl) ?_
  refine lv_iload hx hb dL_law_2040 (lv_at hl 0 rfl) ?_
  refine lv_iconst (v := 2) hx hb dL_law_2042 (by decide) ?_
  refine lv_iadd hx hb dL_law_2043 ?_
  refine lv_topi (fun y2 ey2 => ?_)
  obtain rfl : y2 = 2 := ey2.trans (by decide)
  refine va_sld hx hb hX hbl hbA hS (by unfold vp_in; decide) dL_law_2044 ?_
  rw [show xs (Int32.toNatClampNeg 2) = v2 from hx2]
  refine lv_aload_n hx hb dL_law_2045 rfl (lv_at hl 1 rfl) ?_
  have hPc := hP.sub (ws' := [(x0, .inr (7, [.ref x1, .ref x2, .ref x45, .ref x53, .ref x55, .ref x57, .int 0, .int 0, .int 0]))]) [0] rfl
  have hDc := hD.sub (ws' := [(x0, .inr (7, [.ref x1, .ref x2, .ref x45, .ref x53, .ref x55, .ref x57, .int 0, .int 0, .int 0]))]) [0] (by decide) rfl
  have hKc := hK.sub (tys' := []) [] rfl
  have hFc := va_free (wc := [(x0, .inr (7, [.ref x1, .ref x2, .ref x45, .ref x53, .ref x55, .ref x57, .int 0, .int 0, .int 0]))]) hD hS hA [0] rfl
  refine va_calli (vx_runSW (As := [.ref x0, .int v1, .int v2, .ref o0]) (rest := []) ⟨hx, hb, hml, hown, hts⟩ (kx_L_told_1 l hst dC dI ge5 gea gv5 gva gde gic gi0 x0 o0 x1 x2 x45 x53 x55 x57 H.size v1 v1_l v1_u v2 v2_l v2_u) (vx_cwSW 4 hts gL_law_L_told rfl rfl rfl (by decide +kernel) ⟨Nat.le_of_ble_eq_true rfl, Nat.le_of_ble_eq_true rfl⟩) ⟨fun a U g mk q => by obtain ⟨q0, q1, qP, qK, qD, qG⟩ := q; exact ⟨q0, q1, qP, va_K.moved (u := U) (U := U.calling g mk a) (Vm.Alike.refl U.vm) qK, qD, gv.fb qG⟩, fun U hU hW => ⟨rfl, by rw [hU], by rw [hU]; exact hPc, va_K.moved hW.alike hKc, hDc.weaken (fun _ _ _ _ => trivial), gv.pass hW hU hS hFc hG⟩⟩ rfl rfl hl.1 rfl (lv_room (Nat.le_of_ble_eq_true rfl)) dL_law_2046 ⟨Nat.le_of_ble_eq_true rfl, Nat.le_of_ble_eq_true rfl⟩) hS (fun q _ h => hFc q h) hFc (fun r9 u t H1 locs ht hvm hw hB hz1 hk1 hS => ?_)
  obtain rfl := hw
  obtain ⟨hP1, hK1, hD1⟩ := hB
  rw [ht] at hP1
  have hK1 := va_K.moved hvm.symm hK1
  obtain ⟨hP, hD⟩ := va_join (wr := [(m0, .inr (9, [.int 0, .ref m1, .ref m2, .ref m3, .int 0, .int 0, .int 0]))]) (w1 := [(x0, .inr (7, [.ref x1, .ref x2, .ref x45, .ref x53, .ref x55, .ref x57, .int 0, .int 0, .int 0]))]) hP hD [0] [1] rfl rfl (by decide) (by decide) hk1 hFc hP1 hD1
  generalize H1 = H at hP hS ⊢
  have hP : va_P (dC, dI) vwCl [(m0, .inr (9, [.int 0, .ref m1, .ref m2, .ref m3, .int 0, .int 0, .int 0])), (x0, .inr (7, [.ref x1, .ref x2, .ref x45, .ref x53, .ref x55, .ref x57, .int 0, .int 0, .int 0]))] H := hP
  have hD : va_D A [(m0, .inr (9, [.int 0, .ref m1, .ref m2, .ref m3, .int 0, .int 0, .int 0])), (x0, .inr (7, [.ref x1, .ref x2, .ref x45, .ref x53, .ref x55, .ref x57, .int 0, .int 0, .int 0]))] := hD
  refine W.widen (k := 73) (n := 2754) (by omega) (by omega) ?_
  refine lv_istore (lv' := [(5, .int 1), (4, .int 0), (3, .ref o0), (2, .ref m0), (1, .ref x0), (0, .ref b)]) hx hb dL_law_2049 hl (by decide) rfl (fun ls hl => ?_)
  refine lv_aload_n hx hb dL_law_2051 rfl (lv_at hl 3 rfl) ?_
  refine lv_aload_n hx hb dL_law_2052 rfl (lv_at hl 5 rfl) ?_
  refine lv_iload hx hb dL_law_2053 (lv_at hl 1 rfl) ?_
  refine lv_iconst (v := 1) hx hb dL_law_2055 (by decide) ?_
  refine lv_iadd hx hb dL_law_2056 ?_
  refine lv_topi (fun y3 ey3 => ?_)
  obtain rfl : y3 = 1 := ey3.trans (by decide)
  refine va_sld hx hb hX hbl hbA hS (by unfold vp_in; decide) dL_law_2057 ?_
  rw [show xs (Int32.toNatClampNeg 1) = v1 from hx1]
  refine lv_aload_n hx hb dL_law_2058 rfl (lv_at hl 5 rfl) ?_
  refine lv_iload hx hb dL_law_2059 (lv_at hl 1 rfl) ?_
  refine lv_iconst (v := 2) hx hb dL_law_2061 (by decide) ?_
  refine lv_iadd hx hb dL_law_2062 ?_
  refine lv_topi (fun y4 ey4 => ?_)
  obtain rfl : y4 = 2 := ey4.trans (by decide)
  refine va_sld hx hb hX hbl hbA hS (by unfold vp_in; decide) dL_law_2063 ?_
  rw [show xs (Int32.toNatClampNeg 2) = v2 from hx2]
  have hPc := hP.sub (ws' := [(m0, .inr (9, [.int 0, .ref m1, .ref m2, .ref m3, .int 0, .int 0, .int 0]))]) [0] rfl
  have hDc := hD.sub (ws' := [(m0, .inr (9, [.int 0, .ref m1, .ref m2, .ref m3, .int 0, .int 0, .int 0]))]) [0] (by decide) rfl
  have hKc := hK.sub (tys' := []) [] rfl
  have hFc := va_free (wc := [(m0, .inr (9, [.int 0, .ref m1, .ref m2, .ref m3, .int 0, .int 0, .int 0]))]) hD hS hA [0] rfl
  refine va_calli (va_runV (As := [.int v1, .int v2]) (rest := []) ⟨hx, hb, hml, hown, hts⟩ (kx_X5_told_1 l dC dI m0 m1 m2 m3 H.size v1 v1_l v1_u v2 v2_l v2_u) (cwV 2 hts gL_law_X5_told rfl rfl rfl (by decide +kernel) ⟨Nat.le_of_ble_eq_true rfl, Nat.le_of_ble_eq_true rfl⟩) ⟨fun a U g mk q => by obtain ⟨q0, q1, qP, qK, qD⟩ := q; exact ⟨q0, q1, qP, va_K.moved (u := U) (U := U.calling g mk a) (Vm.Alike.refl U.vm) qK, qD⟩, va_recv hKc hPc (ci := 9) (q0 := 0) rfl rfl, fun U hU hW => ⟨rfl, by rw [hU], by rw [hU]; exact hPc, va_K.moved hW.alike hKc, hDc.weaken (fun _ _ _ _ => trivial)⟩⟩ rfl rfl hl.1 rfl (lv_room (Nat.le_of_ble_eq_true rfl)) dL_law_2064 ⟨Nat.le_of_ble_eq_true rfl, Nat.le_of_ble_eq_true rfl⟩) hS (fun q _ h => hFc q h) hFc (fun r9 u t H1 locs ht hvm hw hB hz1 hk1 hS => ?_)
  obtain rfl := hw
  obtain ⟨hP1, hK1, hD1⟩ := hB
  rw [ht] at hP1
  have hK1 := va_K.moved hvm.symm hK1
  obtain ⟨hP, hD⟩ := va_join (wr := [(x0, .inr (7, [.ref x1, .ref x2, .ref x45, .ref x53, .ref x55, .ref x57, .int 0, .int 0, .int 0]))]) (w1 := [(m0, .inr (9, [.int 1, .ref m1, .ref m2, .ref m3, .int 0, .int 0, .int 0]))]) hP hD [0] [1] rfl rfl (by decide) (by decide) hk1 hFc hP1 hD1
  generalize H1 = H at hP hS ⊢
  have hP : va_P (dC, dI) vwCl [(x0, .inr (7, [.ref x1, .ref x2, .ref x45, .ref x53, .ref x55, .ref x57, .int 0, .int 0, .int 0])), (m0, .inr (9, [.int 1, .ref m1, .ref m2, .ref m3, .int 0, .int 0, .int 0]))] H := hP
  have hD : va_D A [(x0, .inr (7, [.ref x1, .ref x2, .ref x45, .ref x53, .ref x55, .ref x57, .int 0, .int 0, .int 0])), (m0, .inr (9, [.int 1, .ref m1, .ref m2, .ref m3, .int 0, .int 0, .int 0]))] := hD
  refine lv_istore (lv' := [(6, .int 0), (5, .int 1), (4, .int 0), (3, .ref o0), (2, .ref m0), (1, .ref x0), (0, .ref b)]) hx hb dL_law_2067 hl (by decide) rfl (fun ls hl => ?_)
  refine lv_aload_n hx hb dL_law_2069 rfl (lv_at hl 4 rfl) ?_
  have hPc := hP.sub (ws' := [(m0, .inr (9, [.int 1, .ref m1, .ref m2, .ref m3, .int 0, .int 0, .int 0]))]) [1] rfl
  have hDc := hD.sub (ws' := [(m0, .inr (9, [.int 1, .ref m1, .ref m2, .ref m3, .int 0, .int 0, .int 0]))]) [1] (by decide) rfl
  have hKc := hK.sub (tys' := []) [] rfl
  have hFc := va_free (wc := [(m0, .inr (9, [.int 1, .ref m1, .ref m2, .ref m3, .int 0, .int 0, .int 0]))]) hD hS hA [1] rfl
  refine va_calli (va_runV (As := []) (rest := []) ⟨hx, hb, hml, hown, hts⟩ (kx_X5_thrown_0 l dC dI m0 m1 m2 m3 H.size) (cwV 0 hts gL_law_X5_thrown rfl rfl rfl (by decide +kernel) ⟨Nat.le_of_ble_eq_true rfl, Nat.le_of_ble_eq_true rfl⟩) ⟨fun a U g mk q => by obtain ⟨q0, q1, qP, qK, qD⟩ := q; exact ⟨q0, q1, qP, va_K.moved (u := U) (U := U.calling g mk a) (Vm.Alike.refl U.vm) qK, qD⟩, va_recv hKc hPc (ci := 9) (q0 := 0) rfl rfl, fun U hU hW => ⟨rfl, by rw [hU], by rw [hU]; exact hPc, va_K.moved hW.alike hKc, hDc.weaken (fun _ _ _ _ => trivial)⟩⟩ rfl rfl hl.1 rfl (lv_room (Nat.le_of_ble_eq_true rfl)) dL_law_2070 ⟨Nat.le_of_ble_eq_true rfl, Nat.le_of_ble_eq_true rfl⟩) hS (fun q _ h => hFc q h) hFc (fun r9 u t H1 locs ht hvm hw hB hz1 hk1 hS => ?_)
  obtain rfl := hw
  obtain ⟨hP1, hK1, hD1⟩ := hB
  rw [ht] at hP1
  have hK1 := va_K.moved hvm.symm hK1
  obtain ⟨hP, hD⟩ := va_join (wr := [(x0, .inr (7, [.ref x1, .ref x2, .ref x45, .ref x53, .ref x55, .ref x57, .int 0, .int 0, .int 0]))]) (w1 := [(m0, .inr (9, [.int 1, .ref m1, .ref m2, .ref m3, .int 0, .int 0, .int 0]))]) hP hD [1] [0] rfl rfl (by decide) (by decide) hk1 hFc hP1 hD1
  generalize H1 = H at hP hS ⊢
  have hP : va_P (dC, dI) vwCl [(x0, .inr (7, [.ref x1, .ref x2, .ref x45, .ref x53, .ref x55, .ref x57, .int 0, .int 0, .int 0])), (m0, .inr (9, [.int 1, .ref m1, .ref m2, .ref m3, .int 0, .int 0, .int 0]))] H := hP
  have hD : va_D A [(x0, .inr (7, [.ref x1, .ref x2, .ref x45, .ref x53, .ref x55, .ref x57, .int 0, .int 0, .int 0])), (m0, .inr (9, [.int 1, .ref m1, .ref m2, .ref m3, .int 0, .int 0, .int 0]))] := hD
  refine lv_iload hx hb dL_law_2073 (lv_at hl 1 rfl) ?_
  refine lv_icmp_eq (tgt := 2080) hx hb dL_law_2075 (by decide) (fun _ => ?_) (fun c9 => absurd (by decide) c9)
  refine lv_iload hx hb dL_law_2080 (lv_at hl 1 rfl) ?_
  refine lv_if_ne (tgt := 2098) hx hb dL_law_2082 (by decide) (fun _ => ?_) (fun c9 => absurd c9 (by decide))
  refine lv_goto (tgt := 2342) hx hb dL_law_2098 (by decide) ?_
  refine lv_iinc (v := 7) (lv' := [(4, .int 7), (6, .int 0), (5, .int 1), (3, .ref o0), (2, .ref m0), (1, .ref x0), (0, .ref b)]) hx hb dL_law_2342 hl (k := 2) rfl (by decide) (by decide) rfl (fun ls hl => ?_)
  refine lv_goto (tgt := 27) hx hb dL_law_2345 (by decide) ?_
  refine lv_iload hx hb dL_law_27 (lv_at hl 0 rfl) ?_
  refine lv_aload_n hx hb dL_law_29 rfl (lv_at hl 6 rfl) ?_
  refine va_slen hx hb hX hbl hbA hS dL_law_30 ?_
  refine lv_topi (fun y5 ey5 => ?_)
  obtain rfl : y5 = 7 := ey5.trans (by decide)
  refine lv_bipush (v := 7) hx hb dL_law_31 (by decide) ?_
  refine lv_isub hx hb dL_law_33 ?_
  refine lv_topi (fun y6 ey6 => ?_)
  obtain rfl : y6 = 0 := ey6.trans (by decide)
  refine lv_icmp_gt (tgt := 2348) hx hb dL_law_34 (by decide) (fun _ => ?_) (fun c9 => absurd (by decide) c9)
  refine lv_iconst (v := 1) hx hb dL_law_2348 (by decide) ?_
  refine va_forget (fun q hq => (by have h := hS.2.2 q hq; rw [hAe] at h; exact h)) ?_
  refine W.widen (k := 600002) (n := 7302232) (Nat.le_of_ble_eq_true rfl) (Nat.le_of_ble_eq_true rfl) ?_
  exact lw_ret hx hb hr hlocks dL_law_2349
set_option maxHeartbeats 4000000 in
set_option maxRecDepth 100000 in
theorem lc_told_2 {p : Program} {e : Env} {s : State} {m : MethodId} {below : List Frame} {meth : Method} {c : Code} {l : Launch} (hst : l.stackTraces = false) {b : Nat} {xs : Nat → Int32} (C9 : lx_At p s m meth c b xs) {dC : Nat → ClassId} {dI : Nat → Nat → Nat} {ge5 gea gv5 gva gde gic gi0 : Nat} {x0 m0 x1 x2 x45 x53 x55 x57 m1 m2 m3 o0 : Nat} (hG : gv ge5 gea gv5 gva gde gic gi0 (fun q => s.heap.size ≤ q) s s.heap) {v1 : Int32} (v1_l : (0 : Int) ≤ v1.toInt) (v1_u : v1.toInt ≤ (3 : Int)) {v2 : Int32} (v2_l : (4 : Int) ≤ v2.toInt) (v2_u : v2.toInt ≤ (2147483647 : Int)) (hx1 : xs 1 = v1) (hx2 : xs 2 = v2) {H : Heap} {locs : List Loc} (hK : va_K (dC, dI) vwCl [] s) (hP : va_P (dC, dI) vwCl [(x0, .inr (7, [.ref x1, .ref x2, .ref x45, .ref x53, .ref x55, .ref x57, .int 0, .int 0, .int 0])), (m0, .inr (9, [.int 0, .ref m1, .ref m2, .ref m3, .int 0, .int 0, .int 0]))] H) (hD : va_D (fun q => s.heap.size ≤ q) [(x0, .inr (7, [.ref x1, .ref x2, .ref x45, .ref x53, .ref x55, .ref x57, .int 0, .int 0, .int 0])), (m0, .inr (9, [.int 0, .ref m1, .ref m2, .ref m3, .int 0, .int 0, .int 0]))]) (hS : va_S (fun q => s.heap.size ≤ q) s.heap H locs) {ls : Array Slot} (hl : lv_has ls 7 [(4, .int 0), (3, .ref o0), (2, .ref m0), (1, .ref x0), (0, .ref b)]) : W p l e room_1 s m #[Value.ref b] below meth c H locs 72 2748 (lw_Z below #[Value.ref b] s) (F0 m 2032 ls []) := by
  obtain ⟨hx, hb, hr, hml, hown, hts, hX, hbl, hlocks⟩ := id C9
  have hA : ∀ q : Nat, s.heap.size ≤ q → (fun q : Nat => s.heap.size ≤ q) q := fun _ h => h
  have hbA : ¬ (fun q : Nat => s.heap.size ≤ q) b := Nat.not_le.mpr hbl
  obtain ⟨A, hAe⟩ : ∃ A : Nat → Prop, A = (fun q : Nat => s.heap.size ≤ q) := ⟨_, rfl⟩
  rw [← hAe] at hG hD hS hA hbA
  obtain ⟨⟨g_AO_Text, g_AO_String, g_AO_Object, g_nm_RX1_20, g_nm_RX0_17, g_nm_RX3_31, g_nm_RX2_44, g_nm_RL_121, g_nf_RL_13, g_nf_RL_47, g_ca_IO, g_ca_IA, g_ca_IS, g_ca_IntObj, g_ca_StrObj, g_de_RT, g_de_EX, g_de_TH, g_nc_IA_IO, g_nc_IS_IO, g_nc_IS_IA⟩, ⟨g_s3, g_s5, g_sa, g_x278, g_x280, g_x282, g_x284, g_x286, g_x180, g_x238, g_x250⟩, ⟨g_o5, g_c5, g_v5, g_t5, g_oa, g_ca, g_va, g_ta, g_zc, g_zd, g_td, g_zf, g_zU, g_zN, g_zh, g_zk, g_tk, g_oi, g_vi⟩⟩ := id hG
  refine lv_aload_n hx hb dL_law_2032 rfl (lv_at hl 3 rfl) ?_
  refine lv_aload_n hx hb dL_law_2033 rfl (lv_at hl 4 rfl) ?_
  refine lv_iload hx hb dL_law_2034 (lv_at hl 0 rfl) ?_
  refine lv_iconst (v := 1) hx hb dL_law_2036 (by decide) ?_
  refine lv_iadd hx hb dL_law_2037 ?_
  refine lv_topi (fun y1 ey1 => ?_)
  obtain rfl : y1 = 1 := ey1.trans (by decide)
  refine va_sld hx hb hX hbl hbA hS (by unfold vp_in; decide) dL_law_2038 ?_
  rw [show xs (Int32.toNatClampNeg 1) = v1 from hx1]
  refine lv_aload_n hx hb dL_law_2039 rfl (lv_at hl 4 rfl) ?_
  refine lv_iload hx hb dL_law_2040 (lv_at hl 0 rfl) ?_
  refine lv_iconst (v := 2) hx hb dL_law_2042 (by decide) ?_
  refine lv_iadd hx hb dL_law_2043 ?_
  refine lv_topi (fun y2 ey2 => ?_)
  obtain rfl : y2 = 2 := ey2.trans (by decide)
  refine va_sld hx hb hX hbl hbA hS (by unfold vp_in; decide) dL_law_2044 ?_
  rw [show xs (Int32.toNatClampNeg 2) = v2 from hx2]
  refine lv_aload_n hx hb dL_law_2045 rfl (lv_at hl 1 rfl) ?_
  have hPc := hP.sub (ws' := [(x0, .inr (7, [.ref x1, .ref x2, .ref x45, .ref x53, .ref x55, .ref x57, .int 0, .int 0, .int 0]))]) [0] rfl
  have hDc := hD.sub (ws' := [(x0, .inr (7, [.ref x1, .ref x2, .ref x45, .ref x53, .ref x55, .ref x57, .int 0, .int 0, .int 0]))]) [0] (by decide) rfl
  have hKc := hK.sub (tys' := []) [] rfl
  have hFc := va_free (wc := [(x0, .inr (7, [.ref x1, .ref x2, .ref x45, .ref x53, .ref x55, .ref x57, .int 0, .int 0, .int 0]))]) hD hS hA [0] rfl
  refine va_calli (vx_runSW (As := [.ref x0, .int v1, .int v2, .ref o0]) (rest := []) ⟨hx, hb, hml, hown, hts⟩ (kx_L_told_2 l hst dC dI ge5 gea gv5 gva gde gic gi0 x0 o0 x1 x2 x45 x53 x55 x57 H.size v1 v1_l v1_u v2 v2_l v2_u) (vx_cwSW 4 hts gL_law_L_told rfl rfl rfl (by decide +kernel) ⟨Nat.le_of_ble_eq_true rfl, Nat.le_of_ble_eq_true rfl⟩) ⟨fun a U g mk q => by obtain ⟨q0, q1, qP, qK, qD, qG⟩ := q; exact ⟨q0, q1, qP, va_K.moved (u := U) (U := U.calling g mk a) (Vm.Alike.refl U.vm) qK, qD, gv.fb qG⟩, fun U hU hW => ⟨rfl, by rw [hU], by rw [hU]; exact hPc, va_K.moved hW.alike hKc, hDc.weaken (fun _ _ _ _ => trivial), gv.pass hW hU hS hFc hG⟩⟩ rfl rfl hl.1 rfl (lv_room (Nat.le_of_ble_eq_true rfl)) dL_law_2046 ⟨Nat.le_of_ble_eq_true rfl, Nat.le_of_ble_eq_true rfl⟩) hS (fun q _ h => hFc q h) hFc (fun r9 u t H1 locs ht hvm hw hB hz1 hk1 hS => ?_)
  obtain rfl := hw
  obtain ⟨hP1, hK1, hD1⟩ := hB
  rw [ht] at hP1
  have hK1 := va_K.moved hvm.symm hK1
  obtain ⟨hP, hD⟩ := va_join (wr := [(m0, .inr (9, [.int 0, .ref m1, .ref m2, .ref m3, .int 0, .int 0, .int 0]))]) (w1 := [(x0, .inr (7, [.ref x1, .ref x2, .ref x45, .ref x53, .ref x55, .ref x57, .int 0, .int 0, .int 0]))]) hP hD [0] [1] rfl rfl (by decide) (by decide) hk1 hFc hP1 hD1
  generalize H1 = H at hP hS ⊢
  have hP : va_P (dC, dI) vwCl [(m0, .inr (9, [.int 0, .ref m1, .ref m2, .ref m3, .int 0, .int 0, .int 0])), (x0, .inr (7, [.ref x1, .ref x2, .ref x45, .ref x53, .ref x55, .ref x57, .int 0, .int 0, .int 0]))] H := hP
  have hD : va_D A [(m0, .inr (9, [.int 0, .ref m1, .ref m2, .ref m3, .int 0, .int 0, .int 0])), (x0, .inr (7, [.ref x1, .ref x2, .ref x45, .ref x53, .ref x55, .ref x57, .int 0, .int 0, .int 0]))] := hD
  refine W.widen (k := 73) (n := 2754) (by omega) (by omega) ?_
  refine lv_istore (lv' := [(5, .int 1), (4, .int 0), (3, .ref o0), (2, .ref m0), (1, .ref x0), (0, .ref b)]) hx hb dL_law_2049 hl (by decide) rfl (fun ls hl => ?_)
  refine lv_aload_n hx hb dL_law_2051 rfl (lv_at hl 3 rfl) ?_
  refine lv_aload_n hx hb dL_law_2052 rfl (lv_at hl 5 rfl) ?_
  refine lv_iload hx hb dL_law_2053 (lv_at hl 1 rfl) ?_
  refine lv_iconst (v := 1) hx hb dL_law_2055 (by decide) ?_
  refine lv_iadd hx hb dL_law_2056 ?_
  refine lv_topi (fun y3 ey3 => ?_)
  obtain rfl : y3 = 1 := ey3.trans (by decide)
  refine va_sld hx hb hX hbl hbA hS (by unfold vp_in; decide) dL_law_2057 ?_
  rw [show xs (Int32.toNatClampNeg 1) = v1 from hx1]
  refine lv_aload_n hx hb dL_law_2058 rfl (lv_at hl 5 rfl) ?_
  refine lv_iload hx hb dL_law_2059 (lv_at hl 1 rfl) ?_
  refine lv_iconst (v := 2) hx hb dL_law_2061 (by decide) ?_
  refine lv_iadd hx hb dL_law_2062 ?_
  refine lv_topi (fun y4 ey4 => ?_)
  obtain rfl : y4 = 2 := ey4.trans (by decide)
  refine va_sld hx hb hX hbl hbA hS (by unfold vp_in; decide) dL_law_2063 ?_
  rw [show xs (Int32.toNatClampNeg 2) = v2 from hx2]
  have hPc := hP.sub (ws' := [(m0, .inr (9, [.int 0, .ref m1, .ref m2, .ref m3, .int 0, .int 0, .int 0]))]) [0] rfl
  have hDc := hD.sub (ws' := [(m0, .inr (9, [.int 0, .ref m1, .ref m2, .ref m3, .int 0, .int 0, .int 0]))]) [0] (by decide) rfl
  have hKc := hK.sub (tys' := []) [] rfl
  have hFc := va_free (wc := [(m0, .inr (9, [.int 0, .ref m1, .ref m2, .ref m3, .int 0, .int 0, .int 0]))]) hD hS hA [0] rfl
  refine va_calli (va_runV (As := [.int v1, .int v2]) (rest := []) ⟨hx, hb, hml, hown, hts⟩ (kx_X5_told_2 l dC dI m0 m1 m2 m3 H.size v1 v1_l v1_u v2 v2_l v2_u) (cwV 2 hts gL_law_X5_told rfl rfl rfl (by decide +kernel) ⟨Nat.le_of_ble_eq_true rfl, Nat.le_of_ble_eq_true rfl⟩) ⟨fun a U g mk q => by obtain ⟨q0, q1, qP, qK, qD⟩ := q; exact ⟨q0, q1, qP, va_K.moved (u := U) (U := U.calling g mk a) (Vm.Alike.refl U.vm) qK, qD⟩, va_recv hKc hPc (ci := 9) (q0 := 0) rfl rfl, fun U hU hW => ⟨rfl, by rw [hU], by rw [hU]; exact hPc, va_K.moved hW.alike hKc, hDc.weaken (fun _ _ _ _ => trivial)⟩⟩ rfl rfl hl.1 rfl (lv_room (Nat.le_of_ble_eq_true rfl)) dL_law_2064 ⟨Nat.le_of_ble_eq_true rfl, Nat.le_of_ble_eq_true rfl⟩) hS (fun q _ h => hFc q h) hFc (fun r9 u t H1 locs ht hvm hw hB hz1 hk1 hS => ?_)
  obtain rfl := hw
  obtain ⟨hP1, hK1, hD1⟩ := hB
  rw [ht] at hP1
  have hK1 := va_K.moved hvm.symm hK1
  obtain ⟨hP, hD⟩ := va_join (wr := [(x0, .inr (7, [.ref x1, .ref x2, .ref x45, .ref x53, .ref x55, .ref x57, .int 0, .int 0, .int 0]))]) (w1 := [(m0, .inr (9, [.int 1, .ref m1, .ref m2, .ref m3, .int 0, .int 0, .int 0]))]) hP hD [0] [1] rfl rfl (by decide) (by decide) hk1 hFc hP1 hD1
  generalize H1 = H at hP hS ⊢
  have hP : va_P (dC, dI) vwCl [(x0, .inr (7, [.ref x1, .ref x2, .ref x45, .ref x53, .ref x55, .ref x57, .int 0, .int 0, .int 0])), (m0, .inr (9, [.int 1, .ref m1, .ref m2, .ref m3, .int 0, .int 0, .int 0]))] H := hP
  have hD : va_D A [(x0, .inr (7, [.ref x1, .ref x2, .ref x45, .ref x53, .ref x55, .ref x57, .int 0, .int 0, .int 0])), (m0, .inr (9, [.int 1, .ref m1, .ref m2, .ref m3, .int 0, .int 0, .int 0]))] := hD
  refine lv_istore (lv' := [(6, .int 0), (5, .int 1), (4, .int 0), (3, .ref o0), (2, .ref m0), (1, .ref x0), (0, .ref b)]) hx hb dL_law_2067 hl (by decide) rfl (fun ls hl => ?_)
  refine lv_aload_n hx hb dL_law_2069 rfl (lv_at hl 4 rfl) ?_
  have hPc := hP.sub (ws' := [(m0, .inr (9, [.int 1, .ref m1, .ref m2, .ref m3, .int 0, .int 0, .int 0]))]) [1] rfl
  have hDc := hD.sub (ws' := [(m0, .inr (9, [.int 1, .ref m1, .ref m2, .ref m3, .int 0, .int 0, .int 0]))]) [1] (by decide) rfl
  have hKc := hK.sub (tys' := []) [] rfl
  have hFc := va_free (wc := [(m0, .inr (9, [.int 1, .ref m1, .ref m2, .ref m3, .int 0, .int 0, .int 0]))]) hD hS hA [1] rfl
  refine va_calli (va_runV (As := []) (rest := []) ⟨hx, hb, hml, hown, hts⟩ (kx_X5_thrown_0 l dC dI m0 m1 m2 m3 H.size) (cwV 0 hts gL_law_X5_thrown rfl rfl rfl (by decide +kernel) ⟨Nat.le_of_ble_eq_true rfl, Nat.le_of_ble_eq_true rfl⟩) ⟨fun a U g mk q => by obtain ⟨q0, q1, qP, qK, qD⟩ := q; exact ⟨q0, q1, qP, va_K.moved (u := U) (U := U.calling g mk a) (Vm.Alike.refl U.vm) qK, qD⟩, va_recv hKc hPc (ci := 9) (q0 := 0) rfl rfl, fun U hU hW => ⟨rfl, by rw [hU], by rw [hU]; exact hPc, va_K.moved hW.alike hKc, hDc.weaken (fun _ _ _ _ => trivial)⟩⟩ rfl rfl hl.1 rfl (lv_room (Nat.le_of_ble_eq_true rfl)) dL_law_2070 ⟨Nat.le_of_ble_eq_true rfl, Nat.le_of_ble_eq_true rfl⟩) hS (fun q _ h => hFc q h) hFc (fun r9 u t H1 locs ht hvm hw hB hz1 hk1 hS => ?_)
  obtain rfl := hw
  obtain ⟨hP1, hK1, hD1⟩ := hB
  rw [ht] at hP1
  have hK1 := va_K.moved hvm.symm hK1
  obtain ⟨hP, hD⟩ := va_join (wr := [(x0, .inr (7, [.ref x1, .ref x2, .ref x45, .ref x53, .ref x55, .ref x57, .int 0, .int 0, .int 0]))]) (w1 := [(m0, .inr (9, [.int 1, .ref m1, .ref m2, .ref m3, .int 0, .int 0, .int 0]))]) hP hD [1] [0] rfl rfl (by decide) (by decide) hk1 hFc hP1 hD1
  generalize H1 = H at hP hS ⊢
  have hP : va_P (dC, dI) vwCl [(x0, .inr (7, [.ref x1, .ref x2, .ref x45, .ref x53, .ref x55, .ref x57, .int 0, .int 0, .int 0])), (m0, .inr (9, [.int 1, .ref m1, .ref m2, .ref m3, .int 0, .int 0, .int 0]))] H := hP
  have hD : va_D A [(x0, .inr (7, [.ref x1, .ref x2, .ref x45, .ref x53, .ref x55, .ref x57, .int 0, .int 0, .int 0])), (m0, .inr (9, [.int 1, .ref m1, .ref m2, .ref m3, .int 0, .int 0, .int 0]))] := hD
  refine lv_iload hx hb dL_law_2073 (lv_at hl 1 rfl) ?_
  refine lv_icmp_eq (tgt := 2080) hx hb dL_law_2075 (by decide) (fun _ => ?_) (fun c9 => absurd (by decide) c9)
  refine lv_iload hx hb dL_law_2080 (lv_at hl 1 rfl) ?_
  refine lv_if_ne (tgt := 2098) hx hb dL_law_2082 (by decide) (fun _ => ?_) (fun c9 => absurd c9 (by decide))
  refine lv_goto (tgt := 2342) hx hb dL_law_2098 (by decide) ?_
  refine lv_iinc (v := 7) (lv' := [(4, .int 7), (6, .int 0), (5, .int 1), (3, .ref o0), (2, .ref m0), (1, .ref x0), (0, .ref b)]) hx hb dL_law_2342 hl (k := 2) rfl (by decide) (by decide) rfl (fun ls hl => ?_)
  refine lv_goto (tgt := 27) hx hb dL_law_2345 (by decide) ?_
  refine lv_iload hx hb dL_law_27 (lv_at hl 0 rfl) ?_
  refine lv_aload_n hx hb dL_law_29 rfl (lv_at hl 6 rfl) ?_
  refine va_slen hx hb hX hbl hbA hS dL_law_30 ?_
  refine lv_topi (fun y5 ey5 => ?_)
  obtain rfl : y5 = 7 := ey5.trans (by decide)
  refine lv_bipush (v := 7) hx hb dL_law_31 (by decide) ?_
  refine lv_isub hx hb dL_law_33 ?_
  refine lv_topi (fun y6 ey6 => ?_)
  obtain rfl : y6 = 0 := ey6.trans (by decide)
  refine lv_icmp_gt (tgt := 2348) hx hb dL_law_34 (by decide) (fun _ => ?_) (fun c9 => absurd (by decide) c9)
  refine lv_iconst (v := 1) hx hb dL_law_2348 (by decide) ?_
  refine va_forget (fun q hq => (by have h := hS.2.2 q hq; rw [hAe] at h; exact h)) ?_
  refine W.widen (k := 600002) (n := 7302232) (Nat.le_of_ble_eq_true rfl) (Nat.le_of_ble_eq_true rfl) ?_
  exact lw_ret hx hb hr hlocks dL_law_2349
set_option maxHeartbeats 4000000 in
set_option maxRecDepth 100000 in
theorem lc_told_3 {p : Program} {e : Env} {s : State} {m : MethodId} {below : List Frame} {meth : Method} {c : Code} {l : Launch} (hst : l.stackTraces = false) {b : Nat} {xs : Nat → Int32} (C9 : lx_At p s m meth c b xs) {dC : Nat → ClassId} {dI : Nat → Nat → Nat} {ge5 gea gv5 gva gde gic gi0 : Nat} {x0 m0 x1 x2 x45 x53 x55 x57 m1 m2 m3 o0 : Nat} (hG : gv ge5 gea gv5 gva gde gic gi0 (fun q => s.heap.size ≤ q) s s.heap) {v1 : Int32} (v1_l : ((-2147483648) : Int) ≤ v1.toInt) (v1_u : v1.toInt ≤ ((-1) : Int)) {v2 : Int32} (v2_l : ((-2147483648) : Int) ≤ v2.toInt) (v2_u : v2.toInt ≤ (2147483647 : Int)) (hx1 : xs 1 = v1) (hx2 : xs 2 = v2) {H : Heap} {locs : List Loc} (hK : va_K (dC, dI) vwCl [] s) (hP : va_P (dC, dI) vwCl [(x0, .inr (7, [.ref x1, .ref x2, .ref x45, .ref x53, .ref x55, .ref x57, .int 0, .int 0, .int 0])), (m0, .inr (9, [.int 0, .ref m1, .ref m2, .ref m3, .int 0, .int 0, .int 0]))] H) (hD : va_D (fun q => s.heap.size ≤ q) [(x0, .inr (7, [.ref x1, .ref x2, .ref x45, .ref x53, .ref x55, .ref x57, .int 0, .int 0, .int 0])), (m0, .inr (9, [.int 0, .ref m1, .ref m2, .ref m3, .int 0, .int 0, .int 0]))]) (hS : va_S (fun q => s.heap.size ≤ q) s.heap H locs) {ls : Array Slot} (hl : lv_has ls 7 [(4, .int 0), (3, .ref o0), (2, .ref m0), (1, .ref x0), (0, .ref b)]) : W p l e room_1 s m #[Value.ref b] below meth c H locs 72 2748 (lw_Z below #[Value.ref b] s) (F0 m 2032 ls []) := by
  obtain ⟨hx, hb, hr, hml, hown, hts, hX, hbl, hlocks⟩ := id C9
  have hA : ∀ q : Nat, s.heap.size ≤ q → (fun q : Nat => s.heap.size ≤ q) q := fun _ h => h
  have hbA : ¬ (fun q : Nat => s.heap.size ≤ q) b := Nat.not_le.mpr hbl
  obtain ⟨A, hAe⟩ : ∃ A : Nat → Prop, A = (fun q : Nat => s.heap.size ≤ q) := ⟨_, rfl⟩
  rw [← hAe] at hG hD hS hA hbA
  obtain ⟨⟨g_AO_Text, g_AO_String, g_AO_Object, g_nm_RX1_20, g_nm_RX0_17, g_nm_RX3_31, g_nm_RX2_44, g_nm_RL_121, g_nf_RL_13, g_nf_RL_47, g_ca_IO, g_ca_IA, g_ca_IS, g_ca_IntObj, g_ca_StrObj, g_de_RT, g_de_EX, g_de_TH, g_nc_IA_IO, g_nc_IS_IO, g_nc_IS_IA⟩, ⟨g_s3, g_s5, g_sa, g_x278, g_x280, g_x282, g_x284, g_x286, g_x180, g_x238, g_x250⟩, ⟨g_o5, g_c5, g_v5, g_t5, g_oa, g_ca, g_va, g_ta, g_zc, g_zd, g_td, g_zf, g_zU, g_zN, g_zh, g_zk, g_tk, g_oi, g_vi⟩⟩ := id hG
  refine lv_aload_n hx hb dL_law_2032 rfl (lv_at hl 3 rfl) ?_
  refine lv_aload_n hx hb dL_law_2033 rfl (lv_at hl 4 rfl) ?_
  refine lv_iload hx hb dL_law_2034 (lv_at hl 0 rfl) ?_
  refine lv_iconst (v := 1) hx hb dL_law_2036 (by decide) ?_
  refine lv_iadd hx hb dL_law_2037 ?_
  refine lv_topi (fun y1 ey1 => ?_)
  obtain rfl : y1 = 1 := ey1.trans (by decide)
  refine va_sld hx hb hX hbl hbA hS (by unfold vp_in; decide) dL_law_2038 ?_
  rw [show xs (Int32.toNatClampNeg 1) = v1 from hx1]
  refine lv_aload_n hx hb dL_law_2039 rfl (lv_at hl 4 rfl) ?_
  refine lv_iload hx hb dL_law_2040 (lv_at hl 0 rfl) ?_
  refine lv_iconst (v := 2) hx hb dL_law_2042 (by decide) ?_
  refine lv_iadd hx hb dL_law_2043 ?_
  refine lv_topi (fun y2 ey2 => ?_)
  obtain rfl : y2 = 2 := ey2.trans (by decide)
  refine va_sld hx hb hX hbl hbA hS (by unfold vp_in; decide) dL_law_2044 ?_
  rw [show xs (Int32.toNatClampNeg 2) = v2 from hx2]
  refine lv_aload_n hx hb dL_law_2045 rfl (lv_at hl 1 rfl) ?_
  have hPc := hP.sub (ws' := [(x0, .inr (7, [.ref x1, .ref x2, .ref x45, .ref x53, .ref x55, .ref x57, .int 0, .int 0, .int 0]))]) [0] rfl
  have hDc := hD.sub (ws' := [(x0, .inr (7, [.ref x1, .ref x2, .ref x45, .ref x53, .ref x55, .ref x57, .int 0, .int 0, .int 0]))]) [0] (by decide) rfl
  have hKc := hK.sub (tys' := []) [] rfl
  have hFc := va_free (wc := [(x0, .inr (7, [.ref x1, .ref x2, .ref x45, .ref x53, .ref x55, .ref x57, .int 0, .int 0, .int 0]))]) hD hS hA [0] rfl
  refine va_calli (vx_runSW (As := [.ref x0, .int v1, .int v2, .ref o0]) (rest := []) ⟨hx, hb, hml, hown, hts⟩ (kx_L_told_3 l hst dC dI ge5 gea gv5 gva gde gic gi0 x0 o0 x1 x2 x45 x53 x55 x57 H.size v1 v1_l v1_u v2 v2_l v2_u) (vx_cwSW 4 hts gL_law_L_told rfl rfl rfl (by decide +kernel) ⟨Nat.le_of_ble_eq_true rfl, Nat.le_of_ble_eq_true rfl⟩) ⟨fun a U g mk q => by obtain ⟨q0, q1, qP, qK, qD, qG⟩ := q; exact ⟨q0, q1, qP, va_K.moved (u := U) (U := U.calling g mk a) (Vm.Alike.refl U.vm) qK, qD, gv.fb qG⟩, fun U hU hW => ⟨rfl, by rw [hU], by rw [hU]; exact hPc, va_K.moved hW.alike hKc, hDc.weaken (fun _ _ _ _ => trivial), gv.pass hW hU hS hFc hG⟩⟩ rfl rfl hl.1 rfl (lv_room (Nat.le_of_ble_eq_true rfl)) dL_law_2046 ⟨Nat.le_of_ble_eq_true rfl, Nat.le_of_ble_eq_true rfl⟩) hS (fun q _ h => hFc q h) hFc (fun r9 u t H1 locs ht hvm hw hB hz1 hk1 hS => ?_)
  obtain rfl := hw
  obtain ⟨hP1, hK1, hD1⟩ := hB
  rw [ht] at hP1
  have hK1 := va_K.moved hvm.symm hK1
  obtain ⟨hP, hD⟩ := va_join (wr := [(m0, .inr (9, [.int 0, .ref m1, .ref m2, .ref m3, .int 0, .int 0, .int 0]))]) (w1 := [(x0, .inr (7, [.ref x1, .ref x2, .ref x45, .ref x53, .ref x55, .ref x57, .int 0, .int 0, .int 0]))]) hP hD [0] [1] rfl rfl (by decide) (by decide) hk1 hFc hP1 hD1
  generalize H1 = H at hP hS ⊢
  have hP : va_P (dC, dI) vwCl [(m0, .inr (9, [.int 0, .ref m1, .ref m2, .ref m3, .int 0, .int 0, .int 0])), (x0, .inr (7, [.ref x1, .ref x2, .ref x45, .ref x53, .ref x55, .ref x57, .int 0, .int 0, .int 0]))] H := hP
  have hD : va_D A [(m0, .inr (9, [.int 0, .ref m1, .ref m2, .ref m3, .int 0, .int 0, .int 0])), (x0, .inr (7, [.ref x1, .ref x2, .ref x45, .ref x53, .ref x55, .ref x57, .int 0, .int 0, .int 0]))] := hD
  refine W.widen (k := 73) (n := 2754) (by omega) (by omega) ?_
  refine lv_istore (lv' := [(5, .int 1), (4, .int 0), (3, .ref o0), (2, .ref m0), (1, .ref x0), (0, .ref b)]) hx hb dL_law_2049 hl (by decide) rfl (fun ls hl => ?_)
  refine lv_aload_n hx hb dL_law_2051 rfl (lv_at hl 3 rfl) ?_
  refine lv_aload_n hx hb dL_law_2052 rfl (lv_at hl 5 rfl) ?_
  refine lv_iload hx hb dL_law_2053 (lv_at hl 1 rfl) ?_
  refine lv_iconst (v := 1) hx hb dL_law_2055 (by decide) ?_
  refine lv_iadd hx hb dL_law_2056 ?_
  refine lv_topi (fun y3 ey3 => ?_)
  obtain rfl : y3 = 1 := ey3.trans (by decide)
  refine va_sld hx hb hX hbl hbA hS (by unfold vp_in; decide) dL_law_2057 ?_
  rw [show xs (Int32.toNatClampNeg 1) = v1 from hx1]
  refine lv_aload_n hx hb dL_law_2058 rfl (lv_at hl 5 rfl) ?_
  refine lv_iload hx hb dL_law_2059 (lv_at hl 1 rfl) ?_
  refine lv_iconst (v := 2) hx hb dL_law_2061 (by decide) ?_
  refine lv_iadd hx hb dL_law_2062 ?_
  refine lv_topi (fun y4 ey4 => ?_)
  obtain rfl : y4 = 2 := ey4.trans (by decide)
  refine va_sld hx hb hX hbl hbA hS (by unfold vp_in; decide) dL_law_2063 ?_
  rw [show xs (Int32.toNatClampNeg 2) = v2 from hx2]
  have hPc := hP.sub (ws' := [(m0, .inr (9, [.int 0, .ref m1, .ref m2, .ref m3, .int 0, .int 0, .int 0]))]) [0] rfl
  have hDc := hD.sub (ws' := [(m0, .inr (9, [.int 0, .ref m1, .ref m2, .ref m3, .int 0, .int 0, .int 0]))]) [0] (by decide) rfl
  have hKc := hK.sub (tys' := []) [] rfl
  have hFc := va_free (wc := [(m0, .inr (9, [.int 0, .ref m1, .ref m2, .ref m3, .int 0, .int 0, .int 0]))]) hD hS hA [0] rfl
  refine va_calli (va_runV (As := [.int v1, .int v2]) (rest := []) ⟨hx, hb, hml, hown, hts⟩ (kx_X5_told_3 l dC dI m0 m1 m2 m3 H.size v1 v1_l v1_u v2 v2_l v2_u) (cwV 2 hts gL_law_X5_told rfl rfl rfl (by decide +kernel) ⟨Nat.le_of_ble_eq_true rfl, Nat.le_of_ble_eq_true rfl⟩) ⟨fun a U g mk q => by obtain ⟨q0, q1, qP, qK, qD⟩ := q; exact ⟨q0, q1, qP, va_K.moved (u := U) (U := U.calling g mk a) (Vm.Alike.refl U.vm) qK, qD⟩, va_recv hKc hPc (ci := 9) (q0 := 0) rfl rfl, fun U hU hW => ⟨rfl, by rw [hU], by rw [hU]; exact hPc, va_K.moved hW.alike hKc, hDc.weaken (fun _ _ _ _ => trivial)⟩⟩ rfl rfl hl.1 rfl (lv_room (Nat.le_of_ble_eq_true rfl)) dL_law_2064 ⟨Nat.le_of_ble_eq_true rfl, Nat.le_of_ble_eq_true rfl⟩) hS (fun q _ h => hFc q h) hFc (fun r9 u t H1 locs ht hvm hw hB hz1 hk1 hS => ?_)
  obtain rfl := hw
  obtain ⟨hP1, hK1, hD1⟩ := hB
  rw [ht] at hP1
  have hK1 := va_K.moved hvm.symm hK1
  obtain ⟨hP, hD⟩ := va_join (wr := [(x0, .inr (7, [.ref x1, .ref x2, .ref x45, .ref x53, .ref x55, .ref x57, .int 0, .int 0, .int 0]))]) (w1 := [(m0, .inr (9, [.int 1, .ref m1, .ref m2, .ref m3, .int 0, .int 0, .int 0]))]) hP hD [0] [1] rfl rfl (by decide) (by decide) hk1 hFc hP1 hD1
  generalize H1 = H at hP hS ⊢
  have hP : va_P (dC, dI) vwCl [(x0, .inr (7, [.ref x1, .ref x2, .ref x45, .ref x53, .ref x55, .ref x57, .int 0, .int 0, .int 0])), (m0, .inr (9, [.int 1, .ref m1, .ref m2, .ref m3, .int 0, .int 0, .int 0]))] H := hP
  have hD : va_D A [(x0, .inr (7, [.ref x1, .ref x2, .ref x45, .ref x53, .ref x55, .ref x57, .int 0, .int 0, .int 0])), (m0, .inr (9, [.int 1, .ref m1, .ref m2, .ref m3, .int 0, .int 0, .int 0]))] := hD
  refine lv_istore (lv' := [(6, .int 0), (5, .int 1), (4, .int 0), (3, .ref o0), (2, .ref m0), (1, .ref x0), (0, .ref b)]) hx hb dL_law_2067 hl (by decide) rfl (fun ls hl => ?_)
  refine lv_aload_n hx hb dL_law_2069 rfl (lv_at hl 4 rfl) ?_
  have hPc := hP.sub (ws' := [(m0, .inr (9, [.int 1, .ref m1, .ref m2, .ref m3, .int 0, .int 0, .int 0]))]) [1] rfl
  have hDc := hD.sub (ws' := [(m0, .inr (9, [.int 1, .ref m1, .ref m2, .ref m3, .int 0, .int 0, .int 0]))]) [1] (by decide) rfl
  have hKc := hK.sub (tys' := []) [] rfl
  have hFc := va_free (wc := [(m0, .inr (9, [.int 1, .ref m1, .ref m2, .ref m3, .int 0, .int 0, .int 0]))]) hD hS hA [1] rfl
  refine va_calli (va_runV (As := []) (rest := []) ⟨hx, hb, hml, hown, hts⟩ (kx_X5_thrown_0 l dC dI m0 m1 m2 m3 H.size) (cwV 0 hts gL_law_X5_thrown rfl rfl rfl (by decide +kernel) ⟨Nat.le_of_ble_eq_true rfl, Nat.le_of_ble_eq_true rfl⟩) ⟨fun a U g mk q => by obtain ⟨q0, q1, qP, qK, qD⟩ := q; exact ⟨q0, q1, qP, va_K.moved (u := U) (U := U.calling g mk a) (Vm.Alike.refl U.vm) qK, qD⟩, va_recv hKc hPc (ci := 9) (q0 := 0) rfl rfl, fun U hU hW => ⟨rfl, by rw [hU], by rw [hU]; exact hPc, va_K.moved hW.alike hKc, hDc.weaken (fun _ _ _ _ => trivial)⟩⟩ rfl rfl hl.1 rfl (lv_room (Nat.le_of_ble_eq_true rfl)) dL_law_2070 ⟨Nat.le_of_ble_eq_true rfl, Nat.le_of_ble_eq_true rfl⟩) hS (fun q _ h => hFc q h) hFc (fun r9 u t H1 locs ht hvm hw hB hz1 hk1 hS => ?_)
  obtain rfl := hw
  obtain ⟨hP1, hK1, hD1⟩ := hB
  rw [ht] at hP1
  have hK1 := va_K.moved hvm.symm hK1
  obtain ⟨hP, hD⟩ := va_join (wr := [(x0, .inr (7, [.ref x1, .ref x2, .ref x45, .ref x53, .ref x55, .ref x57, .int 0, .int 0, .int 0]))]) (w1 := [(m0, .inr (9, [.int 1, .ref m1, .ref m2, .ref m3, .int 0, .int 0, .int 0]))]) hP hD [1] [0] rfl rfl (by decide) (by decide) hk1 hFc hP1 hD1
  generalize H1 = H at hP hS ⊢
  have hP : va_P (dC, dI) vwCl [(x0, .inr (7, [.ref x1, .ref x2, .ref x45, .ref x53, .ref x55, .ref x57, .int 0, .int 0, .int 0])), (m0, .inr (9, [.int 1, .ref m1, .ref m2, .ref m3, .int 0, .int 0, .int 0]))] H := hP
  have hD : va_D A [(x0, .inr (7, [.ref x1, .ref x2, .ref x45, .ref x53, .ref x55, .ref x57, .int 0, .int 0, .int 0])), (m0, .inr (9, [.int 1, .ref m1, .ref m2, .ref m3, .int 0, .int 0, .int 0]))] := hD
  refine lv_iload hx hb dL_law_2073 (lv_at hl 1 rfl) ?_
  refine lv_icmp_eq (tgt := 2080) hx hb dL_law_2075 (by decide) (fun _ => ?_) (fun c9 => absurd (by decide) c9)
  refine lv_iload hx hb dL_law_2080 (lv_at hl 1 rfl) ?_
  refine lv_if_ne (tgt := 2098) hx hb dL_law_2082 (by decide) (fun _ => ?_) (fun c9 => absurd c9 (by decide))
  refine lv_goto (tgt := 2342) hx hb dL_law_2098 (by decide) ?_
  refine lv_iinc (v := 7) (lv' := [(4, .int 7), (6, .int 0), (5, .int 1), (3, .ref o0), (2, .ref m0), (1, .ref x0), (0, .ref b)]) hx hb dL_law_2342 hl (k := 2) rfl (by decide) (by decide) rfl (fun ls hl => ?_)
  refine lv_goto (tgt := 27) hx hb dL_law_2345 (by decide) ?_
  refine lv_iload hx hb dL_law_27 (lv_at hl 0 rfl) ?_
  refine lv_aload_n hx hb dL_law_29 rfl (lv_at hl 6 rfl) ?_
  refine va_slen hx hb hX hbl hbA hS dL_law_30 ?_
  refine lv_topi (fun y5 ey5 => ?_)
  obtain rfl : y5 = 7 := ey5.trans (by decide)
  refine lv_bipush (v := 7) hx hb dL_law_31 (by decide) ?_
  refine lv_isub hx hb dL_law_33 ?_
  refine lv_topi (fun y6 ey6 => ?_)
  obtain rfl : y6 = 0 := ey6.trans (by decide)
  refine lv_icmp_gt (tgt := 2348) hx hb dL_law_34 (by decide) (fun _ => ?_) (fun c9 => absurd (by decide) c9)
  refine lv_iconst (v := 1) hx hb dL_law_2348 (by decide) ?_
  refine va_forget (fun q hq => (by have h := hS.2.2 q hq; rw [hAe] at h; exact h)) ?_
  refine W.widen (k := 600002) (n := 7302232) (Nat.le_of_ble_eq_true rfl) (Nat.le_of_ble_eq_true rfl) ?_
  exact lw_ret hx hb hr hlocks dL_law_2349
