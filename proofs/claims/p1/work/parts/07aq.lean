set_option maxHeartbeats 4000000 in
set_option maxRecDepth 100000 in
theorem kx_L_cut_5 (l : Launch) (hst : l.stackTraces = false) (dC : Nat → ClassId) (dI : Nat → Nat → Nat) (ge5 gea gv5 gva gde gic gi0 : Nat) (h0 : Nat) (h1 : Nat) (h2 : Nat) (h3 : Nat) (h4 : Nat) (h5 : Nat) (z0 : Nat) (z1 : Nat) (z2 : Nat) (z3 : Nat) (z4 : Nat) (z5 : Nat) (z6 : Nat) (z7 : Nat) (z8 : Nat) (z9 : Nat) (k0 : ClassId) (sz : Nat) (i0 : Int32) (i0_l : (0 : Int) ≤ i0.toInt) (i0_u : i0.toInt ≤ (3 : Int)) (i1 : Int32) (i1_l : (1 : Int) ≤ i1.toInt) (i1_u : i1.toInt ≤ (2147483647 : Int)) : Met l yL_cut wsL_cut ({ frames := 8, cells := 1, slots := 6, locals := 164 }) (va_Pc [.ref h0, .int i0, .int 0, .int i1, .ref z0] (fun U => U.heap.size = sz ∧ va_P (dC, dI) vwCl [(h0, .inr (7, [.ref h1, .ref z1, .ref z2, .ref z3, .ref z4, .ref z5, .int 0, .int 0, .int 0])), (h1, .inl (k0, 4, .inr (.inr (.inr (.inr (va_up (va_up (va_up (va_up (fun _ => none) 0 (some h2)) 1 (some h3)) 2 (some h4)) 3 (some h5))))))), (h2, .inr (6, [.ref z6, .int 0])), (h3, .inr (6, [.ref z7, .int 0])), (h4, .inr (6, [.ref z8, .int 0])), (h5, .inr (6, [.ref z9, .int 0]))] U.heap ∧ va_K (dC, dI) vwCl [(k0, .object "Rewriterope$Text")] U ∧ va_D (fun _ => True) [(h0, .inr (7, [.ref h1, .ref z1, .ref z2, .ref z3, .ref z4, .ref z5, .int 0, .int 0, .int 0])), (h1, .inl (k0, 4, .inr (.inr (.inr (.inr (va_up (va_up (va_up (va_up (fun _ => none) 0 (some h2)) 1 (some h3)) 2 (some h4)) 3 (some h5))))))), (h2, .inr (6, [.ref z6, .int 0])), (h3, .inr (6, [.ref z7, .int 0])), (h4, .inr (6, [.ref z8, .int 0])), (h5, .inr (6, [.ref z9, .int 0]))] ∧ gv ge5 gea gv5 gva gde gic gi0 (va_A [(h0, .inr (7, [.ref h1, .ref z1, .ref z2, .ref z3, .ref z4, .ref z5, .int 0, .int 0, .int 0])), (h1, .inl (k0, 4, .inr (.inr (.inr (.inr (va_up (va_up (va_up (va_up (fun _ => none) 0 (some h2)) 1 (some h3)) 2 (some h4)) 3 (some h5))))))), (h2, .inr (6, [.ref z6, .int 0])), (h3, .inr (6, [.ref z7, .int 0])), (h4, .inr (6, [.ref z8, .int 0])), (h5, .inr (6, [.ref z9, .int 0]))] sz) U U.heap)) (va_Qi (fun (r : Int32) (_ : Unit) => r = 1) (fun (_ : Unit) (t : State) => va_P (dC, dI) vwCl [(h0, .inr (7, [.ref h1, .ref z1, .ref z2, .ref z3, .ref z4, .ref z5, .int 0, .int 0, .int 0])), (h1, .inl (k0, 4, .inr (.inr (.inr (.inr (va_up (va_up (va_up (va_up (fun _ => none) 0 (some h2)) 1 (some h3)) 2 (some h4)) 3 (some h5))))))), (h2, .inr (6, [.ref z6, .int 0])), (h3, .inr (6, [.ref z7, .int 0])), (h4, .inr (6, [.ref z8, .int 0])), (h5, .inr (6, [.ref z9, .int 0]))] t.heap ∧ va_K (dC, dI) vwCl [(k0, .object "Rewriterope$Text")] t ∧ va_D (va_A [(h0, .inr (7, [.ref h1, .ref z1, .ref z2, .ref z3, .ref z4, .ref z5, .int 0, .int 0, .int 0])), (h1, .inl (k0, 4, .inr (.inr (.inr (.inr (va_up (va_up (va_up (va_up (fun _ => none) 0 (some h2)) 1 (some h3)) 2 (some h4)) 3 (some h5))))))), (h2, .inr (6, [.ref z6, .int 0])), (h3, .inr (6, [.ref z7, .int 0])), (h4, .inr (6, [.ref z8, .int 0])), (h5, .inr (6, [.ref z9, .int 0]))] sz) [(h0, .inr (7, [.ref h1, .ref z1, .ref z2, .ref z3, .ref z4, .ref z5, .int 0, .int 0, .int 0])), (h1, .inl (k0, 4, .inr (.inr (.inr (.inr (va_up (va_up (va_up (va_up (fun _ => none) 0 (some h2)) 1 (some h3)) 2 (some h4)) 3 (some h5))))))), (h2, .inr (6, [.ref z6, .int 0])), (h3, .inr (6, [.ref z7, .int 0])), (h4, .inr (6, [.ref z8, .int 0])), (h5, .inr (6, [.ref z9, .int 0]))]) (va_A [(h0, .inr (7, [.ref h1, .ref z1, .ref z2, .ref z3, .ref z4, .ref z5, .int 0, .int 0, .int 0])), (h1, .inl (k0, 4, .inr (.inr (.inr (.inr (va_up (va_up (va_up (va_up (fun _ => none) 0 (some h2)) 1 (some h3)) 2 (some h4)) 3 (some h5))))))), (h2, .inr (6, [.ref z6, .int 0])), (h3, .inr (6, [.ref z7, .int 0])), (h4, .inr (6, [.ref z8, .int 0])), (h5, .inr (6, [.ref z9, .int 0]))] sz)) 1 6 (va_A [(h0, .inr (7, [.ref h1, .ref z1, .ref z2, .ref z3, .ref z4, .ref z5, .int 0, .int 0, .int 0])), (h1, .inl (k0, 4, .inr (.inr (.inr (.inr (va_up (va_up (va_up (va_up (fun _ => none) 0 (some h2)) 1 (some h3)) 2 (some h4)) 3 (some h5))))))), (h2, .inr (6, [.ref z6, .int 0])), (h3, .inr (6, [.ref z7, .int 0])), (h4, .inr (6, [.ref z8, .int 0])), (h5, .inr (6, [.ref z9, .int 0]))] sz) := by
  refine kz_ofWH (cc := cL_cut) (maxL := 6) (ret := (some .int)) (hh := [(0, 13, 16, 19), (0, 13, 20, 21)]) (by decide) rfl ?_
  intro p e s m args below meth c s₁ B hml hv
  obtain ⟨rfl, hsz, hP, hK, hD0, hG⟩ := hv
  have hx := B.exec
  have hb := B.bytes
  have hr := B.returns
  have hts := atoms_spec (ws := wsL_cut) B.pre
  have hown : s.vm.findClass RL = some m.cls := findClass_of_methodNamed B.named
  have htab := vx_table (x := yL_cut) B (hts (.codeWith yL_cut cL_cut 6 (some .int) [(0, 13, 16, 19), (0, 13, 20, 21)]) (by decide +kernel))
  have hlocks := B.notSynchronized
  subst hsz
  have hD := hD0.self (sz := s.heap.size)
  generalize hAe : va_A [(h0, .inr (7, [.ref h1, .ref z1, .ref z2, .ref z3, .ref z4, .ref z5, .int 0, .int 0, .int 0])), (h1, .inl (k0, 4, .inr (.inr (.inr (.inr (va_up (va_up (va_up (va_up (fun _ => none) 0 (some h2)) 1 (some h3)) 2 (some h4)) 3 (some h5))))))), (h2, .inr (6, [.ref z6, .int 0])), (h3, .inr (6, [.ref z7, .int 0])), (h4, .inr (6, [.ref z8, .int 0])), (h5, .inr (6, [.ref z9, .int 0]))] s.heap.size = A at hD hG ⊢
  obtain ⟨⟨g_AO_Text, g_AO_String, g_AO_Object, g_nm_RX1_20, g_nm_RX0_17, g_nm_RX3_31, g_nm_RX2_44, g_nm_RL_121, g_nf_RL_13, g_nf_RL_47, g_ca_IO, g_ca_IA, g_ca_IS, g_ca_IntObj, g_ca_StrObj, g_de_RT, g_de_EX, g_de_TH, g_nc_IA_IO, g_nc_IS_IO, g_nc_IS_IA⟩, ⟨g_s3, g_s5, g_sa, g_x278, g_x280, g_x282, g_x284, g_x286, g_x180, g_x238, g_x250⟩, ⟨g_o5, g_c5, g_v5, g_t5, g_oa, g_ca, g_va, g_ta, g_zc, g_zd, g_td, g_zf, g_zU, g_zN, g_zh, g_zk, g_tk, g_oi, g_vi⟩⟩ := id hG
  have hA : ∀ q : Nat, s.heap.size ≤ q → A q := fun q h => by rw [← hAe]; exact Or.inr h
  have hS : va_S A s.heap s.heap [] := va_S.rf
  have hP : va_P (dC, dI) vwCl [(h0, .inr (7, [.ref h1, .ref z1, .ref z2, .ref z3, .ref z4, .ref z5, .int 0, .int 0, .int 0])), (h1, .inl (k0, 4, .inr (.inr (.inr (.inr (va_up (va_up (va_up (va_up (fun _ => none) 0 (some h2)) 1 (some h3)) 2 (some h4)) 3 (some h5))))))), (h2, .inr (6, [.ref z6, .int 0])), (h3, .inr (6, [.ref z7, .int 0])), (h4, .inr (6, [.ref z8, .int 0])), (h5, .inr (6, [.ref z9, .int 0]))] s.heap := hP
  have hl := lv_entry ([.ref h0, .int i0, .int 0, .int i1, .ref z0]) (n := 6) (Nat.le_of_ble_eq_true rfl)
  rw [lg_entry_eq]
  generalize (lg_sl ([.ref h0, .int i0, .int 0, .int i1, .ref z0]) ++ List.replicate (6 - (lg_sl ([.ref h0, .int i0, .int 0, .int i1, .ref z0])).length) Slot.unset).toArray = ls at hl ⊢
  have hl : lv_has ls 6 [(0, .ref h0), (1, .int i0), (2, .int 0), (3, .int i1), (4, .ref z0)] := hl
  refine lv_aload hx hb dL_cut_0 (lv_at hl 4 rfl) ?_
  refine lv_aload_n hx hb dL_cut_2 rfl (lv_at hl 0 rfl) ?_
  refine lv_iload_n hx hb dL_cut_3 rfl (lv_at hl 1 rfl) ?_
  refine lv_iload_n hx hb dL_cut_4 rfl (lv_at hl 2 rfl) ?_
  refine lv_iload_n hx hb dL_cut_5 rfl (lv_at hl 3 rfl) ?_
  have hPc := hP.sub (ws' := [(h0, .inr (7, [.ref h1, .ref z1, .ref z2, .ref z3, .ref z4, .ref z5, .int 0, .int 0, .int 0])), (h1, .inl (k0, 4, .inr (.inr (.inr (.inr (va_up (va_up (va_up (va_up (fun _ => none) 0 (some h2)) 1 (some h3)) 2 (some h4)) 3 (some h5))))))), (h2, .inr (6, [.ref z6, .int 0])), (h3, .inr (6, [.ref z7, .int 0])), (h4, .inr (6, [.ref z8, .int 0])), (h5, .inr (6, [.ref z9, .int 0]))]) [0, 1, 2, 3, 4, 5] rfl
  have hDc := hD.sub (ws' := [(h0, .inr (7, [.ref h1, .ref z1, .ref z2, .ref z3, .ref z4, .ref z5, .int 0, .int 0, .int 0])), (h1, .inl (k0, 4, .inr (.inr (.inr (.inr (va_up (va_up (va_up (va_up (fun _ => none) 0 (some h2)) 1 (some h3)) 2 (some h4)) 3 (some h5))))))), (h2, .inr (6, [.ref z6, .int 0])), (h3, .inr (6, [.ref z7, .int 0])), (h4, .inr (6, [.ref z8, .int 0])), (h5, .inr (6, [.ref z9, .int 0]))]) [0, 1, 2, 3, 4, 5] (by decide) rfl
  have hKc := hK.sub (tys' := [(k0, .object "Rewriterope$Text")]) [0] rfl
  have hFc := va_free (wc := [(h0, .inr (7, [.ref h1, .ref z1, .ref z2, .ref z3, .ref z4, .ref z5, .int 0, .int 0, .int 0])), (h1, .inl (k0, 4, .inr (.inr (.inr (.inr (va_up (va_up (va_up (va_up (fun _ => none) 0 (some h2)) 1 (some h3)) 2 (some h4)) 3 (some h5))))))), (h2, .inr (6, [.ref z6, .int 0])), (h3, .inr (6, [.ref z7, .int 0])), (h4, .inr (6, [.ref z8, .int 0])), (h5, .inr (6, [.ref z9, .int 0]))]) hD hS hA [0, 1, 2, 3, 4, 5] rfl
  refine vx_calli (vx_runV (As := [.int i0, .int 0, .int i1]) (rest := [.ref z0]) ⟨hx, hb, hml, hown, hts⟩ (kx_X3_cut_s3 l hst dC dI ge5 gea gv5 gva gde gic gi0 h0 h1 h2 h3 h4 h5 z1 z2 z3 z4 z5 z6 z7 z8 z9 k0 s.heap.size i1 i1_l i1_u i0 i0_l i0_u) (cwV 3 hts gL_cut_X3_cut rfl rfl rfl (by decide +kernel) ⟨Nat.le_of_ble_eq_true rfl, Nat.le_of_ble_eq_true rfl⟩) ⟨fun a U g mk q => by obtain ⟨q0, q1, qP, qK, qD, qG⟩ := q; exact ⟨q0, q1, qP, va_K.moved (u := U) (U := U.calling g mk a) (Vm.Alike.refl U.vm) qK, qD, gv.fb qG⟩, va_recv hKc hPc (ci := 7) (q0 := 0) rfl rfl, fun U hU hW => ⟨rfl, by rw [hU], by rw [hU]; exact hPc, va_K.moved hW.alike hKc, hDc.weaken (fun _ _ _ _ => trivial), gv.pass hW hU hS hFc hG⟩⟩ rfl rfl hl.1 rfl (lv_room (Nat.le_of_ble_eq_true rfl)) dL_cut_6 ⟨Nat.le_of_ble_eq_true rfl, Nat.le_of_ble_eq_true rfl⟩) hS (fun q _ h => hFc q h) hFc (fun q _ h => hFc q h) (fun E ce q9 u t H1 locs ht hvm hpx hB hz1 hk1 hS hce hcv hcl => ?_) (fun r9 u t H1 locs ht hvm hw hB hz1 hk1 hS => hw.elim)
  obtain ⟨rfl, hP1, hK1, hD1⟩ := hB
  rw [ht] at hP1
  have hK1 := va_K.moved hvm.symm hK1
  obtain ⟨hP, hD⟩ := va_join (wr := []) (w1 := [(h0, .inr (7, [.ref h1, .ref z1, .ref z2, .ref z3, .ref z4, .ref z5, .int 0, .int 0, .int 0])), (h1, .inl (k0, 4, .inr (.inr (.inr (.inr (va_up (va_up (va_up (va_up (fun _ => none) 0 (some h2)) 1 (some h3)) 2 (some h4)) 3 (some h5))))))), (h2, .inr (6, [.ref z6, .int 0])), (h3, .inr (6, [.ref z7, .int 0])), (h4, .inr (6, [.ref z8, .int 0])), (h5, .inr (6, [.ref z9, .int 0]))]) hP hD [0, 1, 2, 3, 4, 5] [] rfl rfl (by decide) (by decide) hk1 hFc hP1 hD1
  generalize H1 = H at hP hS hce ⊢
  have hP : va_P (dC, dI) vwCl [(h0, .inr (7, [.ref h1, .ref z1, .ref z2, .ref z3, .ref z4, .ref z5, .int 0, .int 0, .int 0])), (h1, .inl (k0, 4, .inr (.inr (.inr (.inr (va_up (va_up (va_up (va_up (fun _ => none) 0 (some h2)) 1 (some h3)) 2 (some h4)) 3 (some h5))))))), (h2, .inr (6, [.ref z6, .int 0])), (h3, .inr (6, [.ref z7, .int 0])), (h4, .inr (6, [.ref z8, .int 0])), (h5, .inr (6, [.ref z9, .int 0]))] H := hP
  have hD : va_D A [(h0, .inr (7, [.ref h1, .ref z1, .ref z2, .ref z3, .ref z4, .ref z5, .int 0, .int 0, .int 0])), (h1, .inl (k0, 4, .inr (.inr (.inr (.inr (va_up (va_up (va_up (va_up (fun _ => none) 0 (some h2)) 1 (some h3)) 2 (some h4)) 3 (some h5))))))), (h2, .inr (6, [.ref z6, .int 0])), (h3, .inr (6, [.ref z7, .int 0])), (h4, .inr (6, [.ref z8, .int 0])), (h5, .inr (6, [.ref z9, .int 0]))] := hD
  refine vx_catch (own := RL) (name := "java/lang/IndexOutOfBoundsException") hown (tableOf []) ⟨0, 13, 16, 19⟩ (tableOf [(0, 13, 20, 21)]) (by rw [htab]; rfl) (fun z hz => nomatch hz) (by decide +kernel) (by decide) (hts (.classLink RL 19 "java/lang/IndexOutOfBoundsException") (by decide +kernel)) (va_Nw.use rfl g_ca_IO) hce hcv hcl ?_
  refine W.eq (g2 := F0 m 16 ls [.ref q9]) rfl ?_
  refine lv_astore (lv' := [(5, .ref q9), (0, .ref h0), (1, .int i0), (2, .int 0), (3, .int i1), (4, .ref z0)]) hx hb dL_cut_16 hl (by decide) rfl (fun ls hl => ?_)
  refine lv_iconst (v := 1) hx hb dL_cut_18 (by decide) ?_
  exact W.iret (v := 1) hx hb hr (fun t ht hW => ⟨⟨1, (), rfl, rfl, by rw [ht]; exact hP, va_K.moved hW.alike hK, hD⟩, hS.F ht⟩) hS.2.2 dL_cut_19
set_option maxHeartbeats 4000000 in
set_option maxRecDepth 100000 in
theorem kx_X5_cut_5 (l : Launch) (dC : Nat → ClassId) (dI : Nat → Nat → Nat) (ge5 gea gv5 gva gde gic gi0 : Nat) (h0 : Nat) (h1 : Nat) (z0 : Nat) (z1 : Nat) (k0 : ClassId) (sz : Nat) (i0 : Int32) (i0_l : (0 : Int) ≤ i0.toInt) (i0_u : i0.toInt ≤ (3 : Int)) (i1 : Int32) (i1_l : (1 : Int) ≤ i1.toInt) (i1_u : i1.toInt ≤ (2147483647 : Int)) : Met l yX5_cut wsX5_cut ({ frames := 2, cells := 0, slots := 0, locals := 42 }) (va_Pc [.ref h0, .int i0, .int 0, .int i1] (fun U => U.heap.size = sz ∧ va_P (dC, dI) vwCl [(h0, .inr (9, [.int 0, .ref h1, .ref z0, .ref z1, .int 0, .int 0, .int 0])), (h1, .inl (k0, 4, .inr (.inr (.inr (.inr (va_up (va_up (va_up (va_up (fun _ => none) 0 (some ge5)) 1 (some ge5)) 2 (some ge5)) 3 (some ge5)))))))] U.heap ∧ va_K (dC, dI) vwCl [(k0, .object "java/lang/String")] U ∧ va_D (fun _ => True) [(h0, .inr (9, [.int 0, .ref h1, .ref z0, .ref z1, .int 0, .int 0, .int 0])), (h1, .inl (k0, 4, .inr (.inr (.inr (.inr (va_up (va_up (va_up (va_up (fun _ => none) 0 (some ge5)) 1 (some ge5)) 2 (some ge5)) 3 (some ge5)))))))] ∧ gv ge5 gea gv5 gva gde gic gi0 (va_A [(h0, .inr (9, [.int 0, .ref h1, .ref z0, .ref z1, .int 0, .int 0, .int 0])), (h1, .inl (k0, 4, .inr (.inr (.inr (.inr (va_up (va_up (va_up (va_up (fun _ => none) 0 (some ge5)) 1 (some ge5)) 2 (some ge5)) 3 (some ge5)))))))] sz) U U.heap)) (va_Qi (fun (r : Int32) (_ : Unit) => r = 0) (fun (_ : Unit) (t : State) => va_P (dC, dI) vwCl [(h0, .inr (9, [.int 1, .ref h1, .ref z0, .ref z1, .int 0, .int 0, .int 0]))] t.heap ∧ va_K (dC, dI) vwCl [(k0, .object "java/lang/String")] t ∧ va_D (va_A [(h0, .inr (9, [.int 0, .ref h1, .ref z0, .ref z1, .int 0, .int 0, .int 0])), (h1, .inl (k0, 4, .inr (.inr (.inr (.inr (va_up (va_up (va_up (va_up (fun _ => none) 0 (some ge5)) 1 (some ge5)) 2 (some ge5)) 3 (some ge5)))))))] sz) [(h0, .inr (9, [.int 1, .ref h1, .ref z0, .ref z1, .int 0, .int 0, .int 0]))]) (va_A [(h0, .inr (9, [.int 0, .ref h1, .ref z0, .ref z1, .int 0, .int 0, .int 0])), (h1, .inl (k0, 4, .inr (.inr (.inr (.inr (va_up (va_up (va_up (va_up (fun _ => none) 0 (some ge5)) 1 (some ge5)) 2 (some ge5)) 3 (some ge5)))))))] sz)) 0 0 (va_A [(h0, .inr (9, [.int 0, .ref h1, .ref z0, .ref z1, .int 0, .int 0, .int 0])), (h1, .inl (k0, 4, .inr (.inr (.inr (.inr (va_up (va_up (va_up (va_up (fun _ => none) 0 (some ge5)) 1 (some ge5)) 2 (some ge5)) 3 (some ge5)))))))] sz) := by
  refine Met.ofW (cc := cX5_cut) (maxL := 4) (ret := (some .int)) (by decide) rfl ?_
  intro p e s m args below meth c s₁ B hml hv
  obtain ⟨rfl, hsz, hP, hK, hD0, hG⟩ := hv
  have hx := B.exec
  have hb := B.bytes
  have hr := B.returns
  have hts := atoms_spec (ws := wsX5_cut) B.pre
  have hown : s.vm.findClass RX5 = some m.cls := findClass_of_methodNamed B.named
  have hlocks := B.notSynchronized
  subst hsz
  have hD := hD0.self (sz := s.heap.size)
  generalize hAe : va_A [(h0, .inr (9, [.int 0, .ref h1, .ref z0, .ref z1, .int 0, .int 0, .int 0])), (h1, .inl (k0, 4, .inr (.inr (.inr (.inr (va_up (va_up (va_up (va_up (fun _ => none) 0 (some ge5)) 1 (some ge5)) 2 (some ge5)) 3 (some ge5)))))))] s.heap.size = A at hD hG ⊢
  obtain ⟨⟨g_AO_Text, g_AO_String, g_AO_Object, g_nm_RX1_20, g_nm_RX0_17, g_nm_RX3_31, g_nm_RX2_44, g_nm_RL_121, g_nf_RL_13, g_nf_RL_47, g_ca_IO, g_ca_IA, g_ca_IS, g_ca_IntObj, g_ca_StrObj, g_de_RT, g_de_EX, g_de_TH, g_nc_IA_IO, g_nc_IS_IO, g_nc_IS_IA⟩, ⟨g_s3, g_s5, g_sa, g_x278, g_x280, g_x282, g_x284, g_x286, g_x180, g_x238, g_x250⟩, ⟨g_o5, g_c5, g_v5, g_t5, g_oa, g_ca, g_va, g_ta, g_zc, g_zd, g_td, g_zf, g_zU, g_zN, g_zh, g_zk, g_tk, g_oi, g_vi⟩⟩ := id hG
  have hA : ∀ q : Nat, s.heap.size ≤ q → A q := fun q h => by rw [← hAe]; exact Or.inr h
  have hS : va_S A s.heap s.heap [] := va_S.rf
  have hP : va_P (dC, dI) vwCl [(h0, .inr (9, [.int 0, .ref h1, .ref z0, .ref z1, .int 0, .int 0, .int 0])), (h1, .inl (k0, 4, .inr (.inr (.inr (.inr (va_up (va_up (va_up (va_up (fun _ => none) 0 (some ge5)) 1 (some ge5)) 2 (some ge5)) 3 (some ge5)))))))] s.heap := hP
  have hl := lv_entry ([.ref h0, .int i0, .int 0, .int i1]) (n := 4) (Nat.le_of_ble_eq_true rfl)
  rw [lg_entry_eq]
  generalize (lg_sl ([.ref h0, .int i0, .int 0, .int i1]) ++ List.replicate (4 - (lg_sl ([.ref h0, .int i0, .int 0, .int i1])).length) Slot.unset).toArray = ls at hl ⊢
  have hl : lv_has ls 4 [(0, .ref h0), (1, .int i0), (2, .int 0), (3, .int i1)] := hl
  refine lv_aload_n hx hb dX5_cut_0 rfl (lv_at hl 0 rfl) ?_
  refine lv_iload_n hx hb dX5_cut_1 rfl (lv_at hl 1 rfl) ?_
  have hPc := hP.sub (ws' := []) [] rfl
  have hDc := hD.sub (ws' := []) [] (by decide) rfl
  have hKc := hK.sub (tys' := []) [] rfl
  have hFc := va_free (wc := []) hD hS hA [] rfl
  refine va_calli (va_runS (As := [.int i0]) (rest := [.ref h0]) ⟨hx, hb, hml, hown, hts⟩ (kx_X5_isNo_1 l dC dI s.heap.size i0 i0_l i0_u) (cwS 1 hts gX5_cut_X5_isNo rfl rfl rfl (by decide +kernel) ⟨Nat.le_of_ble_eq_true rfl, Nat.le_of_ble_eq_true rfl⟩) ⟨fun a U g mk q => by obtain ⟨q0, q1, qP, qK, qD⟩ := q; exact ⟨q0, q1, qP, va_K.moved (u := U) (U := U.calling g mk a) (Vm.Alike.refl U.vm) qK, qD⟩, fun U hU hW => ⟨rfl, by rw [hU], by rw [hU]; exact hPc, va_K.moved hW.alike hKc, hDc.weaken (fun _ _ _ _ => trivial)⟩⟩ rfl rfl hl.1 rfl (lv_room (Nat.le_of_ble_eq_true rfl)) dX5_cut_2 ⟨Nat.le_of_ble_eq_true rfl, Nat.le_of_ble_eq_true rfl⟩) hS (fun q _ h => hFc q h) hFc (fun r9 u t H1 locs ht hvm hw hB hz1 hk1 hS => ?_)
  obtain rfl := hw
  obtain ⟨hP1, hK1, hD1⟩ := hB
  rw [ht] at hP1
  have hK1 := va_K.moved hvm.symm hK1
  obtain ⟨hP, hD⟩ := va_join (wr := [(h0, .inr (9, [.int 0, .ref h1, .ref z0, .ref z1, .int 0, .int 0, .int 0])), (h1, .inl (k0, 4, .inr (.inr (.inr (.inr (va_up (va_up (va_up (va_up (fun _ => none) 0 (some ge5)) 1 (some ge5)) 2 (some ge5)) 3 (some ge5)))))))]) (w1 := []) hP hD [] [0, 1] rfl rfl (by decide) (by decide) hk1 hFc hP1 hD1
  generalize H1 = H at hP hS ⊢
  have hP : va_P (dC, dI) vwCl [(h0, .inr (9, [.int 0, .ref h1, .ref z0, .ref z1, .int 0, .int 0, .int 0])), (h1, .inl (k0, 4, .inr (.inr (.inr (.inr (va_up (va_up (va_up (va_up (fun _ => none) 0 (some ge5)) 1 (some ge5)) 2 (some ge5)) 3 (some ge5)))))))] H := hP
  have hD : va_D A [(h0, .inr (9, [.int 0, .ref h1, .ref z0, .ref z1, .int 0, .int 0, .int 0])), (h1, .inl (k0, 4, .inr (.inr (.inr (.inr (va_up (va_up (va_up (va_up (fun _ => none) 0 (some ge5)) 1 (some ge5)) 2 (some ge5)) 3 (some ge5)))))))] := hD
  refine lv_if_ne (tgt := 42) hx hb dX5_cut_5 (by decide) (fun c9 => absurd (by decide) c9) (fun _ => ?_)
  refine lv_iload_n hx hb dX5_cut_8 rfl (lv_at hl 2 rfl) ?_
  refine lv_iconst (v := 0) hx hb dX5_cut_9 (by decide) ?_
  refine lv_aload_n hx hb dX5_cut_10 rfl (lv_at hl 0 rfl) ?_
  refine va_get (D := (dC, dI)) (ci := 9) (v := .ref h1) (C := RX5) (T := TX5) (N := 7) hx hb hts (by decide +kernel) hown hK hP 0 rfl rfl 1 (by decide) (hts (.fieldLink RX5 11 "RewriteropeModel" "ropes" "[Ljava/lang/String;") (by decide +kernel)) (fun _ h9 => h9) rfl dX5_cut_11 ?_
  refine lv_iload_n hx hb dX5_cut_14 rfl (lv_at hl 1 rfl) ?_
  refine va_aldq (D := (dC, dI)) hx hb hK hP 1 0 rfl rfl (kz_in4 i0_l i0_u) dX5_cut_15 ?_
  rw [show (va_up (va_up (va_up (va_up (fun _ => none) 0 (some ge5)) 1 (some ge5)) 2 (some ge5)) 3 (some ge5)) i0.toNatClampNeg = some ge5 from (kz_ix4 (P := fun z => (va_up (va_up (va_up (va_up (fun _ => none) 0 (some ge5)) 1 (some ge5)) 2 (some ge5)) 3 (some ge5)) z.toNatClampNeg = some ge5) rfl rfl rfl rfl i0_l i0_u)]
  refine W.eq (g2 := F0 m 16 ls [.ref ge5, .int 0, .int 0, .ref h0]) rfl ?_
  have hPc := hP.sub (ws' := []) [] rfl
  have hDc := hD.sub (ws' := []) [] (by decide) rfl
  have hKc := hK.sub (tys' := []) [] rfl
  have hFc := va_free (wc := []) hD hS hA [] rfl
  refine va_calli (va_runV (As := []) (rest := [.int 0, .int 0, .ref h0]) ⟨hx, hb, hml, hown, hts⟩ (kx_J0_length_8abf5_0 l dC dI ge5 gea gv5 gva gde gic gi0 H.size) (cwV 0 hts gX5_cut_J0_length_8abf5 rfl rfl rfl (by decide +kernel) ⟨Nat.le_of_ble_eq_true rfl, Nat.le_of_ble_eq_true rfl⟩) ⟨fun a U g mk q => by obtain ⟨q0, q1, qP, qK, qD, qG⟩ := q; exact ⟨q0, q1, qP, va_K.moved (u := U) (U := U.calling g mk a) (Vm.Alike.refl U.vm) qK, qD, gv.fb qG⟩, (by obtain ⟨cell, k1, k2, k3, -⟩ := g_o5.kept hS.2.1; exact ⟨cell, k1, k2, k3⟩), fun U hU hW => ⟨rfl, by rw [hU], by rw [hU]; exact hPc, va_K.moved hW.alike hKc, hDc.weaken (fun _ _ _ _ => trivial), gv.pass hW hU hS hFc hG⟩⟩ rfl rfl hl.1 rfl (lv_room (Nat.le_of_ble_eq_true rfl)) dX5_cut_16 ⟨Nat.le_of_ble_eq_true rfl, Nat.le_of_ble_eq_true rfl⟩) hS (fun q _ h => hFc q h) hFc (fun r9 u t H1 locs ht hvm hw hB hz1 hk1 hS => ?_)
  obtain rfl := hw
  obtain ⟨hP1, hK1, hD1⟩ := hB
  rw [ht] at hP1
  have hK1 := va_K.moved hvm.symm hK1
  obtain ⟨hP, hD⟩ := va_join (wr := [(h0, .inr (9, [.int 0, .ref h1, .ref z0, .ref z1, .int 0, .int 0, .int 0])), (h1, .inl (k0, 4, .inr (.inr (.inr (.inr (va_up (va_up (va_up (va_up (fun _ => none) 0 (some ge5)) 1 (some ge5)) 2 (some ge5)) 3 (some ge5)))))))]) (w1 := []) hP hD [] [0, 1] rfl rfl (by decide) (by decide) hk1 hFc hP1 hD1
  generalize H1 = H at hP hS ⊢
  have hP : va_P (dC, dI) vwCl [(h0, .inr (9, [.int 0, .ref h1, .ref z0, .ref z1, .int 0, .int 0, .int 0])), (h1, .inl (k0, 4, .inr (.inr (.inr (.inr (va_up (va_up (va_up (va_up (fun _ => none) 0 (some ge5)) 1 (some ge5)) 2 (some ge5)) 3 (some ge5)))))))] H := hP
  have hD : va_D A [(h0, .inr (9, [.int 0, .ref h1, .ref z0, .ref z1, .int 0, .int 0, .int 0])), (h1, .inl (k0, 4, .inr (.inr (.inr (.inr (va_up (va_up (va_up (va_up (fun _ => none) 0 (some ge5)) 1 (some ge5)) 2 (some ge5)) 3 (some ge5)))))))] := hD
  have hPc := hP.sub (ws' := []) [] rfl
  have hDc := hD.sub (ws' := []) [] (by decide) rfl
  have hKc := hK.sub (tys' := []) [] rfl
  have hFc := va_free (wc := []) hD hS hA [] rfl
  refine va_calli (va_runS (As := [.int 0, .int 0, .int 0]) (rest := [.ref h0]) ⟨hx, hb, hml, hown, hts⟩ (kx_X5_isIn_18 l dC dI H.size) (cwS 3 hts gX5_cut_X5_isIn rfl rfl rfl (by decide +kernel) ⟨Nat.le_of_ble_eq_true rfl, Nat.le_of_ble_eq_true rfl⟩) ⟨fun a U g mk q => by obtain ⟨q0, q1, qP, qK, qD⟩ := q; exact ⟨q0, q1, qP, va_K.moved (u := U) (U := U.calling g mk a) (Vm.Alike.refl U.vm) qK, qD⟩, fun U hU hW => ⟨rfl, by rw [hU], by rw [hU]; exact hPc, va_K.moved hW.alike hKc, hDc.weaken (fun _ _ _ _ => trivial)⟩⟩ rfl rfl hl.1 rfl (lv_room (Nat.le_of_ble_eq_true rfl)) dX5_cut_19 ⟨Nat.le_of_ble_eq_true rfl, Nat.le_of_ble_eq_true rfl⟩) hS (fun q _ h => hFc q h) hFc (fun r9 u t H1 locs ht hvm hw hB hz1 hk1 hS => ?_)
  obtain rfl := hw
  obtain ⟨hP1, hK1, hD1⟩ := hB
  rw [ht] at hP1
  have hK1 := va_K.moved hvm.symm hK1
  obtain ⟨hP, hD⟩ := va_join (wr := [(h0, .inr (9, [.int 0, .ref h1, .ref z0, .ref z1, .int 0, .int 0, .int 0])), (h1, .inl (k0, 4, .inr (.inr (.inr (.inr (va_up (va_up (va_up (va_up (fun _ => none) 0 (some ge5)) 1 (some ge5)) 2 (some ge5)) 3 (some ge5)))))))]) (w1 := []) hP hD [] [0, 1] rfl rfl (by decide) (by decide) hk1 hFc hP1 hD1
  generalize H1 = H at hP hS ⊢
  have hP : va_P (dC, dI) vwCl [(h0, .inr (9, [.int 0, .ref h1, .ref z0, .ref z1, .int 0, .int 0, .int 0])), (h1, .inl (k0, 4, .inr (.inr (.inr (.inr (va_up (va_up (va_up (va_up (fun _ => none) 0 (some ge5)) 1 (some ge5)) 2 (some ge5)) 3 (some ge5)))))))] H := hP
  have hD : va_D A [(h0, .inr (9, [.int 0, .ref h1, .ref z0, .ref z1, .int 0, .int 0, .int 0])), (h1, .inl (k0, 4, .inr (.inr (.inr (.inr (va_up (va_up (va_up (va_up (fun _ => none) 0 (some ge5)) 1 (some ge5)) 2 (some ge5)) 3 (some ge5)))))))] := hD
  refine lv_if_eq (tgt := 42) hx hb dX5_cut_22 (by decide) (fun c9 => absurd c9 (by decide)) (fun _ => ?_)
  refine lv_iload_n hx hb dX5_cut_25 rfl (lv_at hl 3 rfl) ?_
  refine lv_iconst (v := 0) hx hb dX5_cut_26 (by decide) ?_
  refine lv_aload_n hx hb dX5_cut_27 rfl (lv_at hl 0 rfl) ?_
  refine va_get (D := (dC, dI)) (ci := 9) (v := .ref h1) (C := RX5) (T := TX5) (N := 7) hx hb hts (by decide +kernel) hown hK hP 0 rfl rfl 1 (by decide) (hts (.fieldLink RX5 11 "RewriteropeModel" "ropes" "[Ljava/lang/String;") (by decide +kernel)) (fun _ h9 => h9) rfl dX5_cut_28 ?_
  refine lv_iload_n hx hb dX5_cut_31 rfl (lv_at hl 1 rfl) ?_
  refine va_aldq (D := (dC, dI)) hx hb hK hP 1 0 rfl rfl (kz_in4 i0_l i0_u) dX5_cut_32 ?_
  rw [show (va_up (va_up (va_up (va_up (fun _ => none) 0 (some ge5)) 1 (some ge5)) 2 (some ge5)) 3 (some ge5)) i0.toNatClampNeg = some ge5 from (kz_ix4 (P := fun z => (va_up (va_up (va_up (va_up (fun _ => none) 0 (some ge5)) 1 (some ge5)) 2 (some ge5)) 3 (some ge5)) z.toNatClampNeg = some ge5) rfl rfl rfl rfl i0_l i0_u)]
  refine W.eq (g2 := F0 m 33 ls [.ref ge5, .int 0, .int i1, .ref h0]) rfl ?_
  have hPc := hP.sub (ws' := []) [] rfl
  have hDc := hD.sub (ws' := []) [] (by decide) rfl
  have hKc := hK.sub (tys' := []) [] rfl
  have hFc := va_free (wc := []) hD hS hA [] rfl
  refine va_calli (va_runV (As := []) (rest := [.int 0, .int i1, .ref h0]) ⟨hx, hb, hml, hown, hts⟩ (kx_J0_length_8abf5_0 l dC dI ge5 gea gv5 gva gde gic gi0 H.size) (cwV 0 hts gX5_cut_J0_length_8abf5 rfl rfl rfl (by decide +kernel) ⟨Nat.le_of_ble_eq_true rfl, Nat.le_of_ble_eq_true rfl⟩) ⟨fun a U g mk q => by obtain ⟨q0, q1, qP, qK, qD, qG⟩ := q; exact ⟨q0, q1, qP, va_K.moved (u := U) (U := U.calling g mk a) (Vm.Alike.refl U.vm) qK, qD, gv.fb qG⟩, (by obtain ⟨cell, k1, k2, k3, -⟩ := g_o5.kept hS.2.1; exact ⟨cell, k1, k2, k3⟩), fun U hU hW => ⟨rfl, by rw [hU], by rw [hU]; exact hPc, va_K.moved hW.alike hKc, hDc.weaken (fun _ _ _ _ => trivial), gv.pass hW hU hS hFc hG⟩⟩ rfl rfl hl.1 rfl (lv_room (Nat.le_of_ble_eq_true rfl)) dX5_cut_33 ⟨Nat.le_of_ble_eq_true rfl, Nat.le_of_ble_eq_true rfl⟩) hS (fun q _ h => hFc q h) hFc (fun r9 u t H1 locs ht hvm hw hB hz1 hk1 hS => ?_)
  obtain rfl := hw
  obtain ⟨hP1, hK1, hD1⟩ := hB
  rw [ht] at hP1
  have hK1 := va_K.moved hvm.symm hK1
  obtain ⟨hP, hD⟩ := va_join (wr := [(h0, .inr (9, [.int 0, .ref h1, .ref z0, .ref z1, .int 0, .int 0, .int 0])), (h1, .inl (k0, 4, .inr (.inr (.inr (.inr (va_up (va_up (va_up (va_up (fun _ => none) 0 (some ge5)) 1 (some ge5)) 2 (some ge5)) 3 (some ge5)))))))]) (w1 := []) hP hD [] [0, 1] rfl rfl (by decide) (by decide) hk1 hFc hP1 hD1
  generalize H1 = H at hP hS ⊢
  have hP : va_P (dC, dI) vwCl [(h0, .inr (9, [.int 0, .ref h1, .ref z0, .ref z1, .int 0, .int 0, .int 0])), (h1, .inl (k0, 4, .inr (.inr (.inr (.inr (va_up (va_up (va_up (va_up (fun _ => none) 0 (some ge5)) 1 (some ge5)) 2 (some ge5)) 3 (some ge5)))))))] H := hP
  have hD : va_D A [(h0, .inr (9, [.int 0, .ref h1, .ref z0, .ref z1, .int 0, .int 0, .int 0])), (h1, .inl (k0, 4, .inr (.inr (.inr (.inr (va_up (va_up (va_up (va_up (fun _ => none) 0 (some ge5)) 1 (some ge5)) 2 (some ge5)) 3 (some ge5)))))))] := hD
  have hPc := hP.sub (ws' := []) [] rfl
  have hDc := hD.sub (ws' := []) [] (by decide) rfl
  have hKc := hK.sub (tys' := []) [] rfl
  have hFc := va_free (wc := []) hD hS hA [] rfl
  refine va_calli (va_runS (As := [.int i1, .int 0, .int 0]) (rest := [.ref h0]) ⟨hx, hb, hml, hown, hts⟩ (kx_X5_isIn_17 l dC dI H.size i1 i1_l i1_u) (cwS 3 hts gX5_cut_X5_isIn rfl rfl rfl (by decide +kernel) ⟨Nat.le_of_ble_eq_true rfl, Nat.le_of_ble_eq_true rfl⟩) ⟨fun a U g mk q => by obtain ⟨q0, q1, qP, qK, qD⟩ := q; exact ⟨q0, q1, qP, va_K.moved (u := U) (U := U.calling g mk a) (Vm.Alike.refl U.vm) qK, qD⟩, fun U hU hW => ⟨rfl, by rw [hU], by rw [hU]; exact hPc, va_K.moved hW.alike hKc, hDc.weaken (fun _ _ _ _ => trivial)⟩⟩ rfl rfl hl.1 rfl (lv_room (Nat.le_of_ble_eq_true rfl)) dX5_cut_36 ⟨Nat.le_of_ble_eq_true rfl, Nat.le_of_ble_eq_true rfl⟩) hS (fun q _ h => hFc q h) hFc (fun r9 u t H1 locs ht hvm hw hB hz1 hk1 hS => ?_)
  obtain rfl := hw
  obtain ⟨hP1, hK1, hD1⟩ := hB
  rw [ht] at hP1
  have hK1 := va_K.moved hvm.symm hK1
  obtain ⟨hP, hD⟩ := va_join (wr := [(h0, .inr (9, [.int 0, .ref h1, .ref z0, .ref z1, .int 0, .int 0, .int 0])), (h1, .inl (k0, 4, .inr (.inr (.inr (.inr (va_up (va_up (va_up (va_up (fun _ => none) 0 (some ge5)) 1 (some ge5)) 2 (some ge5)) 3 (some ge5)))))))]) (w1 := []) hP hD [] [0, 1] rfl rfl (by decide) (by decide) hk1 hFc hP1 hD1
  generalize H1 = H at hP hS ⊢
  have hP : va_P (dC, dI) vwCl [(h0, .inr (9, [.int 0, .ref h1, .ref z0, .ref z1, .int 0, .int 0, .int 0])), (h1, .inl (k0, 4, .inr (.inr (.inr (.inr (va_up (va_up (va_up (va_up (fun _ => none) 0 (some ge5)) 1 (some ge5)) 2 (some ge5)) 3 (some ge5)))))))] H := hP
  have hD : va_D A [(h0, .inr (9, [.int 0, .ref h1, .ref z0, .ref z1, .int 0, .int 0, .int 0])), (h1, .inl (k0, 4, .inr (.inr (.inr (.inr (va_up (va_up (va_up (va_up (fun _ => none) 0 (some ge5)) 1 (some ge5)) 2 (some ge5)) 3 (some ge5)))))))] := hD
  refine lv_if_ne (tgt := 46) hx hb dX5_cut_39 (by decide) (fun c9 => absurd (by decide) c9) (fun _ => ?_)
  refine lv_iconst (v := 1) hx hb dX5_cut_42 (by decide) ?_
  refine lv_goto (tgt := 47) hx hb dX5_cut_43 (by decide) ?_
  refine lv_iload_n hx hb dX5_cut_47 rfl (lv_at hl 2 rfl) ?_
  refine lv_iload_n hx hb dX5_cut_48 rfl (lv_at hl 3 rfl) ?_
  refine lv_icmp_le (tgt := 56) hx hb dX5_cut_49 (by decide) (fun _ => ?_) (fun c9 => absurd (Int32.le_iff_toInt_le.mpr (by rw [show (0 : Int32).toInt = 0 from by decide]; omega)) c9)
  refine lv_iconst (v := 0) hx hb dX5_cut_56 (by decide) ?_
  refine lv_iconst (v := 0) hx hb dX5_cut_57 (by decide) ?_
  have hPc := hP.sub (ws' := [(h0, .inr (9, [.int 0, .ref h1, .ref z0, .ref z1, .int 0, .int 0, .int 0]))]) [0] rfl
  have hDc := hD.sub (ws' := [(h0, .inr (9, [.int 0, .ref h1, .ref z0, .ref z1, .int 0, .int 0, .int 0]))]) [0] (by decide) rfl
  have hKc := hK.sub (tys' := []) [] rfl
  have hFc := va_free (wc := [(h0, .inr (9, [.int 0, .ref h1, .ref z0, .ref z1, .int 0, .int 0, .int 0]))]) hD hS hA [0] rfl
  refine va_calli (va_runV (As := [.int 1, .int 0, .int 0]) (rest := []) ⟨hx, hb, hml, hown, hts⟩ (kx_X5_fails_0 l dC dI h0 h1 z0 z1 H.size) (cwV 3 hts gX5_cut_X5_fails rfl rfl rfl (by decide +kernel) ⟨Nat.le_of_ble_eq_true rfl, Nat.le_of_ble_eq_true rfl⟩) ⟨fun a U g mk q => by obtain ⟨q0, q1, qP, qK, qD⟩ := q; exact ⟨q0, q1, qP, va_K.moved (u := U) (U := U.calling g mk a) (Vm.Alike.refl U.vm) qK, qD⟩, va_recv hKc hPc (ci := 9) (q0 := 0) rfl rfl, fun U hU hW => ⟨rfl, by rw [hU], by rw [hU]; exact hPc, va_K.moved hW.alike hKc, hDc.weaken (fun _ _ _ _ => trivial)⟩⟩ rfl rfl hl.1 rfl (lv_room (Nat.le_of_ble_eq_true rfl)) dX5_cut_58 ⟨Nat.le_of_ble_eq_true rfl, Nat.le_of_ble_eq_true rfl⟩) hS (fun q _ h => hFc q h) hFc (fun r9 u t H1 locs ht hvm hw hB hz1 hk1 hS => ?_)
  obtain rfl := hw
  obtain ⟨hP1, hK1, hD1⟩ := hB
  rw [ht] at hP1
  have hK1 := va_K.moved hvm.symm hK1
  obtain ⟨hP, hD⟩ := va_join (wr := [(h1, .inl (k0, 4, .inr (.inr (.inr (.inr (va_up (va_up (va_up (va_up (fun _ => none) 0 (some ge5)) 1 (some ge5)) 2 (some ge5)) 3 (some ge5)))))))]) (w1 := [(h0, .inr (9, [.int 1, .ref h1, .ref z0, .ref z1, .int 0, .int 0, .int 0]))]) hP hD [0] [1] rfl rfl (by decide) (by decide) hk1 hFc hP1 hD1
  generalize H1 = H at hP hS ⊢
  have hP : va_P (dC, dI) vwCl [(h1, .inl (k0, 4, .inr (.inr (.inr (.inr (va_up (va_up (va_up (va_up (fun _ => none) 0 (some ge5)) 1 (some ge5)) 2 (some ge5)) 3 (some ge5))))))), (h0, .inr (9, [.int 1, .ref h1, .ref z0, .ref z1, .int 0, .int 0, .int 0]))] H := hP
  have hD : va_D A [(h1, .inl (k0, 4, .inr (.inr (.inr (.inr (va_up (va_up (va_up (va_up (fun _ => none) 0 (some ge5)) 1 (some ge5)) 2 (some ge5)) 3 (some ge5))))))), (h0, .inr (9, [.int 1, .ref h1, .ref z0, .ref z1, .int 0, .int 0, .int 0]))] := hD
  refine lv_if_eq (tgt := 66) hx hb dX5_cut_61 (by decide) (fun c9 => absurd c9 (by decide)) (fun _ => ?_)
  refine lv_iconst (v := 0) hx hb dX5_cut_64 (by decide) ?_
  have hP := hP.sub (ws' := [(h0, .inr (9, [.int 1, .ref h1, .ref z0, .ref z1, .int 0, .int 0, .int 0])), (h1, .inl (k0, 4, .inr (.inr (.inr (.inr (va_up (va_up (va_up (va_up (fun _ => none) 0 (some ge5)) 1 (some ge5)) 2 (some ge5)) 3 (some ge5)))))))]) [1, 0] rfl
  have hD := hD.sub (ws' := [(h0, .inr (9, [.int 1, .ref h1, .ref z0, .ref z1, .int 0, .int 0, .int 0])), (h1, .inl (k0, 4, .inr (.inr (.inr (.inr (va_up (va_up (va_up (va_up (fun _ => none) 0 (some ge5)) 1 (some ge5)) 2 (some ge5)) 3 (some ge5)))))))]) [1, 0] (by decide) rfl
  have hP := hP.sub (ws' := [(h0, .inr (9, [.int 1, .ref h1, .ref z0, .ref z1, .int 0, .int 0, .int 0]))]) [0] rfl
  have hD := hD.sub (ws' := [(h0, .inr (9, [.int 1, .ref h1, .ref z0, .ref z1, .int 0, .int 0, .int 0]))]) [0] (by decide) rfl
  exact W.iret (v := 0) hx hb hr (fun t ht hW => ⟨⟨0, (), rfl, rfl, by rw [ht]; exact hP, va_K.moved hW.alike hK, hD⟩, hS.F ht⟩) hS.2.2 dX5_cut_65
set_option maxHeartbeats 4000000 in
set_option maxRecDepth 100000 in
theorem kx_X2_replace_2 (l : Launch) (dC : Nat → ClassId) (dI : Nat → Nat → Nat) (h0 : Nat) (h1 : Nat) (h2 : Nat) (h3 : Nat) (k0 : ClassId) (k1 : ClassId) (sz : Nat) : Met l yX2_replace wsX2_replace ({ frames := 1, cells := 0, slots := 0, locals := 60 }) (va_Pc [.ref h2, .int 0, .int 0, .ref h3] (fun U => U.heap.size = sz ∧ va_P (dC, dI) vwCl [(h0, .inl (k0, 64, .inl (fun _ => 0))), (h1, .inl (k1, 64, .inl (fun _ => 0))), (h2, .inr (6, [.ref h1, .int 0])), (h3, .inr (6, [.ref h0, .int 0]))] U.heap ∧ va_K (dC, dI) vwCl [(k0, .byte), (k1, .byte)] U ∧ va_D (fun _ => True) [(h0, .inl (k0, 64, .inl (fun _ => 0))), (h1, .inl (k1, 64, .inl (fun _ => 0))), (h2, .inr (6, [.ref h1, .int 0])), (h3, .inr (6, [.ref h0, .int 0]))])) (va_Qv (fun _ : Unit => True) (fun (_ : Unit) (t : State) => va_P (dC, dI) vwCl [(h0, .inl (k0, 64, .inl (fun _ => 0))), (h1, .inl (k1, 64, .inl (fun _ => 0))), (h2, .inr (6, [.ref h1, .int 0])), (h3, .inr (6, [.ref h0, .int 0]))] t.heap ∧ va_K (dC, dI) vwCl [(k0, .byte), (k1, .byte)] t ∧ va_D (va_A [(h0, .inl (k0, 64, .inl (fun _ => 0))), (h1, .inl (k1, 64, .inl (fun _ => 0))), (h2, .inr (6, [.ref h1, .int 0])), (h3, .inr (6, [.ref h0, .int 0]))] sz) [(h0, .inl (k0, 64, .inl (fun _ => 0))), (h1, .inl (k1, 64, .inl (fun _ => 0))), (h2, .inr (6, [.ref h1, .int 0])), (h3, .inr (6, [.ref h0, .int 0]))]) (va_A [(h0, .inl (k0, 64, .inl (fun _ => 0))), (h1, .inl (k1, 64, .inl (fun _ => 0))), (h2, .inr (6, [.ref h1, .int 0])), (h3, .inr (6, [.ref h0, .int 0]))] sz)) 0 0 (va_A [(h0, .inl (k0, 64, .inl (fun _ => 0))), (h1, .inl (k1, 64, .inl (fun _ => 0))), (h2, .inr (6, [.ref h1, .int 0])), (h3, .inr (6, [.ref h0, .int 0]))] sz) := by
  refine Met.ofW (cc := cX2_replace) (maxL := 5) (ret := none) (by decide) rfl ?_
  intro p e s m args below meth c s₁ B hml hv
  obtain ⟨rfl, hsz, hP, hK, hD0⟩ := hv
  have hx := B.exec
  have hb := B.bytes
  have hr := B.returns
  have hts := atoms_spec (ws := wsX2_replace) B.pre
  have hown : s.vm.findClass RX2 = some m.cls := findClass_of_methodNamed B.named
  have hlocks := B.notSynchronized
  subst hsz
  have hD := hD0.self (sz := s.heap.size)
  generalize hAe : va_A [(h0, .inl (k0, 64, .inl (fun _ => 0))), (h1, .inl (k1, 64, .inl (fun _ => 0))), (h2, .inr (6, [.ref h1, .int 0])), (h3, .inr (6, [.ref h0, .int 0]))] s.heap.size = A at hD ⊢
  have hA : ∀ q : Nat, s.heap.size ≤ q → A q := fun q h => by rw [← hAe]; exact Or.inr h
  have hS : va_S A s.heap s.heap [] := va_S.rf
  have hP : va_P (dC, dI) vwCl [(h0, .inl (k0, 64, .inl (fun _ => 0))), (h1, .inl (k1, 64, .inl (fun _ => 0))), (h2, .inr (6, [.ref h1, .int 0])), (h3, .inr (6, [.ref h0, .int 0]))] s.heap := hP
  have hl := lv_entry ([.ref h2, .int 0, .int 0, .ref h3]) (n := 5) (Nat.le_of_ble_eq_true rfl)
  rw [lg_entry_eq]
  generalize (lg_sl ([.ref h2, .int 0, .int 0, .ref h3]) ++ List.replicate (5 - (lg_sl ([.ref h2, .int 0, .int 0, .ref h3])).length) Slot.unset).toArray = ls at hl ⊢
  have hl : lv_has ls 5 [(0, .ref h2), (1, .int 0), (2, .int 0), (3, .ref h3)] := hl
  refine lv_aload_n hx hb dX2_replace_0 rfl (lv_at hl 0 rfl) ?_
  refine va_get (D := (dC, dI)) (ci := 6) (v := .int 0) (C := RX2) (T := TX2) (N := 2) hx hb hts (by decide +kernel) hown hK hP 2 rfl rfl 1 (by decide) (hts (.fieldLink RX2 15 "Rewriterope$Text" "length" "I") (by decide +kernel)) (fun _ h9 => h9) rfl dX2_replace_1 ?_
  refine lv_iload_n hx hb dX2_replace_4 rfl (lv_at hl 2 rfl) ?_
  refine lv_iload_n hx hb dX2_replace_5 rfl (lv_at hl 1 rfl) ?_
  refine lv_isub hx hb dX2_replace_6 ?_
  refine lv_topi (fun y1 ey1 => ?_)
  obtain rfl : y1 = 0 := ey1.trans (by decide)
  refine lv_isub hx hb dX2_replace_7 ?_
  refine lv_topi (fun y2 ey2 => ?_)
  obtain rfl : y2 = 0 := ey2.trans (by decide)
  refine lv_aload_n hx hb dX2_replace_8 rfl (lv_at hl 3 rfl) ?_
  refine va_get (D := (dC, dI)) (ci := 6) (v := .int 0) (C := RX2) (T := TX2) (N := 2) hx hb hts (by decide +kernel) hown hK hP 3 rfl rfl 1 (by decide) (hts (.fieldLink RX2 15 "Rewriterope$Text" "length" "I") (by decide +kernel)) (fun _ h9 => h9) rfl dX2_replace_9 ?_
  refine lv_iadd hx hb dX2_replace_12 ?_
  refine lv_topi (fun y3 ey3 => ?_)
  obtain rfl : y3 = 0 := ey3.trans (by decide)
  refine lv_istore (lv' := [(4, .int 0), (0, .ref h2), (1, .int 0), (2, .int 0), (3, .ref h3)]) hx hb dX2_replace_13 hl (by decide) rfl (fun ls hl => ?_)
  refine lv_iload_n hx hb dX2_replace_15 rfl (lv_at hl 2 rfl) ?_
  refine lv_if_lt (tgt := 39) hx hb dX2_replace_16 (by decide) (fun c9 => absurd c9 (by decide)) (fun _ => ?_)
  refine lv_iload_n hx hb dX2_replace_19 rfl (lv_at hl 3 rfl) ?_
  refine lv_iload_n hx hb dX2_replace_20 rfl (lv_at hl 2 rfl) ?_
  refine lv_icmp_lt (tgt := 39) hx hb dX2_replace_21 (by decide) (fun c9 => absurd c9 (by decide)) (fun _ => ?_)
  refine lv_iload_n hx hb dX2_replace_24 rfl (lv_at hl 3 rfl) ?_
  refine lv_aload_n hx hb dX2_replace_25 rfl (lv_at hl 1 rfl) ?_
  refine va_get (D := (dC, dI)) (ci := 6) (v := .int 0) (C := RX2) (T := TX2) (N := 2) hx hb hts (by decide +kernel) hown hK hP 2 rfl rfl 1 (by decide) (hts (.fieldLink RX2 15 "Rewriterope$Text" "length" "I") (by decide +kernel)) (fun _ h9 => h9) rfl dX2_replace_26 ?_
  refine lv_icmp_gt (tgt := 39) hx hb dX2_replace_29 (by decide) (fun c9 => absurd c9 (by decide)) (fun _ => ?_)
  refine lv_iload hx hb dX2_replace_32 (lv_at hl 0 rfl) ?_
  refine lv_bipush (v := 64) hx hb dX2_replace_34 (by decide) ?_
  refine lv_icmp_le (tgt := 40) hx hb dX2_replace_36 (by decide) (fun _ => ?_) (fun c9 => absurd (by decide) c9)
  refine lv_aload_n hx hb dX2_replace_40 rfl (lv_at hl 1 rfl) ?_
  refine va_get (D := (dC, dI)) (ci := 6) (v := .ref h1) (C := RX2) (T := TX2) (N := 2) hx hb hts (by decide +kernel) hown hK hP 2 rfl rfl 0 (by decide) (hts (.fieldLink RX2 11 "Rewriterope$Text" "letters" "[B") (by decide +kernel)) (fun _ h9 => h9) rfl dX2_replace_41 ?_
  refine lv_iload_n hx hb dX2_replace_44 rfl (lv_at hl 3 rfl) ?_
  refine lv_aload_n hx hb dX2_replace_45 rfl (lv_at hl 1 rfl) ?_
  refine va_get (D := (dC, dI)) (ci := 6) (v := .ref h1) (C := RX2) (T := TX2) (N := 2) hx hb hts (by decide +kernel) hown hK hP 2 rfl rfl 0 (by decide) (hts (.fieldLink RX2 11 "Rewriterope$Text" "letters" "[B") (by decide +kernel)) (fun _ h9 => h9) rfl dX2_replace_46 ?_
  refine lv_iload_n hx hb dX2_replace_49 rfl (lv_at hl 2 rfl) ?_
  refine lv_aload_n hx hb dX2_replace_50 rfl (lv_at hl 4 rfl) ?_
  refine va_get (D := (dC, dI)) (ci := 6) (v := .int 0) (C := RX2) (T := TX2) (N := 2) hx hb hts (by decide +kernel) hown hK hP 3 rfl rfl 1 (by decide) (hts (.fieldLink RX2 15 "Rewriterope$Text" "length" "I") (by decide +kernel)) (fun _ h9 => h9) rfl dX2_replace_51 ?_
  refine lv_iadd hx hb dX2_replace_54 ?_
  refine lv_topi (fun y4 ey4 => ?_)
  obtain rfl : y4 = 0 := ey4.trans (by decide)
  refine lv_aload_n hx hb dX2_replace_55 rfl (lv_at hl 1 rfl) ?_
  refine va_get (D := (dC, dI)) (ci := 6) (v := .int 0) (C := RX2) (T := TX2) (N := 2) hx hb hts (by decide +kernel) hown hK hP 2 rfl rfl 1 (by decide) (hts (.fieldLink RX2 15 "Rewriterope$Text" "length" "I") (by decide +kernel)) (fun _ h9 => h9) rfl dX2_replace_56 ?_
  refine lv_iload_n hx hb dX2_replace_59 rfl (lv_at hl 3 rfl) ?_
  refine lv_isub hx hb dX2_replace_60 ?_
  refine lv_topi (fun y5 ey5 => ?_)
  obtain rfl : y5 = 0 := ey5.trans (by decide)
  refine va_copyi (D := (dC, dI)) (sp := 0) (dp := 0) (n := 0) hx hb (by rw [hml]; exact hl.1.symm) hown (hts (.methodLink RX2 19 arraycopyName) (by decide +kernel)) (hts (.native arraycopyName) (by decide +kernel)) (hts (.static arraycopyName) (by decide +kernel)) (hts (.initialized "java/lang/System") (by decide +kernel)) hK hP hD hS 1 1 1 1 rfl rfl rfl rfl rfl (by decide) (by decide) (by decide) (by decide) (by decide) (fun i hi => absurd hi (Nat.not_lt_zero i)) (Nat.le_of_ble_eq_true rfl) (Nat.le_of_ble_eq_true rfl) dX2_replace_61 (fun H locs hP hD hS => ?_)
  rw [kz0] at hP hD
  have hP : va_P (dC, dI) vwCl [(h0, .inl (k0, 64, .inl (fun _ => 0))), (h1, .inl (k1, 64, .inl (fun _ => 0))), (h2, .inr (6, [.ref h1, .int 0])), (h3, .inr (6, [.ref h0, .int 0]))] H := hP
  have hD : va_D A [(h0, .inl (k0, 64, .inl (fun _ => 0))), (h1, .inl (k1, 64, .inl (fun _ => 0))), (h2, .inr (6, [.ref h1, .int 0])), (h3, .inr (6, [.ref h0, .int 0]))] := hD
  refine lv_aload_n hx hb dX2_replace_64 rfl (lv_at hl 4 rfl) ?_
  refine va_get (D := (dC, dI)) (ci := 6) (v := .ref h0) (C := RX2) (T := TX2) (N := 2) hx hb hts (by decide +kernel) hown hK hP 3 rfl rfl 0 (by decide) (hts (.fieldLink RX2 11 "Rewriterope$Text" "letters" "[B") (by decide +kernel)) (fun _ h9 => h9) rfl dX2_replace_65 ?_
  refine lv_iconst (v := 0) hx hb dX2_replace_68 (by decide) ?_
  refine lv_aload_n hx hb dX2_replace_69 rfl (lv_at hl 1 rfl) ?_
  refine va_get (D := (dC, dI)) (ci := 6) (v := .ref h1) (C := RX2) (T := TX2) (N := 2) hx hb hts (by decide +kernel) hown hK hP 2 rfl rfl 0 (by decide) (hts (.fieldLink RX2 11 "Rewriterope$Text" "letters" "[B") (by decide +kernel)) (fun _ h9 => h9) rfl dX2_replace_70 ?_
  refine lv_iload_n hx hb dX2_replace_73 rfl (lv_at hl 2 rfl) ?_
  refine lv_aload_n hx hb dX2_replace_74 rfl (lv_at hl 4 rfl) ?_
  refine va_get (D := (dC, dI)) (ci := 6) (v := .int 0) (C := RX2) (T := TX2) (N := 2) hx hb hts (by decide +kernel) hown hK hP 3 rfl rfl 1 (by decide) (hts (.fieldLink RX2 15 "Rewriterope$Text" "length" "I") (by decide +kernel)) (fun _ h9 => h9) rfl dX2_replace_75 ?_
  refine va_copyi (D := (dC, dI)) (sp := 0) (dp := 0) (n := 0) hx hb (by rw [hml]; exact hl.1.symm) hown (hts (.methodLink RX2 19 arraycopyName) (by decide +kernel)) (hts (.native arraycopyName) (by decide +kernel)) (hts (.static arraycopyName) (by decide +kernel)) (hts (.initialized "java/lang/System") (by decide +kernel)) hK hP hD hS 0 1 0 1 rfl rfl rfl rfl rfl (by decide) (by decide) (by decide) (by decide) (by decide) (fun i hi => absurd hi (Nat.not_lt_zero i)) (Nat.le_of_ble_eq_true rfl) (Nat.le_of_ble_eq_true rfl) dX2_replace_78 (fun H locs hP hD hS => ?_)
  rw [kz0] at hP hD
  have hP : va_P (dC, dI) vwCl [(h0, .inl (k0, 64, .inl (fun _ => 0))), (h1, .inl (k1, 64, .inl (fun _ => 0))), (h2, .inr (6, [.ref h1, .int 0])), (h3, .inr (6, [.ref h0, .int 0]))] H := hP
  have hD : va_D A [(h0, .inl (k0, 64, .inl (fun _ => 0))), (h1, .inl (k1, 64, .inl (fun _ => 0))), (h2, .inr (6, [.ref h1, .int 0])), (h3, .inr (6, [.ref h0, .int 0]))] := hD
  refine lv_aload_n hx hb dX2_replace_81 rfl (lv_at hl 1 rfl) ?_
  refine lv_iload hx hb dX2_replace_82 (lv_at hl 0 rfl) ?_
  refine va_put (D := (dC, dI)) (ci := 6) (v := .int 0) (ty := .int) (C := RX2) (T := TX2) (N := 2) hx hb hts (by decide +kernel) tyX2 tyX2_ok nmX2 hown hK hP hD hS 2 rfl rfl 1 (by decide) (hts (.fieldLink RX2 15 "Rewriterope$Text" "length" "I") (by decide +kernel)) (fun _ h9 => h9) rfl (by decide +kernel) rfl rfl (Nat.le_of_ble_eq_true rfl) dX2_replace_84 (fun H locs hP hD hS => ?_)
  have hP : va_P (dC, dI) vwCl [(h0, .inl (k0, 64, .inl (fun _ => 0))), (h1, .inl (k1, 64, .inl (fun _ => 0))), (h2, .inr (6, [.ref h1, .int 0])), (h3, .inr (6, [.ref h0, .int 0]))] H := hP
  have hD : va_D A [(h0, .inl (k0, 64, .inl (fun _ => 0))), (h1, .inl (k1, 64, .inl (fun _ => 0))), (h2, .inr (6, [.ref h1, .int 0])), (h3, .inr (6, [.ref h0, .int 0]))] := hD
  exact W.vret hx hb hr (fun t ht hW => ⟨⟨(), rfl, trivial, by rw [ht]; exact hP, va_K.moved hW.alike hK, hD⟩, hS.F ht⟩) hS.2.2 dX2_replace_87
set_option maxHeartbeats 4000000 in
set_option maxRecDepth 100000 in
theorem kx_X3_cut_18 (l : Launch) (dC : Nat → ClassId) (dI : Nat → Nat → Nat) (h0 : Nat) (h1 : Nat) (h2 : Nat) (h3 : Nat) (h4 : Nat) (h5 : Nat) (h6 : Nat) (h7 : Nat) (h8 : Nat) (h9 : Nat) (h10 : Nat) (h11 : Nat) (z0 : Nat) (z1 : Nat) (z2 : Nat) (z3 : Nat) (k0 : ClassId) (k1 : ClassId) (k2 : ClassId) (k3 : ClassId) (k4 : ClassId) (k5 : ClassId) (sz : Nat) : Met l yX3_cut wsX3_cut ({ frames := 2, cells := 0, slots := 0, locals := 84 }) (va_Pc [.ref h0, .int 0, .int 0, .int 0] (fun U => U.heap.size = sz ∧ va_P (dC, dI) vwCl [(h0, .inr (7, [.ref h1, .ref z0, .ref z1, .ref h2, .ref z2, .ref z3, .int 0, .int 0, .int 0])), (h1, .inl (k0, 4, .inr (.inr (.inr (.inr (va_up (va_up (va_up (va_up (fun _ => none) 0 (some h4)) 1 (some h6)) 2 (some h8)) 3 (some h10))))))), (h2, .inr (6, [.ref h3, .int 0])), (h3, .inl (k1, 64, .inl (fun _ => 0))), (h4, .inr (6, [.ref h5, .int 0])), (h5, .inl (k2, 64, .inl (fun _ => 0))), (h6, .inr (6, [.ref h7, .int 0])), (h7, .inl (k3, 64, .inl (fun _ => 0))), (h8, .inr (6, [.ref h9, .int 0])), (h9, .inl (k4, 64, .inl (fun _ => 0))), (h10, .inr (6, [.ref h11, .int 0])), (h11, .inl (k5, 64, .inl (fun _ => 0)))] U.heap ∧ va_K (dC, dI) vwCl [(k0, .object "Rewriterope$Text"), (k1, .byte), (k2, .byte), (k3, .byte), (k4, .byte), (k5, .byte)] U ∧ va_D (fun _ => True) [(h0, .inr (7, [.ref h1, .ref z0, .ref z1, .ref h2, .ref z2, .ref z3, .int 0, .int 0, .int 0])), (h1, .inl (k0, 4, .inr (.inr (.inr (.inr (va_up (va_up (va_up (va_up (fun _ => none) 0 (some h4)) 1 (some h6)) 2 (some h8)) 3 (some h10))))))), (h2, .inr (6, [.ref h3, .int 0])), (h3, .inl (k1, 64, .inl (fun _ => 0))), (h4, .inr (6, [.ref h5, .int 0])), (h5, .inl (k2, 64, .inl (fun _ => 0))), (h6, .inr (6, [.ref h7, .int 0])), (h7, .inl (k3, 64, .inl (fun _ => 0))), (h8, .inr (6, [.ref h9, .int 0])), (h9, .inl (k4, 64, .inl (fun _ => 0))), (h10, .inr (6, [.ref h11, .int 0])), (h11, .inl (k5, 64, .inl (fun _ => 0)))])) (va_Qi (fun (r : Int32) (_ : Unit) => r = 0) (fun (_ : Unit) (t : State) => va_P (dC, dI) vwCl [(h0, .inr (7, [.ref h1, .ref z0, .ref z1, .ref h2, .ref z2, .ref z3, .int 0, .int 0, .int 0])), (h1, .inl (k0, 4, .inr (.inr (.inr (.inr (va_up (va_up (va_up (va_up (fun _ => none) 0 (some h4)) 1 (some h6)) 2 (some h8)) 3 (some h10))))))), (h2, .inr (6, [.ref h3, .int 0])), (h3, .inl (k1, 64, .inl (fun _ => 0))), (h4, .inr (6, [.ref h5, .int 0])), (h5, .inl (k2, 64, .inl (fun _ => 0))), (h6, .inr (6, [.ref h7, .int 0])), (h7, .inl (k3, 64, .inl (fun _ => 0))), (h8, .inr (6, [.ref h9, .int 0])), (h9, .inl (k4, 64, .inl (fun _ => 0))), (h10, .inr (6, [.ref h11, .int 0])), (h11, .inl (k5, 64, .inl (fun _ => 0)))] t.heap ∧ va_K (dC, dI) vwCl [(k0, .object "Rewriterope$Text"), (k1, .byte), (k2, .byte), (k3, .byte), (k4, .byte), (k5, .byte)] t ∧ va_D (va_A [(h0, .inr (7, [.ref h1, .ref z0, .ref z1, .ref h2, .ref z2, .ref z3, .int 0, .int 0, .int 0])), (h1, .inl (k0, 4, .inr (.inr (.inr (.inr (va_up (va_up (va_up (va_up (fun _ => none) 0 (some h4)) 1 (some h6)) 2 (some h8)) 3 (some h10))))))), (h2, .inr (6, [.ref h3, .int 0])), (h3, .inl (k1, 64, .inl (fun _ => 0))), (h4, .inr (6, [.ref h5, .int 0])), (h5, .inl (k2, 64, .inl (fun _ => 0))), (h6, .inr (6, [.ref h7, .int 0])), (h7, .inl (k3, 64, .inl (fun _ => 0))), (h8, .inr (6, [.ref h9, .int 0])), (h9, .inl (k4, 64, .inl (fun _ => 0))), (h10, .inr (6, [.ref h11, .int 0])), (h11, .inl (k5, 64, .inl (fun _ => 0)))] sz) [(h0, .inr (7, [.ref h1, .ref z0, .ref z1, .ref h2, .ref z2, .ref z3, .int 0, .int 0, .int 0])), (h1, .inl (k0, 4, .inr (.inr (.inr (.inr (va_up (va_up (va_up (va_up (fun _ => none) 0 (some h4)) 1 (some h6)) 2 (some h8)) 3 (some h10))))))), (h2, .inr (6, [.ref h3, .int 0])), (h3, .inl (k1, 64, .inl (fun _ => 0))), (h4, .inr (6, [.ref h5, .int 0])), (h5, .inl (k2, 64, .inl (fun _ => 0))), (h6, .inr (6, [.ref h7, .int 0])), (h7, .inl (k3, 64, .inl (fun _ => 0))), (h8, .inr (6, [.ref h9, .int 0])), (h9, .inl (k4, 64, .inl (fun _ => 0))), (h10, .inr (6, [.ref h11, .int 0])), (h11, .inl (k5, 64, .inl (fun _ => 0)))]) (va_A [(h0, .inr (7, [.ref h1, .ref z0, .ref z1, .ref h2, .ref z2, .ref z3, .int 0, .int 0, .int 0])), (h1, .inl (k0, 4, .inr (.inr (.inr (.inr (va_up (va_up (va_up (va_up (fun _ => none) 0 (some h4)) 1 (some h6)) 2 (some h8)) 3 (some h10))))))), (h2, .inr (6, [.ref h3, .int 0])), (h3, .inl (k1, 64, .inl (fun _ => 0))), (h4, .inr (6, [.ref h5, .int 0])), (h5, .inl (k2, 64, .inl (fun _ => 0))), (h6, .inr (6, [.ref h7, .int 0])), (h7, .inl (k3, 64, .inl (fun _ => 0))), (h8, .inr (6, [.ref h9, .int 0])), (h9, .inl (k4, 64, .inl (fun _ => 0))), (h10, .inr (6, [.ref h11, .int 0])), (h11, .inl (k5, 64, .inl (fun _ => 0)))] sz)) 0 0 (va_A [(h0, .inr (7, [.ref h1, .ref z0, .ref z1, .ref h2, .ref z2, .ref z3, .int 0, .int 0, .int 0])), (h1, .inl (k0, 4, .inr (.inr (.inr (.inr (va_up (va_up (va_up (va_up (fun _ => none) 0 (some h4)) 1 (some h6)) 2 (some h8)) 3 (some h10))))))), (h2, .inr (6, [.ref h3, .int 0])), (h3, .inl (k1, 64, .inl (fun _ => 0))), (h4, .inr (6, [.ref h5, .int 0])), (h5, .inl (k2, 64, .inl (fun _ => 0))), (h6, .inr (6, [.ref h7, .int 0])), (h7, .inl (k3, 64, .inl (fun _ => 0))), (h8, .inr (6, [.ref h9, .int 0])), (h9, .inl (k4, 64, .inl (fun _ => 0))), (h10, .inr (6, [.ref h11, .int 0])), (h11, .inl (k5, 64, .inl (fun _ => 0)))] sz) := by
  refine Met.ofW (cc := cX3_cut) (maxL := 4) (ret := (some .int)) (by decide) rfl ?_
  intro p e s m args below meth c s₁ B hml hv
  obtain ⟨rfl, hsz, hP, hK, hD0⟩ := hv
  have hx := B.exec
  have hb := B.bytes
  have hr := B.returns
  have hts := atoms_spec (ws := wsX3_cut) B.pre
  have hown : s.vm.findClass RX3 = some m.cls := findClass_of_methodNamed B.named
  have hlocks := B.notSynchronized
  subst hsz
  have hD := hD0.self (sz := s.heap.size)
  generalize hAe : va_A [(h0, .inr (7, [.ref h1, .ref z0, .ref z1, .ref h2, .ref z2, .ref z3, .int 0, .int 0, .int 0])), (h1, .inl (k0, 4, .inr (.inr (.inr (.inr (va_up (va_up (va_up (va_up (fun _ => none) 0 (some h4)) 1 (some h6)) 2 (some h8)) 3 (some h10))))))), (h2, .inr (6, [.ref h3, .int 0])), (h3, .inl (k1, 64, .inl (fun _ => 0))), (h4, .inr (6, [.ref h5, .int 0])), (h5, .inl (k2, 64, .inl (fun _ => 0))), (h6, .inr (6, [.ref h7, .int 0])), (h7, .inl (k3, 64, .inl (fun _ => 0))), (h8, .inr (6, [.ref h9, .int 0])), (h9, .inl (k4, 64, .inl (fun _ => 0))), (h10, .inr (6, [.ref h11, .int 0])), (h11, .inl (k5, 64, .inl (fun _ => 0)))] s.heap.size = A at hD ⊢
  have hA : ∀ q : Nat, s.heap.size ≤ q → A q := fun q h => by rw [← hAe]; exact Or.inr h
  have hS : va_S A s.heap s.heap [] := va_S.rf
  have hP : va_P (dC, dI) vwCl [(h0, .inr (7, [.ref h1, .ref z0, .ref z1, .ref h2, .ref z2, .ref z3, .int 0, .int 0, .int 0])), (h1, .inl (k0, 4, .inr (.inr (.inr (.inr (va_up (va_up (va_up (va_up (fun _ => none) 0 (some h4)) 1 (some h6)) 2 (some h8)) 3 (some h10))))))), (h2, .inr (6, [.ref h3, .int 0])), (h3, .inl (k1, 64, .inl (fun _ => 0))), (h4, .inr (6, [.ref h5, .int 0])), (h5, .inl (k2, 64, .inl (fun _ => 0))), (h6, .inr (6, [.ref h7, .int 0])), (h7, .inl (k3, 64, .inl (fun _ => 0))), (h8, .inr (6, [.ref h9, .int 0])), (h9, .inl (k4, 64, .inl (fun _ => 0))), (h10, .inr (6, [.ref h11, .int 0])), (h11, .inl (k5, 64, .inl (fun _ => 0)))] s.heap := hP
  have hl := lv_entry ([.ref h0, .int 0, .int 0, .int 0]) (n := 4) (Nat.le_of_ble_eq_true rfl)
  rw [lg_entry_eq]
  generalize (lg_sl ([.ref h0, .int 0, .int 0, .int 0]) ++ List.replicate (4 - (lg_sl ([.ref h0, .int 0, .int 0, .int 0])).length) Slot.unset).toArray = ls at hl ⊢
  have hl : lv_has ls 4 [(0, .ref h0), (1, .int 0), (2, .int 0), (3, .int 0)] := hl
  refine lv_iload_n hx hb dX3_cut_0 rfl (lv_at hl 1 rfl) ?_
  have hPc := hP.sub (ws' := []) [] rfl
  have hDc := hD.sub (ws' := []) [] (by decide) rfl
  have hKc := hK.sub (tys' := []) [] rfl
  have hFc := va_free (wc := []) hD hS hA [] rfl
  refine va_callv (va_runS (As := [.int 0]) (rest := []) ⟨hx, hb, hml, hown, hts⟩ (kx_X3_needRope_0 l dC dI s.heap.size) (cwS 1 hts gX3_cut_X3_needRope rfl rfl rfl (by decide +kernel) ⟨Nat.le_of_ble_eq_true rfl, Nat.le_of_ble_eq_true rfl⟩) ⟨fun a U g mk q => by obtain ⟨q0, q1, qP, qK, qD⟩ := q; exact ⟨q0, q1, qP, va_K.moved (u := U) (U := U.calling g mk a) (Vm.Alike.refl U.vm) qK, qD⟩, fun U hU hW => ⟨rfl, by rw [hU], by rw [hU]; exact hPc, va_K.moved hW.alike hKc, hDc.weaken (fun _ _ _ _ => trivial)⟩⟩ rfl rfl hl.1 rfl (lv_room (Nat.le_of_ble_eq_true rfl)) dX3_cut_1 ⟨Nat.le_of_ble_eq_true rfl, Nat.le_of_ble_eq_true rfl⟩) hS (fun q _ h => hFc q h) hFc (fun u t H1 locs ht hvm hw hB hz1 hk1 hS => ?_)
  obtain ⟨hP1, hK1, hD1⟩ := hB
  rw [ht] at hP1
  have hK1 := va_K.moved hvm.symm hK1
  obtain ⟨hP, hD⟩ := va_join (wr := [(h0, .inr (7, [.ref h1, .ref z0, .ref z1, .ref h2, .ref z2, .ref z3, .int 0, .int 0, .int 0])), (h1, .inl (k0, 4, .inr (.inr (.inr (.inr (va_up (va_up (va_up (va_up (fun _ => none) 0 (some h4)) 1 (some h6)) 2 (some h8)) 3 (some h10))))))), (h2, .inr (6, [.ref h3, .int 0])), (h3, .inl (k1, 64, .inl (fun _ => 0))), (h4, .inr (6, [.ref h5, .int 0])), (h5, .inl (k2, 64, .inl (fun _ => 0))), (h6, .inr (6, [.ref h7, .int 0])), (h7, .inl (k3, 64, .inl (fun _ => 0))), (h8, .inr (6, [.ref h9, .int 0])), (h9, .inl (k4, 64, .inl (fun _ => 0))), (h10, .inr (6, [.ref h11, .int 0])), (h11, .inl (k5, 64, .inl (fun _ => 0)))]) (w1 := []) hP hD [] [0, 1, 2, 3, 4, 5, 6, 7, 8, 9, 10, 11] rfl rfl (by decide) (by decide) hk1 hFc hP1 hD1
  generalize H1 = H at hP hS ⊢
  have hP : va_P (dC, dI) vwCl [(h0, .inr (7, [.ref h1, .ref z0, .ref z1, .ref h2, .ref z2, .ref z3, .int 0, .int 0, .int 0])), (h1, .inl (k0, 4, .inr (.inr (.inr (.inr (va_up (va_up (va_up (va_up (fun _ => none) 0 (some h4)) 1 (some h6)) 2 (some h8)) 3 (some h10))))))), (h2, .inr (6, [.ref h3, .int 0])), (h3, .inl (k1, 64, .inl (fun _ => 0))), (h4, .inr (6, [.ref h5, .int 0])), (h5, .inl (k2, 64, .inl (fun _ => 0))), (h6, .inr (6, [.ref h7, .int 0])), (h7, .inl (k3, 64, .inl (fun _ => 0))), (h8, .inr (6, [.ref h9, .int 0])), (h9, .inl (k4, 64, .inl (fun _ => 0))), (h10, .inr (6, [.ref h11, .int 0])), (h11, .inl (k5, 64, .inl (fun _ => 0)))] H := hP
  have hD : va_D A [(h0, .inr (7, [.ref h1, .ref z0, .ref z1, .ref h2, .ref z2, .ref z3, .int 0, .int 0, .int 0])), (h1, .inl (k0, 4, .inr (.inr (.inr (.inr (va_up (va_up (va_up (va_up (fun _ => none) 0 (some h4)) 1 (some h6)) 2 (some h8)) 3 (some h10))))))), (h2, .inr (6, [.ref h3, .int 0])), (h3, .inl (k1, 64, .inl (fun _ => 0))), (h4, .inr (6, [.ref h5, .int 0])), (h5, .inl (k2, 64, .inl (fun _ => 0))), (h6, .inr (6, [.ref h7, .int 0])), (h7, .inl (k3, 64, .inl (fun _ => 0))), (h8, .inr (6, [.ref h9, .int 0])), (h9, .inl (k4, 64, .inl (fun _ => 0))), (h10, .inr (6, [.ref h11, .int 0])), (h11, .inl (k5, 64, .inl (fun _ => 0)))] := hD
  refine lv_aload_n hx hb dX3_cut_4 rfl (lv_at hl 0 rfl) ?_
  refine va_get (D := (dC, dI)) (ci := 7) (v := .ref h1) (C := RX3) (T := TX3) (N := 9) hx hb hts (by decide +kernel) hown hK hP 0 rfl rfl 0 (by decide) (hts (.fieldLink RX3 11 "Rewriterope" "ropes" "[LRewriterope$Text;") (by decide +kernel)) (fun _ h9 => h9) rfl dX3_cut_5 ?_
  refine lv_iload_n hx hb dX3_cut_8 rfl (lv_at hl 1 rfl) ?_
  refine va_aldq (D := (dC, dI)) hx hb hK hP 1 0 rfl rfl (by unfold vp_in; decide) dX3_cut_9 ?_
  refine W.eq (g2 := F0 m 10 ls [.ref h4]) rfl ?_
  refine lv_iload_n hx hb dX3_cut_10 rfl (lv_at hl 2 rfl) ?_
  have hPc := hP.sub (ws' := [(h4, .inr (6, [.ref h5, .int 0]))]) [4] rfl
  have hDc := hD.sub (ws' := [(h4, .inr (6, [.ref h5, .int 0]))]) [4] (by decide) rfl
  have hKc := hK.sub (tys' := []) [] rfl
  have hFc := va_free (wc := [(h4, .inr (6, [.ref h5, .int 0]))]) hD hS hA [4] rfl
  refine va_callv (va_runS (As := [.ref h4, .int 0]) (rest := []) ⟨hx, hb, hml, hown, hts⟩ (kx_X3_needPlace_2 l dC dI h4 h5 H.size) (cwS 2 hts gX3_cut_X3_needPlace rfl rfl rfl (by decide +kernel) ⟨Nat.le_of_ble_eq_true rfl, Nat.le_of_ble_eq_true rfl⟩) ⟨fun a U g mk q => by obtain ⟨q0, q1, qP, qK, qD⟩ := q; exact ⟨q0, q1, qP, va_K.moved (u := U) (U := U.calling g mk a) (Vm.Alike.refl U.vm) qK, qD⟩, fun U hU hW => ⟨rfl, by rw [hU], by rw [hU]; exact hPc, va_K.moved hW.alike hKc, hDc.weaken (fun _ _ _ _ => trivial)⟩⟩ rfl rfl hl.1 rfl (lv_room (Nat.le_of_ble_eq_true rfl)) dX3_cut_11 ⟨Nat.le_of_ble_eq_true rfl, Nat.le_of_ble_eq_true rfl⟩) hS (fun q _ h => hFc q h) hFc (fun u t H1 locs ht hvm hw hB hz1 hk1 hS => ?_)
  obtain ⟨hP1, hK1, hD1⟩ := hB
  rw [ht] at hP1
  have hK1 := va_K.moved hvm.symm hK1
  obtain ⟨hP, hD⟩ := va_join (wr := [(h0, .inr (7, [.ref h1, .ref z0, .ref z1, .ref h2, .ref z2, .ref z3, .int 0, .int 0, .int 0])), (h1, .inl (k0, 4, .inr (.inr (.inr (.inr (va_up (va_up (va_up (va_up (fun _ => none) 0 (some h4)) 1 (some h6)) 2 (some h8)) 3 (some h10))))))), (h2, .inr (6, [.ref h3, .int 0])), (h3, .inl (k1, 64, .inl (fun _ => 0))), (h5, .inl (k2, 64, .inl (fun _ => 0))), (h6, .inr (6, [.ref h7, .int 0])), (h7, .inl (k3, 64, .inl (fun _ => 0))), (h8, .inr (6, [.ref h9, .int 0])), (h9, .inl (k4, 64, .inl (fun _ => 0))), (h10, .inr (6, [.ref h11, .int 0])), (h11, .inl (k5, 64, .inl (fun _ => 0)))]) (w1 := [(h4, .inr (6, [.ref h5, .int 0]))]) hP hD [4] [0, 1, 2, 3, 5, 6, 7, 8, 9, 10, 11] rfl rfl (by decide) (by decide) hk1 hFc hP1 hD1
  generalize H1 = H at hP hS ⊢
  have hP : va_P (dC, dI) vwCl [(h0, .inr (7, [.ref h1, .ref z0, .ref z1, .ref h2, .ref z2, .ref z3, .int 0, .int 0, .int 0])), (h1, .inl (k0, 4, .inr (.inr (.inr (.inr (va_up (va_up (va_up (va_up (fun _ => none) 0 (some h4)) 1 (some h6)) 2 (some h8)) 3 (some h10))))))), (h2, .inr (6, [.ref h3, .int 0])), (h3, .inl (k1, 64, .inl (fun _ => 0))), (h5, .inl (k2, 64, .inl (fun _ => 0))), (h6, .inr (6, [.ref h7, .int 0])), (h7, .inl (k3, 64, .inl (fun _ => 0))), (h8, .inr (6, [.ref h9, .int 0])), (h9, .inl (k4, 64, .inl (fun _ => 0))), (h10, .inr (6, [.ref h11, .int 0])), (h11, .inl (k5, 64, .inl (fun _ => 0))), (h4, .inr (6, [.ref h5, .int 0]))] H := hP
  have hD : va_D A [(h0, .inr (7, [.ref h1, .ref z0, .ref z1, .ref h2, .ref z2, .ref z3, .int 0, .int 0, .int 0])), (h1, .inl (k0, 4, .inr (.inr (.inr (.inr (va_up (va_up (va_up (va_up (fun _ => none) 0 (some h4)) 1 (some h6)) 2 (some h8)) 3 (some h10))))))), (h2, .inr (6, [.ref h3, .int 0])), (h3, .inl (k1, 64, .inl (fun _ => 0))), (h5, .inl (k2, 64, .inl (fun _ => 0))), (h6, .inr (6, [.ref h7, .int 0])), (h7, .inl (k3, 64, .inl (fun _ => 0))), (h8, .inr (6, [.ref h9, .int 0])), (h9, .inl (k4, 64, .inl (fun _ => 0))), (h10, .inr (6, [.ref h11, .int 0])), (h11, .inl (k5, 64, .inl (fun _ => 0))), (h4, .inr (6, [.ref h5, .int 0]))] := hD
  refine lv_aload_n hx hb dX3_cut_14 rfl (lv_at hl 0 rfl) ?_
  refine va_get (D := (dC, dI)) (ci := 7) (v := .ref h1) (C := RX3) (T := TX3) (N := 9) hx hb hts (by decide +kernel) hown hK hP 0 rfl rfl 0 (by decide) (hts (.fieldLink RX3 11 "Rewriterope" "ropes" "[LRewriterope$Text;") (by decide +kernel)) (fun _ h9 => h9) rfl dX3_cut_15 ?_
  refine lv_iload_n hx hb dX3_cut_18 rfl (lv_at hl 1 rfl) ?_
  refine va_aldq (D := (dC, dI)) hx hb hK hP 1 0 rfl rfl (by unfold vp_in; decide) dX3_cut_19 ?_
  refine W.eq (g2 := F0 m 20 ls [.ref h4]) rfl ?_
  refine lv_iload_n hx hb dX3_cut_20 rfl (lv_at hl 3 rfl) ?_
  have hPc := hP.sub (ws' := [(h4, .inr (6, [.ref h5, .int 0]))]) [11] rfl
  have hDc := hD.sub (ws' := [(h4, .inr (6, [.ref h5, .int 0]))]) [11] (by decide) rfl
  have hKc := hK.sub (tys' := []) [] rfl
  have hFc := va_free (wc := [(h4, .inr (6, [.ref h5, .int 0]))]) hD hS hA [11] rfl
  refine va_callv (va_runS (As := [.ref h4, .int 0]) (rest := []) ⟨hx, hb, hml, hown, hts⟩ (kx_X3_needPlace_2 l dC dI h4 h5 H.size) (cwS 2 hts gX3_cut_X3_needPlace rfl rfl rfl (by decide +kernel) ⟨Nat.le_of_ble_eq_true rfl, Nat.le_of_ble_eq_true rfl⟩) ⟨fun a U g mk q => by obtain ⟨q0, q1, qP, qK, qD⟩ := q; exact ⟨q0, q1, qP, va_K.moved (u := U) (U := U.calling g mk a) (Vm.Alike.refl U.vm) qK, qD⟩, fun U hU hW => ⟨rfl, by rw [hU], by rw [hU]; exact hPc, va_K.moved hW.alike hKc, hDc.weaken (fun _ _ _ _ => trivial)⟩⟩ rfl rfl hl.1 rfl (lv_room (Nat.le_of_ble_eq_true rfl)) dX3_cut_21 ⟨Nat.le_of_ble_eq_true rfl, Nat.le_of_ble_eq_true rfl⟩) hS (fun q _ h => hFc q h) hFc (fun u t H1 locs ht hvm hw hB hz1 hk1 hS => ?_)
  obtain ⟨hP1, hK1, hD1⟩ := hB
  rw [ht] at hP1
  have hK1 := va_K.moved hvm.symm hK1
  obtain ⟨hP, hD⟩ := va_join (wr := [(h0, .inr (7, [.ref h1, .ref z0, .ref z1, .ref h2, .ref z2, .ref z3, .int 0, .int 0, .int 0])), (h1, .inl (k0, 4, .inr (.inr (.inr (.inr (va_up (va_up (va_up (va_up (fun _ => none) 0 (some h4)) 1 (some h6)) 2 (some h8)) 3 (some h10))))))), (h2, .inr (6, [.ref h3, .int 0])), (h3, .inl (k1, 64, .inl (fun _ => 0))), (h5, .inl (k2, 64, .inl (fun _ => 0))), (h6, .inr (6, [.ref h7, .int 0])), (h7, .inl (k3, 64, .inl (fun _ => 0))), (h8, .inr (6, [.ref h9, .int 0])), (h9, .inl (k4, 64, .inl (fun _ => 0))), (h10, .inr (6, [.ref h11, .int 0])), (h11, .inl (k5, 64, .inl (fun _ => 0)))]) (w1 := [(h4, .inr (6, [.ref h5, .int 0]))]) hP hD [11] [0, 1, 2, 3, 4, 5, 6, 7, 8, 9, 10] rfl rfl (by decide) (by decide) hk1 hFc hP1 hD1
  generalize H1 = H at hP hS ⊢
  have hP : va_P (dC, dI) vwCl [(h0, .inr (7, [.ref h1, .ref z0, .ref z1, .ref h2, .ref z2, .ref z3, .int 0, .int 0, .int 0])), (h1, .inl (k0, 4, .inr (.inr (.inr (.inr (va_up (va_up (va_up (va_up (fun _ => none) 0 (some h4)) 1 (some h6)) 2 (some h8)) 3 (some h10))))))), (h2, .inr (6, [.ref h3, .int 0])), (h3, .inl (k1, 64, .inl (fun _ => 0))), (h5, .inl (k2, 64, .inl (fun _ => 0))), (h6, .inr (6, [.ref h7, .int 0])), (h7, .inl (k3, 64, .inl (fun _ => 0))), (h8, .inr (6, [.ref h9, .int 0])), (h9, .inl (k4, 64, .inl (fun _ => 0))), (h10, .inr (6, [.ref h11, .int 0])), (h11, .inl (k5, 64, .inl (fun _ => 0))), (h4, .inr (6, [.ref h5, .int 0]))] H := hP
  have hD : va_D A [(h0, .inr (7, [.ref h1, .ref z0, .ref z1, .ref h2, .ref z2, .ref z3, .int 0, .int 0, .int 0])), (h1, .inl (k0, 4, .inr (.inr (.inr (.inr (va_up (va_up (va_up (va_up (fun _ => none) 0 (some h4)) 1 (some h6)) 2 (some h8)) 3 (some h10))))))), (h2, .inr (6, [.ref h3, .int 0])), (h3, .inl (k1, 64, .inl (fun _ => 0))), (h5, .inl (k2, 64, .inl (fun _ => 0))), (h6, .inr (6, [.ref h7, .int 0])), (h7, .inl (k3, 64, .inl (fun _ => 0))), (h8, .inr (6, [.ref h9, .int 0])), (h9, .inl (k4, 64, .inl (fun _ => 0))), (h10, .inr (6, [.ref h11, .int 0])), (h11, .inl (k5, 64, .inl (fun _ => 0))), (h4, .inr (6, [.ref h5, .int 0]))] := hD
  refine lv_iload_n hx hb dX3_cut_24 rfl (lv_at hl 2 rfl) ?_
  refine lv_iload_n hx hb dX3_cut_25 rfl (lv_at hl 3 rfl) ?_
  refine lv_icmp_le (tgt := 39) hx hb dX3_cut_26 (by decide) (fun _ => ?_) (fun c9 => absurd (by decide) c9)
  refine lv_aload_n hx hb dX3_cut_39 rfl (lv_at hl 0 rfl) ?_
  refine va_get (D := (dC, dI)) (ci := 7) (v := .ref h2) (C := RX3) (T := TX3) (N := 9) hx hb hts (by decide +kernel) hown hK hP 0 rfl rfl 3 (by decide) (hts (.fieldLink RX3 32 "Rewriterope" "work" "LRewriterope$Text;") (by decide +kernel)) (fun _ h9 => h9) rfl dX3_cut_40 ?_
  have hPc := hP.sub (ws' := [(h2, .inr (6, [.ref h3, .int 0]))]) [2] rfl
  have hDc := hD.sub (ws' := [(h2, .inr (6, [.ref h3, .int 0]))]) [2] (by decide) rfl
  have hKc := hK.sub (tys' := []) [] rfl
  have hFc := va_free (wc := [(h2, .inr (6, [.ref h3, .int 0]))]) hD hS hA [2] rfl
  refine va_callv (va_runV (As := []) (rest := []) ⟨hx, hb, hml, hown, hts⟩ (kx_X2_makeEmpty_0 l dC dI h2 h3 H.size) (cwV 0 hts gX3_cut_X2_makeEmpty rfl rfl rfl (by decide +kernel) ⟨Nat.le_of_ble_eq_true rfl, Nat.le_of_ble_eq_true rfl⟩) ⟨fun a U g mk q => by obtain ⟨q0, q1, qP, qK, qD⟩ := q; exact ⟨q0, q1, qP, va_K.moved (u := U) (U := U.calling g mk a) (Vm.Alike.refl U.vm) qK, qD⟩, va_recv hKc hPc (ci := 6) (q0 := 0) rfl rfl, fun U hU hW => ⟨rfl, by rw [hU], by rw [hU]; exact hPc, va_K.moved hW.alike hKc, hDc.weaken (fun _ _ _ _ => trivial)⟩⟩ rfl rfl hl.1 rfl (lv_room (Nat.le_of_ble_eq_true rfl)) dX3_cut_43 ⟨Nat.le_of_ble_eq_true rfl, Nat.le_of_ble_eq_true rfl⟩) hS (fun q _ h => hFc q h) hFc (fun u t H1 locs ht hvm hw hB hz1 hk1 hS => ?_)
  obtain ⟨hP1, hK1, hD1⟩ := hB
  rw [ht] at hP1
  have hK1 := va_K.moved hvm.symm hK1
  obtain ⟨hP, hD⟩ := va_join (wr := [(h0, .inr (7, [.ref h1, .ref z0, .ref z1, .ref h2, .ref z2, .ref z3, .int 0, .int 0, .int 0])), (h1, .inl (k0, 4, .inr (.inr (.inr (.inr (va_up (va_up (va_up (va_up (fun _ => none) 0 (some h4)) 1 (some h6)) 2 (some h8)) 3 (some h10))))))), (h3, .inl (k1, 64, .inl (fun _ => 0))), (h5, .inl (k2, 64, .inl (fun _ => 0))), (h6, .inr (6, [.ref h7, .int 0])), (h7, .inl (k3, 64, .inl (fun _ => 0))), (h8, .inr (6, [.ref h9, .int 0])), (h9, .inl (k4, 64, .inl (fun _ => 0))), (h10, .inr (6, [.ref h11, .int 0])), (h11, .inl (k5, 64, .inl (fun _ => 0))), (h4, .inr (6, [.ref h5, .int 0]))]) (w1 := [(h2, .inr (6, [.ref h3, .int 0]))]) hP hD [2] [0, 1, 3, 4, 5, 6, 7, 8, 9, 10, 11] rfl rfl (by decide) (by decide) hk1 hFc hP1 hD1
  generalize H1 = H at hP hS ⊢
  have hP : va_P (dC, dI) vwCl [(h0, .inr (7, [.ref h1, .ref z0, .ref z1, .ref h2, .ref z2, .ref z3, .int 0, .int 0, .int 0])), (h1, .inl (k0, 4, .inr (.inr (.inr (.inr (va_up (va_up (va_up (va_up (fun _ => none) 0 (some h4)) 1 (some h6)) 2 (some h8)) 3 (some h10))))))), (h3, .inl (k1, 64, .inl (fun _ => 0))), (h5, .inl (k2, 64, .inl (fun _ => 0))), (h6, .inr (6, [.ref h7, .int 0])), (h7, .inl (k3, 64, .inl (fun _ => 0))), (h8, .inr (6, [.ref h9, .int 0])), (h9, .inl (k4, 64, .inl (fun _ => 0))), (h10, .inr (6, [.ref h11, .int 0])), (h11, .inl (k5, 64, .inl (fun _ => 0))), (h4, .inr (6, [.ref h5, .int 0])), (h2, .inr (6, [.ref h3, .int 0]))] H := hP
  have hD : va_D A [(h0, .inr (7, [.ref h1, .ref z0, .ref z1, .ref h2, .ref z2, .ref z3, .int 0, .int 0, .int 0])), (h1, .inl (k0, 4, .inr (.inr (.inr (.inr (va_up (va_up (va_up (va_up (fun _ => none) 0 (some h4)) 1 (some h6)) 2 (some h8)) 3 (some h10))))))), (h3, .inl (k1, 64, .inl (fun _ => 0))), (h5, .inl (k2, 64, .inl (fun _ => 0))), (h6, .inr (6, [.ref h7, .int 0])), (h7, .inl (k3, 64, .inl (fun _ => 0))), (h8, .inr (6, [.ref h9, .int 0])), (h9, .inl (k4, 64, .inl (fun _ => 0))), (h10, .inr (6, [.ref h11, .int 0])), (h11, .inl (k5, 64, .inl (fun _ => 0))), (h4, .inr (6, [.ref h5, .int 0])), (h2, .inr (6, [.ref h3, .int 0]))] := hD
  refine lv_aload_n hx hb dX3_cut_46 rfl (lv_at hl 0 rfl) ?_
  refine va_get (D := (dC, dI)) (ci := 7) (v := .ref h1) (C := RX3) (T := TX3) (N := 9) hx hb hts (by decide +kernel) hown hK hP 0 rfl rfl 0 (by decide) (hts (.fieldLink RX3 11 "Rewriterope" "ropes" "[LRewriterope$Text;") (by decide +kernel)) (fun _ h9 => h9) rfl dX3_cut_47 ?_
  refine lv_iload_n hx hb dX3_cut_50 rfl (lv_at hl 1 rfl) ?_
  refine va_aldq (D := (dC, dI)) hx hb hK hP 1 0 rfl rfl (by unfold vp_in; decide) dX3_cut_51 ?_
  refine W.eq (g2 := F0 m 52 ls [.ref h4]) rfl ?_
  refine lv_iload_n hx hb dX3_cut_52 rfl (lv_at hl 2 rfl) ?_
  refine lv_iload_n hx hb dX3_cut_53 rfl (lv_at hl 3 rfl) ?_
  refine lv_aload_n hx hb dX3_cut_54 rfl (lv_at hl 0 rfl) ?_
  refine va_get (D := (dC, dI)) (ci := 7) (v := .ref h2) (C := RX3) (T := TX3) (N := 9) hx hb hts (by decide +kernel) hown hK hP 0 rfl rfl 3 (by decide) (hts (.fieldLink RX3 32 "Rewriterope" "work" "LRewriterope$Text;") (by decide +kernel)) (fun _ h9 => h9) rfl dX3_cut_55 ?_
  have hPc := hP.sub (ws' := [(h3, .inl (k1, 64, .inl (fun _ => 0))), (h5, .inl (k2, 64, .inl (fun _ => 0))), (h4, .inr (6, [.ref h5, .int 0])), (h2, .inr (6, [.ref h3, .int 0]))]) [2, 3, 10, 11] rfl
  have hDc := hD.sub (ws' := [(h3, .inl (k1, 64, .inl (fun _ => 0))), (h5, .inl (k2, 64, .inl (fun _ => 0))), (h4, .inr (6, [.ref h5, .int 0])), (h2, .inr (6, [.ref h3, .int 0]))]) [2, 3, 10, 11] (by decide) rfl
  have hKc := hK.sub (tys' := [(k1, .byte), (k2, .byte)]) [1, 2] rfl
  have hFc := va_free (wc := [(h3, .inl (k1, 64, .inl (fun _ => 0))), (h5, .inl (k2, 64, .inl (fun _ => 0))), (h4, .inr (6, [.ref h5, .int 0])), (h2, .inr (6, [.ref h3, .int 0]))]) hD hS hA [2, 3, 10, 11] rfl
  refine va_callv (va_runV (As := [.int 0, .int 0, .ref h2]) (rest := []) ⟨hx, hb, hml, hown, hts⟩ (kx_X2_replace_2 l dC dI h3 h5 h4 h2 k1 k2 H.size) (cwV 3 hts gX3_cut_X2_replace rfl rfl rfl (by decide +kernel) ⟨Nat.le_of_ble_eq_true rfl, Nat.le_of_ble_eq_true rfl⟩) ⟨fun a U g mk q => by obtain ⟨q0, q1, qP, qK, qD⟩ := q; exact ⟨q0, q1, qP, va_K.moved (u := U) (U := U.calling g mk a) (Vm.Alike.refl U.vm) qK, qD⟩, va_recv hKc hPc (ci := 6) (q0 := 2) rfl rfl, fun U hU hW => ⟨rfl, by rw [hU], by rw [hU]; exact hPc, va_K.moved hW.alike hKc, hDc.weaken (fun _ _ _ _ => trivial)⟩⟩ rfl rfl hl.1 rfl (lv_room (Nat.le_of_ble_eq_true rfl)) dX3_cut_58 ⟨Nat.le_of_ble_eq_true rfl, Nat.le_of_ble_eq_true rfl⟩) hS (fun q _ h => hFc q h) hFc (fun u t H1 locs ht hvm hw hB hz1 hk1 hS => ?_)
  obtain ⟨hP1, hK1, hD1⟩ := hB
  rw [ht] at hP1
  have hK1 := va_K.moved hvm.symm hK1
  obtain ⟨hP, hD⟩ := va_join (wr := [(h0, .inr (7, [.ref h1, .ref z0, .ref z1, .ref h2, .ref z2, .ref z3, .int 0, .int 0, .int 0])), (h1, .inl (k0, 4, .inr (.inr (.inr (.inr (va_up (va_up (va_up (va_up (fun _ => none) 0 (some h4)) 1 (some h6)) 2 (some h8)) 3 (some h10))))))), (h6, .inr (6, [.ref h7, .int 0])), (h7, .inl (k3, 64, .inl (fun _ => 0))), (h8, .inr (6, [.ref h9, .int 0])), (h9, .inl (k4, 64, .inl (fun _ => 0))), (h10, .inr (6, [.ref h11, .int 0])), (h11, .inl (k5, 64, .inl (fun _ => 0)))]) (w1 := [(h3, .inl (k1, 64, .inl (fun _ => 0))), (h5, .inl (k2, 64, .inl (fun _ => 0))), (h4, .inr (6, [.ref h5, .int 0])), (h2, .inr (6, [.ref h3, .int 0]))]) hP hD [2, 3, 10, 11] [0, 1, 4, 5, 6, 7, 8, 9] rfl rfl (by decide) (by decide) hk1 hFc hP1 hD1
  generalize H1 = H at hP hS ⊢
  have hP : va_P (dC, dI) vwCl [(h0, .inr (7, [.ref h1, .ref z0, .ref z1, .ref h2, .ref z2, .ref z3, .int 0, .int 0, .int 0])), (h1, .inl (k0, 4, .inr (.inr (.inr (.inr (va_up (va_up (va_up (va_up (fun _ => none) 0 (some h4)) 1 (some h6)) 2 (some h8)) 3 (some h10))))))), (h6, .inr (6, [.ref h7, .int 0])), (h7, .inl (k3, 64, .inl (fun _ => 0))), (h8, .inr (6, [.ref h9, .int 0])), (h9, .inl (k4, 64, .inl (fun _ => 0))), (h10, .inr (6, [.ref h11, .int 0])), (h11, .inl (k5, 64, .inl (fun _ => 0))), (h3, .inl (k1, 64, .inl (fun _ => 0))), (h5, .inl (k2, 64, .inl (fun _ => 0))), (h4, .inr (6, [.ref h5, .int 0])), (h2, .inr (6, [.ref h3, .int 0]))] H := hP
  have hD : va_D A [(h0, .inr (7, [.ref h1, .ref z0, .ref z1, .ref h2, .ref z2, .ref z3, .int 0, .int 0, .int 0])), (h1, .inl (k0, 4, .inr (.inr (.inr (.inr (va_up (va_up (va_up (va_up (fun _ => none) 0 (some h4)) 1 (some h6)) 2 (some h8)) 3 (some h10))))))), (h6, .inr (6, [.ref h7, .int 0])), (h7, .inl (k3, 64, .inl (fun _ => 0))), (h8, .inr (6, [.ref h9, .int 0])), (h9, .inl (k4, 64, .inl (fun _ => 0))), (h10, .inr (6, [.ref h11, .int 0])), (h11, .inl (k5, 64, .inl (fun _ => 0))), (h3, .inl (k1, 64, .inl (fun _ => 0))), (h5, .inl (k2, 64, .inl (fun _ => 0))), (h4, .inr (6, [.ref h5, .int 0])), (h2, .inr (6, [.ref h3, .int 0]))] := hD
  refine lv_aload_n hx hb dX3_cut_61 rfl (lv_at hl 0 rfl) ?_
  refine va_get (D := (dC, dI)) (ci := 7) (v := .ref h1) (C := RX3) (T := TX3) (N := 9) hx hb hts (by decide +kernel) hown hK hP 0 rfl rfl 0 (by decide) (hts (.fieldLink RX3 11 "Rewriterope" "ropes" "[LRewriterope$Text;") (by decide +kernel)) (fun _ h9 => h9) rfl dX3_cut_62 ?_
  refine lv_iload_n hx hb dX3_cut_65 rfl (lv_at hl 1 rfl) ?_
  refine va_aldq (D := (dC, dI)) hx hb hK hP 1 0 rfl rfl (by unfold vp_in; decide) dX3_cut_66 ?_
  refine W.eq (g2 := F0 m 67 ls [.ref h4]) rfl ?_
  refine va_get (D := (dC, dI)) (ci := 6) (v := .int 0) (C := RX2) (T := TX2) (N := 2) hx hb hts (by decide +kernel) hown hK hP 10 rfl rfl 1 (by decide) (hts (.fieldLink RX3 65 "Rewriterope$Text" "length" "I") (by decide +kernel)) (fun _ h9 => h9) rfl dX3_cut_67 ?_
  have hP := hP.sub (ws' := [(h0, .inr (7, [.ref h1, .ref z0, .ref z1, .ref h2, .ref z2, .ref z3, .int 0, .int 0, .int 0])), (h1, .inl (k0, 4, .inr (.inr (.inr (.inr (va_up (va_up (va_up (va_up (fun _ => none) 0 (some h4)) 1 (some h6)) 2 (some h8)) 3 (some h10))))))), (h2, .inr (6, [.ref h3, .int 0])), (h3, .inl (k1, 64, .inl (fun _ => 0))), (h4, .inr (6, [.ref h5, .int 0])), (h5, .inl (k2, 64, .inl (fun _ => 0))), (h6, .inr (6, [.ref h7, .int 0])), (h7, .inl (k3, 64, .inl (fun _ => 0))), (h8, .inr (6, [.ref h9, .int 0])), (h9, .inl (k4, 64, .inl (fun _ => 0))), (h10, .inr (6, [.ref h11, .int 0])), (h11, .inl (k5, 64, .inl (fun _ => 0)))]) [0, 1, 11, 8, 10, 9, 2, 3, 4, 5, 6, 7] rfl
  have hD := hD.sub (ws' := [(h0, .inr (7, [.ref h1, .ref z0, .ref z1, .ref h2, .ref z2, .ref z3, .int 0, .int 0, .int 0])), (h1, .inl (k0, 4, .inr (.inr (.inr (.inr (va_up (va_up (va_up (va_up (fun _ => none) 0 (some h4)) 1 (some h6)) 2 (some h8)) 3 (some h10))))))), (h2, .inr (6, [.ref h3, .int 0])), (h3, .inl (k1, 64, .inl (fun _ => 0))), (h4, .inr (6, [.ref h5, .int 0])), (h5, .inl (k2, 64, .inl (fun _ => 0))), (h6, .inr (6, [.ref h7, .int 0])), (h7, .inl (k3, 64, .inl (fun _ => 0))), (h8, .inr (6, [.ref h9, .int 0])), (h9, .inl (k4, 64, .inl (fun _ => 0))), (h10, .inr (6, [.ref h11, .int 0])), (h11, .inl (k5, 64, .inl (fun _ => 0)))]) [0, 1, 11, 8, 10, 9, 2, 3, 4, 5, 6, 7] (by decide) rfl
  exact W.iret (v := 0) hx hb hr (fun t ht hW => ⟨⟨0, (), rfl, rfl, by rw [ht]; exact hP, va_K.moved hW.alike hK, hD⟩, hS.F ht⟩) hS.2.2 dX3_cut_70
set_option maxHeartbeats 4000000 in
set_option maxRecDepth 100000 in
theorem kx_X3_cut_19 (l : Launch) (dC : Nat → ClassId) (dI : Nat → Nat → Nat) (h0 : Nat) (h1 : Nat) (h2 : Nat) (h3 : Nat) (h4 : Nat) (h5 : Nat) (h6 : Nat) (h7 : Nat) (h8 : Nat) (h9 : Nat) (h10 : Nat) (h11 : Nat) (z0 : Nat) (z1 : Nat) (z2 : Nat) (z3 : Nat) (k0 : ClassId) (k1 : ClassId) (k2 : ClassId) (k3 : ClassId) (k4 : ClassId) (k5 : ClassId) (sz : Nat) : Met l yX3_cut wsX3_cut ({ frames := 2, cells := 0, slots := 0, locals := 84 }) (va_Pc [.ref h0, .int 1, .int 0, .int 0] (fun U => U.heap.size = sz ∧ va_P (dC, dI) vwCl [(h0, .inr (7, [.ref h1, .ref z0, .ref z1, .ref h2, .ref z2, .ref z3, .int 0, .int 0, .int 0])), (h1, .inl (k0, 4, .inr (.inr (.inr (.inr (va_up (va_up (va_up (va_up (fun _ => none) 0 (some h4)) 1 (some h6)) 2 (some h8)) 3 (some h10))))))), (h2, .inr (6, [.ref h3, .int 0])), (h3, .inl (k1, 64, .inl (fun _ => 0))), (h4, .inr (6, [.ref h5, .int 0])), (h5, .inl (k2, 64, .inl (fun _ => 0))), (h6, .inr (6, [.ref h7, .int 0])), (h7, .inl (k3, 64, .inl (fun _ => 0))), (h8, .inr (6, [.ref h9, .int 0])), (h9, .inl (k4, 64, .inl (fun _ => 0))), (h10, .inr (6, [.ref h11, .int 0])), (h11, .inl (k5, 64, .inl (fun _ => 0)))] U.heap ∧ va_K (dC, dI) vwCl [(k0, .object "Rewriterope$Text"), (k1, .byte), (k2, .byte), (k3, .byte), (k4, .byte), (k5, .byte)] U ∧ va_D (fun _ => True) [(h0, .inr (7, [.ref h1, .ref z0, .ref z1, .ref h2, .ref z2, .ref z3, .int 0, .int 0, .int 0])), (h1, .inl (k0, 4, .inr (.inr (.inr (.inr (va_up (va_up (va_up (va_up (fun _ => none) 0 (some h4)) 1 (some h6)) 2 (some h8)) 3 (some h10))))))), (h2, .inr (6, [.ref h3, .int 0])), (h3, .inl (k1, 64, .inl (fun _ => 0))), (h4, .inr (6, [.ref h5, .int 0])), (h5, .inl (k2, 64, .inl (fun _ => 0))), (h6, .inr (6, [.ref h7, .int 0])), (h7, .inl (k3, 64, .inl (fun _ => 0))), (h8, .inr (6, [.ref h9, .int 0])), (h9, .inl (k4, 64, .inl (fun _ => 0))), (h10, .inr (6, [.ref h11, .int 0])), (h11, .inl (k5, 64, .inl (fun _ => 0)))])) (va_Qi (fun (r : Int32) (_ : Unit) => r = 0) (fun (_ : Unit) (t : State) => va_P (dC, dI) vwCl [(h0, .inr (7, [.ref h1, .ref z0, .ref z1, .ref h2, .ref z2, .ref z3, .int 0, .int 0, .int 0])), (h1, .inl (k0, 4, .inr (.inr (.inr (.inr (va_up (va_up (va_up (va_up (fun _ => none) 0 (some h4)) 1 (some h6)) 2 (some h8)) 3 (some h10))))))), (h2, .inr (6, [.ref h3, .int 0])), (h3, .inl (k1, 64, .inl (fun _ => 0))), (h4, .inr (6, [.ref h5, .int 0])), (h5, .inl (k2, 64, .inl (fun _ => 0))), (h6, .inr (6, [.ref h7, .int 0])), (h7, .inl (k3, 64, .inl (fun _ => 0))), (h8, .inr (6, [.ref h9, .int 0])), (h9, .inl (k4, 64, .inl (fun _ => 0))), (h10, .inr (6, [.ref h11, .int 0])), (h11, .inl (k5, 64, .inl (fun _ => 0)))] t.heap ∧ va_K (dC, dI) vwCl [(k0, .object "Rewriterope$Text"), (k1, .byte), (k2, .byte), (k3, .byte), (k4, .byte), (k5, .byte)] t ∧ va_D (va_A [(h0, .inr (7, [.ref h1, .ref z0, .ref z1, .ref h2, .ref z2, .ref z3, .int 0, .int 0, .int 0])), (h1, .inl (k0, 4, .inr (.inr (.inr (.inr (va_up (va_up (va_up (va_up (fun _ => none) 0 (some h4)) 1 (some h6)) 2 (some h8)) 3 (some h10))))))), (h2, .inr (6, [.ref h3, .int 0])), (h3, .inl (k1, 64, .inl (fun _ => 0))), (h4, .inr (6, [.ref h5, .int 0])), (h5, .inl (k2, 64, .inl (fun _ => 0))), (h6, .inr (6, [.ref h7, .int 0])), (h7, .inl (k3, 64, .inl (fun _ => 0))), (h8, .inr (6, [.ref h9, .int 0])), (h9, .inl (k4, 64, .inl (fun _ => 0))), (h10, .inr (6, [.ref h11, .int 0])), (h11, .inl (k5, 64, .inl (fun _ => 0)))] sz) [(h0, .inr (7, [.ref h1, .ref z0, .ref z1, .ref h2, .ref z2, .ref z3, .int 0, .int 0, .int 0])), (h1, .inl (k0, 4, .inr (.inr (.inr (.inr (va_up (va_up (va_up (va_up (fun _ => none) 0 (some h4)) 1 (some h6)) 2 (some h8)) 3 (some h10))))))), (h2, .inr (6, [.ref h3, .int 0])), (h3, .inl (k1, 64, .inl (fun _ => 0))), (h4, .inr (6, [.ref h5, .int 0])), (h5, .inl (k2, 64, .inl (fun _ => 0))), (h6, .inr (6, [.ref h7, .int 0])), (h7, .inl (k3, 64, .inl (fun _ => 0))), (h8, .inr (6, [.ref h9, .int 0])), (h9, .inl (k4, 64, .inl (fun _ => 0))), (h10, .inr (6, [.ref h11, .int 0])), (h11, .inl (k5, 64, .inl (fun _ => 0)))]) (va_A [(h0, .inr (7, [.ref h1, .ref z0, .ref z1, .ref h2, .ref z2, .ref z3, .int 0, .int 0, .int 0])), (h1, .inl (k0, 4, .inr (.inr (.inr (.inr (va_up (va_up (va_up (va_up (fun _ => none) 0 (some h4)) 1 (some h6)) 2 (some h8)) 3 (some h10))))))), (h2, .inr (6, [.ref h3, .int 0])), (h3, .inl (k1, 64, .inl (fun _ => 0))), (h4, .inr (6, [.ref h5, .int 0])), (h5, .inl (k2, 64, .inl (fun _ => 0))), (h6, .inr (6, [.ref h7, .int 0])), (h7, .inl (k3, 64, .inl (fun _ => 0))), (h8, .inr (6, [.ref h9, .int 0])), (h9, .inl (k4, 64, .inl (fun _ => 0))), (h10, .inr (6, [.ref h11, .int 0])), (h11, .inl (k5, 64, .inl (fun _ => 0)))] sz)) 0 0 (va_A [(h0, .inr (7, [.ref h1, .ref z0, .ref z1, .ref h2, .ref z2, .ref z3, .int 0, .int 0, .int 0])), (h1, .inl (k0, 4, .inr (.inr (.inr (.inr (va_up (va_up (va_up (va_up (fun _ => none) 0 (some h4)) 1 (some h6)) 2 (some h8)) 3 (some h10))))))), (h2, .inr (6, [.ref h3, .int 0])), (h3, .inl (k1, 64, .inl (fun _ => 0))), (h4, .inr (6, [.ref h5, .int 0])), (h5, .inl (k2, 64, .inl (fun _ => 0))), (h6, .inr (6, [.ref h7, .int 0])), (h7, .inl (k3, 64, .inl (fun _ => 0))), (h8, .inr (6, [.ref h9, .int 0])), (h9, .inl (k4, 64, .inl (fun _ => 0))), (h10, .inr (6, [.ref h11, .int 0])), (h11, .inl (k5, 64, .inl (fun _ => 0)))] sz) := by
  refine Met.ofW (cc := cX3_cut) (maxL := 4) (ret := (some .int)) (by decide) rfl ?_
  intro p e s m args below meth c s₁ B hml hv
  obtain ⟨rfl, hsz, hP, hK, hD0⟩ := hv
  have hx := B.exec
  have hb := B.bytes
  have hr := B.returns
  have hts := atoms_spec (ws := wsX3_cut) B.pre
  have hown : s.vm.findClass RX3 = some m.cls := findClass_of_methodNamed B.named
  have hlocks := B.notSynchronized
  subst hsz
  have hD := hD0.self (sz := s.heap.size)
  generalize hAe : va_A [(h0, .inr (7, [.ref h1, .ref z0, .ref z1, .ref h2, .ref z2, .ref z3, .int 0, .int 0, .int 0])), (h1, .inl (k0, 4, .inr (.inr (.inr (.inr (va_up (va_up (va_up (va_up (fun _ => none) 0 (some h4)) 1 (some h6)) 2 (some h8)) 3 (some h10))))))), (h2, .inr (6, [.ref h3, .int 0])), (h3, .inl (k1, 64, .inl (fun _ => 0))), (h4, .inr (6, [.ref h5, .int 0])), (h5, .inl (k2, 64, .inl (fun _ => 0))), (h6, .inr (6, [.ref h7, .int 0])), (h7, .inl (k3, 64, .inl (fun _ => 0))), (h8, .inr (6, [.ref h9, .int 0])), (h9, .inl (k4, 64, .inl (fun _ => 0))), (h10, .inr (6, [.ref h11, .int 0])), (h11, .inl (k5, 64, .inl (fun _ => 0)))] s.heap.size = A at hD ⊢
  have hA : ∀ q : Nat, s.heap.size ≤ q → A q := fun q h => by rw [← hAe]; exact Or.inr h
  have hS : va_S A s.heap s.heap [] := va_S.rf
  have hP : va_P (dC, dI) vwCl [(h0, .inr (7, [.ref h1, .ref z0, .ref z1, .ref h2, .ref z2, .ref z3, .int 0, .int 0, .int 0])), (h1, .inl (k0, 4, .inr (.inr (.inr (.inr (va_up (va_up (va_up (va_up (fun _ => none) 0 (some h4)) 1 (some h6)) 2 (some h8)) 3 (some h10))))))), (h2, .inr (6, [.ref h3, .int 0])), (h3, .inl (k1, 64, .inl (fun _ => 0))), (h4, .inr (6, [.ref h5, .int 0])), (h5, .inl (k2, 64, .inl (fun _ => 0))), (h6, .inr (6, [.ref h7, .int 0])), (h7, .inl (k3, 64, .inl (fun _ => 0))), (h8, .inr (6, [.ref h9, .int 0])), (h9, .inl (k4, 64, .inl (fun _ => 0))), (h10, .inr (6, [.ref h11, .int 0])), (h11, .inl (k5, 64, .inl (fun _ => 0)))] s.heap := hP
  have hl := lv_entry ([.ref h0, .int 1, .int 0, .int 0]) (n := 4) (Nat.le_of_ble_eq_true rfl)
  rw [lg_entry_eq]
  generalize (lg_sl ([.ref h0, .int 1, .int 0, .int 0]) ++ List.replicate (4 - (lg_sl ([.ref h0, .int 1, .int 0, .int 0])).length) Slot.unset).toArray = ls at hl ⊢
  have hl : lv_has ls 4 [(0, .ref h0), (1, .int 1), (2, .int 0), (3, .int 0)] := hl
  refine lv_iload_n hx hb dX3_cut_0 rfl (lv_at hl 1 rfl) ?_
  have hPc := hP.sub (ws' := []) [] rfl
  have hDc := hD.sub (ws' := []) [] (by decide) rfl
  have hKc := hK.sub (tys' := []) [] rfl
  have hFc := va_free (wc := []) hD hS hA [] rfl
  refine va_callv (va_runS (As := [.int 1]) (rest := []) ⟨hx, hb, hml, hown, hts⟩ (kx_X3_needRope_1 l dC dI s.heap.size) (cwS 1 hts gX3_cut_X3_needRope rfl rfl rfl (by decide +kernel) ⟨Nat.le_of_ble_eq_true rfl, Nat.le_of_ble_eq_true rfl⟩) ⟨fun a U g mk q => by obtain ⟨q0, q1, qP, qK, qD⟩ := q; exact ⟨q0, q1, qP, va_K.moved (u := U) (U := U.calling g mk a) (Vm.Alike.refl U.vm) qK, qD⟩, fun U hU hW => ⟨rfl, by rw [hU], by rw [hU]; exact hPc, va_K.moved hW.alike hKc, hDc.weaken (fun _ _ _ _ => trivial)⟩⟩ rfl rfl hl.1 rfl (lv_room (Nat.le_of_ble_eq_true rfl)) dX3_cut_1 ⟨Nat.le_of_ble_eq_true rfl, Nat.le_of_ble_eq_true rfl⟩) hS (fun q _ h => hFc q h) hFc (fun u t H1 locs ht hvm hw hB hz1 hk1 hS => ?_)
  obtain ⟨hP1, hK1, hD1⟩ := hB
  rw [ht] at hP1
  have hK1 := va_K.moved hvm.symm hK1
  obtain ⟨hP, hD⟩ := va_join (wr := [(h0, .inr (7, [.ref h1, .ref z0, .ref z1, .ref h2, .ref z2, .ref z3, .int 0, .int 0, .int 0])), (h1, .inl (k0, 4, .inr (.inr (.inr (.inr (va_up (va_up (va_up (va_up (fun _ => none) 0 (some h4)) 1 (some h6)) 2 (some h8)) 3 (some h10))))))), (h2, .inr (6, [.ref h3, .int 0])), (h3, .inl (k1, 64, .inl (fun _ => 0))), (h4, .inr (6, [.ref h5, .int 0])), (h5, .inl (k2, 64, .inl (fun _ => 0))), (h6, .inr (6, [.ref h7, .int 0])), (h7, .inl (k3, 64, .inl (fun _ => 0))), (h8, .inr (6, [.ref h9, .int 0])), (h9, .inl (k4, 64, .inl (fun _ => 0))), (h10, .inr (6, [.ref h11, .int 0])), (h11, .inl (k5, 64, .inl (fun _ => 0)))]) (w1 := []) hP hD [] [0, 1, 2, 3, 4, 5, 6, 7, 8, 9, 10, 11] rfl rfl (by decide) (by decide) hk1 hFc hP1 hD1
  generalize H1 = H at hP hS ⊢
  have hP : va_P (dC, dI) vwCl [(h0, .inr (7, [.ref h1, .ref z0, .ref z1, .ref h2, .ref z2, .ref z3, .int 0, .int 0, .int 0])), (h1, .inl (k0, 4, .inr (.inr (.inr (.inr (va_up (va_up (va_up (va_up (fun _ => none) 0 (some h4)) 1 (some h6)) 2 (some h8)) 3 (some h10))))))), (h2, .inr (6, [.ref h3, .int 0])), (h3, .inl (k1, 64, .inl (fun _ => 0))), (h4, .inr (6, [.ref h5, .int 0])), (h5, .inl (k2, 64, .inl (fun _ => 0))), (h6, .inr (6, [.ref h7, .int 0])), (h7, .inl (k3, 64, .inl (fun _ => 0))), (h8, .inr (6, [.ref h9, .int 0])), (h9, .inl (k4, 64, .inl (fun _ => 0))), (h10, .inr (6, [.ref h11, .int 0])), (h11, .inl (k5, 64, .inl (fun _ => 0)))] H := hP
  have hD : va_D A [(h0, .inr (7, [.ref h1, .ref z0, .ref z1, .ref h2, .ref z2, .ref z3, .int 0, .int 0, .int 0])), (h1, .inl (k0, 4, .inr (.inr (.inr (.inr (va_up (va_up (va_up (va_up (fun _ => none) 0 (some h4)) 1 (some h6)) 2 (some h8)) 3 (some h10))))))), (h2, .inr (6, [.ref h3, .int 0])), (h3, .inl (k1, 64, .inl (fun _ => 0))), (h4, .inr (6, [.ref h5, .int 0])), (h5, .inl (k2, 64, .inl (fun _ => 0))), (h6, .inr (6, [.ref h7, .int 0])), (h7, .inl (k3, 64, .inl (fun _ => 0))), (h8, .inr (6, [.ref h9, .int 0])), (h9, .inl (k4, 64, .inl (fun _ => 0))), (h10, .inr (6, [.ref h11, .int 0])), (h11, .inl (k5, 64, .inl (fun _ => 0)))] := hD
  refine lv_aload_n hx hb dX3_cut_4 rfl (lv_at hl 0 rfl) ?_
  refine va_get (D := (dC, dI)) (ci := 7) (v := .ref h1) (C := RX3) (T := TX3) (N := 9) hx hb hts (by decide +kernel) hown hK hP 0 rfl rfl 0 (by decide) (hts (.fieldLink RX3 11 "Rewriterope" "ropes" "[LRewriterope$Text;") (by decide +kernel)) (fun _ h9 => h9) rfl dX3_cut_5 ?_
  refine lv_iload_n hx hb dX3_cut_8 rfl (lv_at hl 1 rfl) ?_
  refine va_aldq (D := (dC, dI)) hx hb hK hP 1 0 rfl rfl (by unfold vp_in; decide) dX3_cut_9 ?_
  refine W.eq (g2 := F0 m 10 ls [.ref h6]) rfl ?_
  refine lv_iload_n hx hb dX3_cut_10 rfl (lv_at hl 2 rfl) ?_
  have hPc := hP.sub (ws' := [(h6, .inr (6, [.ref h7, .int 0]))]) [6] rfl
  have hDc := hD.sub (ws' := [(h6, .inr (6, [.ref h7, .int 0]))]) [6] (by decide) rfl
  have hKc := hK.sub (tys' := []) [] rfl
  have hFc := va_free (wc := [(h6, .inr (6, [.ref h7, .int 0]))]) hD hS hA [6] rfl
  refine va_callv (va_runS (As := [.ref h6, .int 0]) (rest := []) ⟨hx, hb, hml, hown, hts⟩ (kx_X3_needPlace_2 l dC dI h6 h7 H.size) (cwS 2 hts gX3_cut_X3_needPlace rfl rfl rfl (by decide +kernel) ⟨Nat.le_of_ble_eq_true rfl, Nat.le_of_ble_eq_true rfl⟩) ⟨fun a U g mk q => by obtain ⟨q0, q1, qP, qK, qD⟩ := q; exact ⟨q0, q1, qP, va_K.moved (u := U) (U := U.calling g mk a) (Vm.Alike.refl U.vm) qK, qD⟩, fun U hU hW => ⟨rfl, by rw [hU], by rw [hU]; exact hPc, va_K.moved hW.alike hKc, hDc.weaken (fun _ _ _ _ => trivial)⟩⟩ rfl rfl hl.1 rfl (lv_room (Nat.le_of_ble_eq_true rfl)) dX3_cut_11 ⟨Nat.le_of_ble_eq_true rfl, Nat.le_of_ble_eq_true rfl⟩) hS (fun q _ h => hFc q h) hFc (fun u t H1 locs ht hvm hw hB hz1 hk1 hS => ?_)
  obtain ⟨hP1, hK1, hD1⟩ := hB
  rw [ht] at hP1
  have hK1 := va_K.moved hvm.symm hK1
  obtain ⟨hP, hD⟩ := va_join (wr := [(h0, .inr (7, [.ref h1, .ref z0, .ref z1, .ref h2, .ref z2, .ref z3, .int 0, .int 0, .int 0])), (h1, .inl (k0, 4, .inr (.inr (.inr (.inr (va_up (va_up (va_up (va_up (fun _ => none) 0 (some h4)) 1 (some h6)) 2 (some h8)) 3 (some h10))))))), (h2, .inr (6, [.ref h3, .int 0])), (h3, .inl (k1, 64, .inl (fun _ => 0))), (h4, .inr (6, [.ref h5, .int 0])), (h5, .inl (k2, 64, .inl (fun _ => 0))), (h7, .inl (k3, 64, .inl (fun _ => 0))), (h8, .inr (6, [.ref h9, .int 0])), (h9, .inl (k4, 64, .inl (fun _ => 0))), (h10, .inr (6, [.ref h11, .int 0])), (h11, .inl (k5, 64, .inl (fun _ => 0)))]) (w1 := [(h6, .inr (6, [.ref h7, .int 0]))]) hP hD [6] [0, 1, 2, 3, 4, 5, 7, 8, 9, 10, 11] rfl rfl (by decide) (by decide) hk1 hFc hP1 hD1
  generalize H1 = H at hP hS ⊢
  have hP : va_P (dC, dI) vwCl [(h0, .inr (7, [.ref h1, .ref z0, .ref z1, .ref h2, .ref z2, .ref z3, .int 0, .int 0, .int 0])), (h1, .inl (k0, 4, .inr (.inr (.inr (.inr (va_up (va_up (va_up (va_up (fun _ => none) 0 (some h4)) 1 (some h6)) 2 (some h8)) 3 (some h10))))))), (h2, .inr (6, [.ref h3, .int 0])), (h3, .inl (k1, 64, .inl (fun _ => 0))), (h4, .inr (6, [.ref h5, .int 0])), (h5, .inl (k2, 64, .inl (fun _ => 0))), (h7, .inl (k3, 64, .inl (fun _ => 0))), (h8, .inr (6, [.ref h9, .int 0])), (h9, .inl (k4, 64, .inl (fun _ => 0))), (h10, .inr (6, [.ref h11, .int 0])), (h11, .inl (k5, 64, .inl (fun _ => 0))), (h6, .inr (6, [.ref h7, .int 0]))] H := hP
  have hD : va_D A [(h0, .inr (7, [.ref h1, .ref z0, .ref z1, .ref h2, .ref z2, .ref z3, .int 0, .int 0, .int 0])), (h1, .inl (k0, 4, .inr (.inr (.inr (.inr (va_up (va_up (va_up (va_up (fun _ => none) 0 (some h4)) 1 (some h6)) 2 (some h8)) 3 (some h10))))))), (h2, .inr (6, [.ref h3, .int 0])), (h3, .inl (k1, 64, .inl (fun _ => 0))), (h4, .inr (6, [.ref h5, .int 0])), (h5, .inl (k2, 64, .inl (fun _ => 0))), (h7, .inl (k3, 64, .inl (fun _ => 0))), (h8, .inr (6, [.ref h9, .int 0])), (h9, .inl (k4, 64, .inl (fun _ => 0))), (h10, .inr (6, [.ref h11, .int 0])), (h11, .inl (k5, 64, .inl (fun _ => 0))), (h6, .inr (6, [.ref h7, .int 0]))] := hD
  refine lv_aload_n hx hb dX3_cut_14 rfl (lv_at hl 0 rfl) ?_
  refine va_get (D := (dC, dI)) (ci := 7) (v := .ref h1) (C := RX3) (T := TX3) (N := 9) hx hb hts (by decide +kernel) hown hK hP 0 rfl rfl 0 (by decide) (hts (.fieldLink RX3 11 "Rewriterope" "ropes" "[LRewriterope$Text;") (by decide +kernel)) (fun _ h9 => h9) rfl dX3_cut_15 ?_
  refine lv_iload_n hx hb dX3_cut_18 rfl (lv_at hl 1 rfl) ?_
  refine va_aldq (D := (dC, dI)) hx hb hK hP 1 0 rfl rfl (by unfold vp_in; decide) dX3_cut_19 ?_
  refine W.eq (g2 := F0 m 20 ls [.ref h6]) rfl ?_
  refine lv_iload_n hx hb dX3_cut_20 rfl (lv_at hl 3 rfl) ?_
  have hPc := hP.sub (ws' := [(h6, .inr (6, [.ref h7, .int 0]))]) [11] rfl
  have hDc := hD.sub (ws' := [(h6, .inr (6, [.ref h7, .int 0]))]) [11] (by decide) rfl
  have hKc := hK.sub (tys' := []) [] rfl
  have hFc := va_free (wc := [(h6, .inr (6, [.ref h7, .int 0]))]) hD hS hA [11] rfl
  refine va_callv (va_runS (As := [.ref h6, .int 0]) (rest := []) ⟨hx, hb, hml, hown, hts⟩ (kx_X3_needPlace_2 l dC dI h6 h7 H.size) (cwS 2 hts gX3_cut_X3_needPlace rfl rfl rfl (by decide +kernel) ⟨Nat.le_of_ble_eq_true rfl, Nat.le_of_ble_eq_true rfl⟩) ⟨fun a U g mk q => by obtain ⟨q0, q1, qP, qK, qD⟩ := q; exact ⟨q0, q1, qP, va_K.moved (u := U) (U := U.calling g mk a) (Vm.Alike.refl U.vm) qK, qD⟩, fun U hU hW => ⟨rfl, by rw [hU], by rw [hU]; exact hPc, va_K.moved hW.alike hKc, hDc.weaken (fun _ _ _ _ => trivial)⟩⟩ rfl rfl hl.1 rfl (lv_room (Nat.le_of_ble_eq_true rfl)) dX3_cut_21 ⟨Nat.le_of_ble_eq_true rfl, Nat.le_of_ble_eq_true rfl⟩) hS (fun q _ h => hFc q h) hFc (fun u t H1 locs ht hvm hw hB hz1 hk1 hS => ?_)
  obtain ⟨hP1, hK1, hD1⟩ := hB
  rw [ht] at hP1
  have hK1 := va_K.moved hvm.symm hK1
  obtain ⟨hP, hD⟩ := va_join (wr := [(h0, .inr (7, [.ref h1, .ref z0, .ref z1, .ref h2, .ref z2, .ref z3, .int 0, .int 0, .int 0])), (h1, .inl (k0, 4, .inr (.inr (.inr (.inr (va_up (va_up (va_up (va_up (fun _ => none) 0 (some h4)) 1 (some h6)) 2 (some h8)) 3 (some h10))))))), (h2, .inr (6, [.ref h3, .int 0])), (h3, .inl (k1, 64, .inl (fun _ => 0))), (h4, .inr (6, [.ref h5, .int 0])), (h5, .inl (k2, 64, .inl (fun _ => 0))), (h7, .inl (k3, 64, .inl (fun _ => 0))), (h8, .inr (6, [.ref h9, .int 0])), (h9, .inl (k4, 64, .inl (fun _ => 0))), (h10, .inr (6, [.ref h11, .int 0])), (h11, .inl (k5, 64, .inl (fun _ => 0)))]) (w1 := [(h6, .inr (6, [.ref h7, .int 0]))]) hP hD [11] [0, 1, 2, 3, 4, 5, 6, 7, 8, 9, 10] rfl rfl (by decide) (by decide) hk1 hFc hP1 hD1
  generalize H1 = H at hP hS ⊢
  have hP : va_P (dC, dI) vwCl [(h0, .inr (7, [.ref h1, .ref z0, .ref z1, .ref h2, .ref z2, .ref z3, .int 0, .int 0, .int 0])), (h1, .inl (k0, 4, .inr (.inr (.inr (.inr (va_up (va_up (va_up (va_up (fun _ => none) 0 (some h4)) 1 (some h6)) 2 (some h8)) 3 (some h10))))))), (h2, .inr (6, [.ref h3, .int 0])), (h3, .inl (k1, 64, .inl (fun _ => 0))), (h4, .inr (6, [.ref h5, .int 0])), (h5, .inl (k2, 64, .inl (fun _ => 0))), (h7, .inl (k3, 64, .inl (fun _ => 0))), (h8, .inr (6, [.ref h9, .int 0])), (h9, .inl (k4, 64, .inl (fun _ => 0))), (h10, .inr (6, [.ref h11, .int 0])), (h11, .inl (k5, 64, .inl (fun _ => 0))), (h6, .inr (6, [.ref h7, .int 0]))] H := hP
  have hD : va_D A [(h0, .inr (7, [.ref h1, .ref z0, .ref z1, .ref h2, .ref z2, .ref z3, .int 0, .int 0, .int 0])), (h1, .inl (k0, 4, .inr (.inr (.inr (.inr (va_up (va_up (va_up (va_up (fun _ => none) 0 (some h4)) 1 (some h6)) 2 (some h8)) 3 (some h10))))))), (h2, .inr (6, [.ref h3, .int 0])), (h3, .inl (k1, 64, .inl (fun _ => 0))), (h4, .inr (6, [.ref h5, .int 0])), (h5, .inl (k2, 64, .inl (fun _ => 0))), (h7, .inl (k3, 64, .inl (fun _ => 0))), (h8, .inr (6, [.ref h9, .int 0])), (h9, .inl (k4, 64, .inl (fun _ => 0))), (h10, .inr (6, [.ref h11, .int 0])), (h11, .inl (k5, 64, .inl (fun _ => 0))), (h6, .inr (6, [.ref h7, .int 0]))] := hD
  refine lv_iload_n hx hb dX3_cut_24 rfl (lv_at hl 2 rfl) ?_
  refine lv_iload_n hx hb dX3_cut_25 rfl (lv_at hl 3 rfl) ?_
  refine lv_icmp_le (tgt := 39) hx hb dX3_cut_26 (by decide) (fun _ => ?_) (fun c9 => absurd (by decide) c9)
  refine lv_aload_n hx hb dX3_cut_39 rfl (lv_at hl 0 rfl) ?_
  refine va_get (D := (dC, dI)) (ci := 7) (v := .ref h2) (C := RX3) (T := TX3) (N := 9) hx hb hts (by decide +kernel) hown hK hP 0 rfl rfl 3 (by decide) (hts (.fieldLink RX3 32 "Rewriterope" "work" "LRewriterope$Text;") (by decide +kernel)) (fun _ h9 => h9) rfl dX3_cut_40 ?_
  have hPc := hP.sub (ws' := [(h2, .inr (6, [.ref h3, .int 0]))]) [2] rfl
  have hDc := hD.sub (ws' := [(h2, .inr (6, [.ref h3, .int 0]))]) [2] (by decide) rfl
  have hKc := hK.sub (tys' := []) [] rfl
  have hFc := va_free (wc := [(h2, .inr (6, [.ref h3, .int 0]))]) hD hS hA [2] rfl
  refine va_callv (va_runV (As := []) (rest := []) ⟨hx, hb, hml, hown, hts⟩ (kx_X2_makeEmpty_0 l dC dI h2 h3 H.size) (cwV 0 hts gX3_cut_X2_makeEmpty rfl rfl rfl (by decide +kernel) ⟨Nat.le_of_ble_eq_true rfl, Nat.le_of_ble_eq_true rfl⟩) ⟨fun a U g mk q => by obtain ⟨q0, q1, qP, qK, qD⟩ := q; exact ⟨q0, q1, qP, va_K.moved (u := U) (U := U.calling g mk a) (Vm.Alike.refl U.vm) qK, qD⟩, va_recv hKc hPc (ci := 6) (q0 := 0) rfl rfl, fun U hU hW => ⟨rfl, by rw [hU], by rw [hU]; exact hPc, va_K.moved hW.alike hKc, hDc.weaken (fun _ _ _ _ => trivial)⟩⟩ rfl rfl hl.1 rfl (lv_room (Nat.le_of_ble_eq_true rfl)) dX3_cut_43 ⟨Nat.le_of_ble_eq_true rfl, Nat.le_of_ble_eq_true rfl⟩) hS (fun q _ h => hFc q h) hFc (fun u t H1 locs ht hvm hw hB hz1 hk1 hS => ?_)
  obtain ⟨hP1, hK1, hD1⟩ := hB
  rw [ht] at hP1
  have hK1 := va_K.moved hvm.symm hK1
  obtain ⟨hP, hD⟩ := va_join (wr := [(h0, .inr (7, [.ref h1, .ref z0, .ref z1, .ref h2, .ref z2, .ref z3, .int 0, .int 0, .int 0])), (h1, .inl (k0, 4, .inr (.inr (.inr (.inr (va_up (va_up (va_up (va_up (fun _ => none) 0 (some h4)) 1 (some h6)) 2 (some h8)) 3 (some h10))))))), (h3, .inl (k1, 64, .inl (fun _ => 0))), (h4, .inr (6, [.ref h5, .int 0])), (h5, .inl (k2, 64, .inl (fun _ => 0))), (h7, .inl (k3, 64, .inl (fun _ => 0))), (h8, .inr (6, [.ref h9, .int 0])), (h9, .inl (k4, 64, .inl (fun _ => 0))), (h10, .inr (6, [.ref h11, .int 0])), (h11, .inl (k5, 64, .inl (fun _ => 0))), (h6, .inr (6, [.ref h7, .int 0]))]) (w1 := [(h2, .inr (6, [.ref h3, .int 0]))]) hP hD [2] [0, 1, 3, 4, 5, 6, 7, 8, 9, 10, 11] rfl rfl (by decide) (by decide) hk1 hFc hP1 hD1
  generalize H1 = H at hP hS ⊢
  have hP : va_P (dC, dI) vwCl [(h0, .inr (7, [.ref h1, .ref z0, .ref z1, .ref h2, .ref z2, .ref z3, .int 0, .int 0, .int 0])), (h1, .inl (k0, 4, .inr (.inr (.inr (.inr (va_up (va_up (va_up (va_up (fun _ => none) 0 (some h4)) 1 (some h6)) 2 (some h8)) 3 (some h10))))))), (h3, .inl (k1, 64, .inl (fun _ => 0))), (h4, .inr (6, [.ref h5, .int 0])), (h5, .inl (k2, 64, .inl (fun _ => 0))), (h7, .inl (k3, 64, .inl (fun _ => 0))), (h8, .inr (6, [.ref h9, .int 0])), (h9, .inl (k4, 64, .inl (fun _ => 0))), (h10, .inr (6, [.ref h11, .int 0])), (h11, .inl (k5, 64, .inl (fun _ => 0))), (h6, .inr (6, [.ref h7, .int 0])), (h2, .inr (6, [.ref h3, .int 0]))] H := hP
  have hD : va_D A [(h0, .inr (7, [.ref h1, .ref z0, .ref z1, .ref h2, .ref z2, .ref z3, .int 0, .int 0, .int 0])), (h1, .inl (k0, 4, .inr (.inr (.inr (.inr (va_up (va_up (va_up (va_up (fun _ => none) 0 (some h4)) 1 (some h6)) 2 (some h8)) 3 (some h10))))))), (h3, .inl (k1, 64, .inl (fun _ => 0))), (h4, .inr (6, [.ref h5, .int 0])), (h5, .inl (k2, 64, .inl (fun _ => 0))), (h7, .inl (k3, 64, .inl (fun _ => 0))), (h8, .inr (6, [.ref h9, .int 0])), (h9, .inl (k4, 64, .inl (fun _ => 0))), (h10, .inr (6, [.ref h11, .int 0])), (h11, .inl (k5, 64, .inl (fun _ => 0))), (h6, .inr (6, [.ref h7, .int 0])), (h2, .inr (6, [.ref h3, .int 0]))] := hD
  refine lv_aload_n hx hb dX3_cut_46 rfl (lv_at hl 0 rfl) ?_
  refine va_get (D := (dC, dI)) (ci := 7) (v := .ref h1) (C := RX3) (T := TX3) (N := 9) hx hb hts (by decide +kernel) hown hK hP 0 rfl rfl 0 (by decide) (hts (.fieldLink RX3 11 "Rewriterope" "ropes" "[LRewriterope$Text;") (by decide +kernel)) (fun _ h9 => h9) rfl dX3_cut_47 ?_
  refine lv_iload_n hx hb dX3_cut_50 rfl (lv_at hl 1 rfl) ?_
  refine va_aldq (D := (dC, dI)) hx hb hK hP 1 0 rfl rfl (by unfold vp_in; decide) dX3_cut_51 ?_
  refine W.eq (g2 := F0 m 52 ls [.ref h6]) rfl ?_
  refine lv_iload_n hx hb dX3_cut_52 rfl (lv_at hl 2 rfl) ?_
  refine lv_iload_n hx hb dX3_cut_53 rfl (lv_at hl 3 rfl) ?_
  refine lv_aload_n hx hb dX3_cut_54 rfl (lv_at hl 0 rfl) ?_
  refine va_get (D := (dC, dI)) (ci := 7) (v := .ref h2) (C := RX3) (T := TX3) (N := 9) hx hb hts (by decide +kernel) hown hK hP 0 rfl rfl 3 (by decide) (hts (.fieldLink RX3 32 "Rewriterope" "work" "LRewriterope$Text;") (by decide +kernel)) (fun _ h9 => h9) rfl dX3_cut_55 ?_
  have hPc := hP.sub (ws' := [(h3, .inl (k1, 64, .inl (fun _ => 0))), (h7, .inl (k3, 64, .inl (fun _ => 0))), (h6, .inr (6, [.ref h7, .int 0])), (h2, .inr (6, [.ref h3, .int 0]))]) [2, 5, 10, 11] rfl
  have hDc := hD.sub (ws' := [(h3, .inl (k1, 64, .inl (fun _ => 0))), (h7, .inl (k3, 64, .inl (fun _ => 0))), (h6, .inr (6, [.ref h7, .int 0])), (h2, .inr (6, [.ref h3, .int 0]))]) [2, 5, 10, 11] (by decide) rfl
  have hKc := hK.sub (tys' := [(k1, .byte), (k3, .byte)]) [1, 3] rfl
  have hFc := va_free (wc := [(h3, .inl (k1, 64, .inl (fun _ => 0))), (h7, .inl (k3, 64, .inl (fun _ => 0))), (h6, .inr (6, [.ref h7, .int 0])), (h2, .inr (6, [.ref h3, .int 0]))]) hD hS hA [2, 5, 10, 11] rfl
  refine va_callv (va_runV (As := [.int 0, .int 0, .ref h2]) (rest := []) ⟨hx, hb, hml, hown, hts⟩ (kx_X2_replace_2 l dC dI h3 h7 h6 h2 k1 k3 H.size) (cwV 3 hts gX3_cut_X2_replace rfl rfl rfl (by decide +kernel) ⟨Nat.le_of_ble_eq_true rfl, Nat.le_of_ble_eq_true rfl⟩) ⟨fun a U g mk q => by obtain ⟨q0, q1, qP, qK, qD⟩ := q; exact ⟨q0, q1, qP, va_K.moved (u := U) (U := U.calling g mk a) (Vm.Alike.refl U.vm) qK, qD⟩, va_recv hKc hPc (ci := 6) (q0 := 2) rfl rfl, fun U hU hW => ⟨rfl, by rw [hU], by rw [hU]; exact hPc, va_K.moved hW.alike hKc, hDc.weaken (fun _ _ _ _ => trivial)⟩⟩ rfl rfl hl.1 rfl (lv_room (Nat.le_of_ble_eq_true rfl)) dX3_cut_58 ⟨Nat.le_of_ble_eq_true rfl, Nat.le_of_ble_eq_true rfl⟩) hS (fun q _ h => hFc q h) hFc (fun u t H1 locs ht hvm hw hB hz1 hk1 hS => ?_)
  obtain ⟨hP1, hK1, hD1⟩ := hB
  rw [ht] at hP1
  have hK1 := va_K.moved hvm.symm hK1
  obtain ⟨hP, hD⟩ := va_join (wr := [(h0, .inr (7, [.ref h1, .ref z0, .ref z1, .ref h2, .ref z2, .ref z3, .int 0, .int 0, .int 0])), (h1, .inl (k0, 4, .inr (.inr (.inr (.inr (va_up (va_up (va_up (va_up (fun _ => none) 0 (some h4)) 1 (some h6)) 2 (some h8)) 3 (some h10))))))), (h4, .inr (6, [.ref h5, .int 0])), (h5, .inl (k2, 64, .inl (fun _ => 0))), (h8, .inr (6, [.ref h9, .int 0])), (h9, .inl (k4, 64, .inl (fun _ => 0))), (h10, .inr (6, [.ref h11, .int 0])), (h11, .inl (k5, 64, .inl (fun _ => 0)))]) (w1 := [(h3, .inl (k1, 64, .inl (fun _ => 0))), (h7, .inl (k3, 64, .inl (fun _ => 0))), (h6, .inr (6, [.ref h7, .int 0])), (h2, .inr (6, [.ref h3, .int 0]))]) hP hD [2, 5, 10, 11] [0, 1, 3, 4, 6, 7, 8, 9] rfl rfl (by decide) (by decide) hk1 hFc hP1 hD1
  generalize H1 = H at hP hS ⊢
  have hP : va_P (dC, dI) vwCl [(h0, .inr (7, [.ref h1, .ref z0, .ref z1, .ref h2, .ref z2, .ref z3, .int 0, .int 0, .int 0])), (h1, .inl (k0, 4, .inr (.inr (.inr (.inr (va_up (va_up (va_up (va_up (fun _ => none) 0 (some h4)) 1 (some h6)) 2 (some h8)) 3 (some h10))))))), (h4, .inr (6, [.ref h5, .int 0])), (h5, .inl (k2, 64, .inl (fun _ => 0))), (h8, .inr (6, [.ref h9, .int 0])), (h9, .inl (k4, 64, .inl (fun _ => 0))), (h10, .inr (6, [.ref h11, .int 0])), (h11, .inl (k5, 64, .inl (fun _ => 0))), (h3, .inl (k1, 64, .inl (fun _ => 0))), (h7, .inl (k3, 64, .inl (fun _ => 0))), (h6, .inr (6, [.ref h7, .int 0])), (h2, .inr (6, [.ref h3, .int 0]))] H := hP
  have hD : va_D A [(h0, .inr (7, [.ref h1, .ref z0, .ref z1, .ref h2, .ref z2, .ref z3, .int 0, .int 0, .int 0])), (h1, .inl (k0, 4, .inr (.inr (.inr (.inr (va_up (va_up (va_up (va_up (fun _ => none) 0 (some h4)) 1 (some h6)) 2 (some h8)) 3 (some h10))))))), (h4, .inr (6, [.ref h5, .int 0])), (h5, .inl (k2, 64, .inl (fun _ => 0))), (h8, .inr (6, [.ref h9, .int 0])), (h9, .inl (k4, 64, .inl (fun _ => 0))), (h10, .inr (6, [.ref h11, .int 0])), (h11, .inl (k5, 64, .inl (fun _ => 0))), (h3, .inl (k1, 64, .inl (fun _ => 0))), (h7, .inl (k3, 64, .inl (fun _ => 0))), (h6, .inr (6, [.ref h7, .int 0])), (h2, .inr (6, [.ref h3, .int 0]))] := hD
  refine lv_aload_n hx hb dX3_cut_61 rfl (lv_at hl 0 rfl) ?_
  refine va_get (D := (dC, dI)) (ci := 7) (v := .ref h1) (C := RX3) (T := TX3) (N := 9) hx hb hts (by decide +kernel) hown hK hP 0 rfl rfl 0 (by decide) (hts (.fieldLink RX3 11 "Rewriterope" "ropes" "[LRewriterope$Text;") (by decide +kernel)) (fun _ h9 => h9) rfl dX3_cut_62 ?_
  refine lv_iload_n hx hb dX3_cut_65 rfl (lv_at hl 1 rfl) ?_
  refine va_aldq (D := (dC, dI)) hx hb hK hP 1 0 rfl rfl (by unfold vp_in; decide) dX3_cut_66 ?_
  refine W.eq (g2 := F0 m 67 ls [.ref h6]) rfl ?_
  refine va_get (D := (dC, dI)) (ci := 6) (v := .int 0) (C := RX2) (T := TX2) (N := 2) hx hb hts (by decide +kernel) hown hK hP 10 rfl rfl 1 (by decide) (hts (.fieldLink RX3 65 "Rewriterope$Text" "length" "I") (by decide +kernel)) (fun _ h9 => h9) rfl dX3_cut_67 ?_
  have hP := hP.sub (ws' := [(h0, .inr (7, [.ref h1, .ref z0, .ref z1, .ref h2, .ref z2, .ref z3, .int 0, .int 0, .int 0])), (h1, .inl (k0, 4, .inr (.inr (.inr (.inr (va_up (va_up (va_up (va_up (fun _ => none) 0 (some h4)) 1 (some h6)) 2 (some h8)) 3 (some h10))))))), (h2, .inr (6, [.ref h3, .int 0])), (h3, .inl (k1, 64, .inl (fun _ => 0))), (h4, .inr (6, [.ref h5, .int 0])), (h5, .inl (k2, 64, .inl (fun _ => 0))), (h6, .inr (6, [.ref h7, .int 0])), (h7, .inl (k3, 64, .inl (fun _ => 0))), (h8, .inr (6, [.ref h9, .int 0])), (h9, .inl (k4, 64, .inl (fun _ => 0))), (h10, .inr (6, [.ref h11, .int 0])), (h11, .inl (k5, 64, .inl (fun _ => 0)))]) [0, 1, 11, 8, 2, 3, 10, 9, 4, 5, 6, 7] rfl
  have hD := hD.sub (ws' := [(h0, .inr (7, [.ref h1, .ref z0, .ref z1, .ref h2, .ref z2, .ref z3, .int 0, .int 0, .int 0])), (h1, .inl (k0, 4, .inr (.inr (.inr (.inr (va_up (va_up (va_up (va_up (fun _ => none) 0 (some h4)) 1 (some h6)) 2 (some h8)) 3 (some h10))))))), (h2, .inr (6, [.ref h3, .int 0])), (h3, .inl (k1, 64, .inl (fun _ => 0))), (h4, .inr (6, [.ref h5, .int 0])), (h5, .inl (k2, 64, .inl (fun _ => 0))), (h6, .inr (6, [.ref h7, .int 0])), (h7, .inl (k3, 64, .inl (fun _ => 0))), (h8, .inr (6, [.ref h9, .int 0])), (h9, .inl (k4, 64, .inl (fun _ => 0))), (h10, .inr (6, [.ref h11, .int 0])), (h11, .inl (k5, 64, .inl (fun _ => 0)))]) [0, 1, 11, 8, 2, 3, 10, 9, 4, 5, 6, 7] (by decide) rfl
  exact W.iret (v := 0) hx hb hr (fun t ht hW => ⟨⟨0, (), rfl, rfl, by rw [ht]; exact hP, va_K.moved hW.alike hK, hD⟩, hS.F ht⟩) hS.2.2 dX3_cut_70
set_option maxHeartbeats 4000000 in
set_option maxRecDepth 100000 in
theorem kx_X3_cut_20 (l : Launch) (dC : Nat → ClassId) (dI : Nat → Nat → Nat) (h0 : Nat) (h1 : Nat) (h2 : Nat) (h3 : Nat) (h4 : Nat) (h5 : Nat) (h6 : Nat) (h7 : Nat) (h8 : Nat) (h9 : Nat) (h10 : Nat) (h11 : Nat) (z0 : Nat) (z1 : Nat) (z2 : Nat) (z3 : Nat) (k0 : ClassId) (k1 : ClassId) (k2 : ClassId) (k3 : ClassId) (k4 : ClassId) (k5 : ClassId) (sz : Nat) : Met l yX3_cut wsX3_cut ({ frames := 2, cells := 0, slots := 0, locals := 84 }) (va_Pc [.ref h0, .int 2, .int 0, .int 0] (fun U => U.heap.size = sz ∧ va_P (dC, dI) vwCl [(h0, .inr (7, [.ref h1, .ref z0, .ref z1, .ref h2, .ref z2, .ref z3, .int 0, .int 0, .int 0])), (h1, .inl (k0, 4, .inr (.inr (.inr (.inr (va_up (va_up (va_up (va_up (fun _ => none) 0 (some h4)) 1 (some h6)) 2 (some h8)) 3 (some h10))))))), (h2, .inr (6, [.ref h3, .int 0])), (h3, .inl (k1, 64, .inl (fun _ => 0))), (h4, .inr (6, [.ref h5, .int 0])), (h5, .inl (k2, 64, .inl (fun _ => 0))), (h6, .inr (6, [.ref h7, .int 0])), (h7, .inl (k3, 64, .inl (fun _ => 0))), (h8, .inr (6, [.ref h9, .int 0])), (h9, .inl (k4, 64, .inl (fun _ => 0))), (h10, .inr (6, [.ref h11, .int 0])), (h11, .inl (k5, 64, .inl (fun _ => 0)))] U.heap ∧ va_K (dC, dI) vwCl [(k0, .object "Rewriterope$Text"), (k1, .byte), (k2, .byte), (k3, .byte), (k4, .byte), (k5, .byte)] U ∧ va_D (fun _ => True) [(h0, .inr (7, [.ref h1, .ref z0, .ref z1, .ref h2, .ref z2, .ref z3, .int 0, .int 0, .int 0])), (h1, .inl (k0, 4, .inr (.inr (.inr (.inr (va_up (va_up (va_up (va_up (fun _ => none) 0 (some h4)) 1 (some h6)) 2 (some h8)) 3 (some h10))))))), (h2, .inr (6, [.ref h3, .int 0])), (h3, .inl (k1, 64, .inl (fun _ => 0))), (h4, .inr (6, [.ref h5, .int 0])), (h5, .inl (k2, 64, .inl (fun _ => 0))), (h6, .inr (6, [.ref h7, .int 0])), (h7, .inl (k3, 64, .inl (fun _ => 0))), (h8, .inr (6, [.ref h9, .int 0])), (h9, .inl (k4, 64, .inl (fun _ => 0))), (h10, .inr (6, [.ref h11, .int 0])), (h11, .inl (k5, 64, .inl (fun _ => 0)))])) (va_Qi (fun (r : Int32) (_ : Unit) => r = 0) (fun (_ : Unit) (t : State) => va_P (dC, dI) vwCl [(h0, .inr (7, [.ref h1, .ref z0, .ref z1, .ref h2, .ref z2, .ref z3, .int 0, .int 0, .int 0])), (h1, .inl (k0, 4, .inr (.inr (.inr (.inr (va_up (va_up (va_up (va_up (fun _ => none) 0 (some h4)) 1 (some h6)) 2 (some h8)) 3 (some h10))))))), (h2, .inr (6, [.ref h3, .int 0])), (h3, .inl (k1, 64, .inl (fun _ => 0))), (h4, .inr (6, [.ref h5, .int 0])), (h5, .inl (k2, 64, .inl (fun _ => 0))), (h6, .inr (6, [.ref h7, .int 0])), (h7, .inl (k3, 64, .inl (fun _ => 0))), (h8, .inr (6, [.ref h9, .int 0])), (h9, .inl (k4, 64, .inl (fun _ => 0))), (h10, .inr (6, [.ref h11, .int 0])), (h11, .inl (k5, 64, .inl (fun _ => 0)))] t.heap ∧ va_K (dC, dI) vwCl [(k0, .object "Rewriterope$Text"), (k1, .byte), (k2, .byte), (k3, .byte), (k4, .byte), (k5, .byte)] t ∧ va_D (va_A [(h0, .inr (7, [.ref h1, .ref z0, .ref z1, .ref h2, .ref z2, .ref z3, .int 0, .int 0, .int 0])), (h1, .inl (k0, 4, .inr (.inr (.inr (.inr (va_up (va_up (va_up (va_up (fun _ => none) 0 (some h4)) 1 (some h6)) 2 (some h8)) 3 (some h10))))))), (h2, .inr (6, [.ref h3, .int 0])), (h3, .inl (k1, 64, .inl (fun _ => 0))), (h4, .inr (6, [.ref h5, .int 0])), (h5, .inl (k2, 64, .inl (fun _ => 0))), (h6, .inr (6, [.ref h7, .int 0])), (h7, .inl (k3, 64, .inl (fun _ => 0))), (h8, .inr (6, [.ref h9, .int 0])), (h9, .inl (k4, 64, .inl (fun _ => 0))), (h10, .inr (6, [.ref h11, .int 0])), (h11, .inl (k5, 64, .inl (fun _ => 0)))] sz) [(h0, .inr (7, [.ref h1, .ref z0, .ref z1, .ref h2, .ref z2, .ref z3, .int 0, .int 0, .int 0])), (h1, .inl (k0, 4, .inr (.inr (.inr (.inr (va_up (va_up (va_up (va_up (fun _ => none) 0 (some h4)) 1 (some h6)) 2 (some h8)) 3 (some h10))))))), (h2, .inr (6, [.ref h3, .int 0])), (h3, .inl (k1, 64, .inl (fun _ => 0))), (h4, .inr (6, [.ref h5, .int 0])), (h5, .inl (k2, 64, .inl (fun _ => 0))), (h6, .inr (6, [.ref h7, .int 0])), (h7, .inl (k3, 64, .inl (fun _ => 0))), (h8, .inr (6, [.ref h9, .int 0])), (h9, .inl (k4, 64, .inl (fun _ => 0))), (h10, .inr (6, [.ref h11, .int 0])), (h11, .inl (k5, 64, .inl (fun _ => 0)))]) (va_A [(h0, .inr (7, [.ref h1, .ref z0, .ref z1, .ref h2, .ref z2, .ref z3, .int 0, .int 0, .int 0])), (h1, .inl (k0, 4, .inr (.inr (.inr (.inr (va_up (va_up (va_up (va_up (fun _ => none) 0 (some h4)) 1 (some h6)) 2 (some h8)) 3 (some h10))))))), (h2, .inr (6, [.ref h3, .int 0])), (h3, .inl (k1, 64, .inl (fun _ => 0))), (h4, .inr (6, [.ref h5, .int 0])), (h5, .inl (k2, 64, .inl (fun _ => 0))), (h6, .inr (6, [.ref h7, .int 0])), (h7, .inl (k3, 64, .inl (fun _ => 0))), (h8, .inr (6, [.ref h9, .int 0])), (h9, .inl (k4, 64, .inl (fun _ => 0))), (h10, .inr (6, [.ref h11, .int 0])), (h11, .inl (k5, 64, .inl (fun _ => 0)))] sz)) 0 0 (va_A [(h0, .inr (7, [.ref h1, .ref z0, .ref z1, .ref h2, .ref z2, .ref z3, .int 0, .int 0, .int 0])), (h1, .inl (k0, 4, .inr (.inr (.inr (.inr (va_up (va_up (va_up (va_up (fun _ => none) 0 (some h4)) 1 (some h6)) 2 (some h8)) 3 (some h10))))))), (h2, .inr (6, [.ref h3, .int 0])), (h3, .inl (k1, 64, .inl (fun _ => 0))), (h4, .inr (6, [.ref h5, .int 0])), (h5, .inl (k2, 64, .inl (fun _ => 0))), (h6, .inr (6, [.ref h7, .int 0])), (h7, .inl (k3, 64, .inl (fun _ => 0))), (h8, .inr (6, [.ref h9, .int 0])), (h9, .inl (k4, 64, .inl (fun _ => 0))), (h10, .inr (6, [.ref h11, .int 0])), (h11, .inl (k5, 64, .inl (fun _ => 0)))] sz) := by
  refine Met.ofW (cc := cX3_cut) (maxL := 4) (ret := (some .int)) (by decide) rfl ?_
  intro p e s m args below meth c s₁ B hml hv
  obtain ⟨rfl, hsz, hP, hK, hD0⟩ := hv
  have hx := B.exec
  have hb := B.bytes
  have hr := B.returns
  have hts := atoms_spec (ws := wsX3_cut) B.pre
  have hown : s.vm.findClass RX3 = some m.cls := findClass_of_methodNamed B.named
  have hlocks := B.notSynchronized
  subst hsz
  have hD := hD0.self (sz := s.heap.size)
  generalize hAe : va_A [(h0, .inr (7, [.ref h1, .ref z0, .ref z1, .ref h2, .ref z2, .ref z3, .int 0, .int 0, .int 0])), (h1, .inl (k0, 4, .inr (.inr (.inr (.inr (va_up (va_up (va_up (va_up (fun _ => none) 0 (some h4)) 1 (some h6)) 2 (some h8)) 3 (some h10))))))), (h2, .inr (6, [.ref h3, .int 0])), (h3, .inl (k1, 64, .inl (fun _ => 0))), (h4, .inr (6, [.ref h5, .int 0])), (h5, .inl (k2, 64, .inl (fun _ => 0))), (h6, .inr (6, [.ref h7, .int 0])), (h7, .inl (k3, 64, .inl (fun _ => 0))), (h8, .inr (6, [.ref h9, .int 0])), (h9, .inl (k4, 64, .inl (fun _ => 0))), (h10, .inr (6, [.ref h11, .int 0])), (h11, .inl (k5, 64, .inl (fun _ => 0)))] s.heap.size = A at hD ⊢
  have hA : ∀ q : Nat, s.heap.size ≤ q → A q := fun q h => by rw [← hAe]; exact Or.inr h
  have hS : va_S A s.heap s.heap [] := va_S.rf
  have hP : va_P (dC, dI) vwCl [(h0, .inr (7, [.ref h1, .ref z0, .ref z1, .ref h2, .ref z2, .ref z3, .int 0, .int 0, .int 0])), (h1, .inl (k0, 4, .inr (.inr (.inr (.inr (va_up (va_up (va_up (va_up (fun _ => none) 0 (some h4)) 1 (some h6)) 2 (some h8)) 3 (some h10))))))), (h2, .inr (6, [.ref h3, .int 0])), (h3, .inl (k1, 64, .inl (fun _ => 0))), (h4, .inr (6, [.ref h5, .int 0])), (h5, .inl (k2, 64, .inl (fun _ => 0))), (h6, .inr (6, [.ref h7, .int 0])), (h7, .inl (k3, 64, .inl (fun _ => 0))), (h8, .inr (6, [.ref h9, .int 0])), (h9, .inl (k4, 64, .inl (fun _ => 0))), (h10, .inr (6, [.ref h11, .int 0])), (h11, .inl (k5, 64, .inl (fun _ => 0)))] s.heap := hP
  have hl := lv_entry ([.ref h0, .int 2, .int 0, .int 0]) (n := 4) (Nat.le_of_ble_eq_true rfl)
  rw [lg_entry_eq]
  generalize (lg_sl ([.ref h0, .int 2, .int 0, .int 0]) ++ List.replicate (4 - (lg_sl ([.ref h0, .int 2, .int 0, .int 0])).length) Slot.unset).toArray = ls at hl ⊢
  have hl : lv_has ls 4 [(0, .ref h0), (1, .int 2), (2, .int 0), (3, .int 0)] := hl
  refine lv_iload_n hx hb dX3_cut_0 rfl (lv_at hl 1 rfl) ?_
  have hPc := hP.sub (ws' := []) [] rfl
  have hDc := hD.sub (ws' := []) [] (by decide) rfl
  have hKc := hK.sub (tys' := []) [] rfl
  have hFc := va_free (wc := []) hD hS hA [] rfl
  refine va_callv (va_runS (As := [.int 2]) (rest := []) ⟨hx, hb, hml, hown, hts⟩ (kx_X3_needRope_2 l dC dI s.heap.size) (cwS 1 hts gX3_cut_X3_needRope rfl rfl rfl (by decide +kernel) ⟨Nat.le_of_ble_eq_true rfl, Nat.le_of_ble_eq_true rfl⟩) ⟨fun a U g mk q => by obtain ⟨q0, q1, qP, qK, qD⟩ := q; exact ⟨q0, q1, qP, va_K.moved (u := U) (U := U.calling g mk a) (Vm.Alike.refl U.vm) qK, qD⟩, fun U hU hW => ⟨rfl, by rw [hU], by rw [hU]; exact hPc, va_K.moved hW.alike hKc, hDc.weaken (fun _ _ _ _ => trivial)⟩⟩ rfl rfl hl.1 rfl (lv_room (Nat.le_of_ble_eq_true rfl)) dX3_cut_1 ⟨Nat.le_of_ble_eq_true rfl, Nat.le_of_ble_eq_true rfl⟩) hS (fun q _ h => hFc q h) hFc (fun u t H1 locs ht hvm hw hB hz1 hk1 hS => ?_)
  obtain ⟨hP1, hK1, hD1⟩ := hB
  rw [ht] at hP1
  have hK1 := va_K.moved hvm.symm hK1
  obtain ⟨hP, hD⟩ := va_join (wr := [(h0, .inr (7, [.ref h1, .ref z0, .ref z1, .ref h2, .ref z2, .ref z3, .int 0, .int 0, .int 0])), (h1, .inl (k0, 4, .inr (.inr (.inr (.inr (va_up (va_up (va_up (va_up (fun _ => none) 0 (some h4)) 1 (some h6)) 2 (some h8)) 3 (some h10))))))), (h2, .inr (6, [.ref h3, .int 0])), (h3, .inl (k1, 64, .inl (fun _ => 0))), (h4, .inr (6, [.ref h5, .int 0])), (h5, .inl (k2, 64, .inl (fun _ => 0))), (h6, .inr (6, [.ref h7, .int 0])), (h7, .inl (k3, 64, .inl (fun _ => 0))), (h8, .inr (6, [.ref h9, .int 0])), (h9, .inl (k4, 64, .inl (fun _ => 0))), (h10, .inr (6, [.ref h11, .int 0])), (h11, .inl (k5, 64, .inl (fun _ => 0)))]) (w1 := []) hP hD [] [0, 1, 2, 3, 4, 5, 6, 7, 8, 9, 10, 11] rfl rfl (by decide) (by decide) hk1 hFc hP1 hD1
  generalize H1 = H at hP hS ⊢
  have hP : va_P (dC, dI) vwCl [(h0, .inr (7, [.ref h1, .ref z0, .ref z1, .ref h2, .ref z2, .ref z3, .int 0, .int 0, .int 0])), (h1, .inl (k0, 4, .inr (.inr (.inr (.inr (va_up (va_up (va_up (va_up (fun _ => none) 0 (some h4)) 1 (some h6)) 2 (some h8)) 3 (some h10))))))), (h2, .inr (6, [.ref h3, .int 0])), (h3, .inl (k1, 64, .inl (fun _ => 0))), (h4, .inr (6, [.ref h5, .int 0])), (h5, .inl (k2, 64, .inl (fun _ => 0))), (h6, .inr (6, [.ref h7, .int 0])), (h7, .inl (k3, 64, .inl (fun _ => 0))), (h8, .inr (6, [.ref h9, .int 0])), (h9, .inl (k4, 64, .inl (fun _ => 0))), (h10, .inr (6, [.ref h11, .int 0])), (h11, .inl (k5, 64, .inl (fun _ => 0)))] H := hP
  have hD : va_D A [(h0, .inr (7, [.ref h1, .ref z0, .ref z1, .ref h2, .ref z2, .ref z3, .int 0, .int 0, .int 0])), (h1, .inl (k0, 4, .inr (.inr (.inr (.inr (va_up (va_up (va_up (va_up (fun _ => none) 0 (some h4)) 1 (some h6)) 2 (some h8)) 3 (some h10))))))), (h2, .inr (6, [.ref h3, .int 0])), (h3, .inl (k1, 64, .inl (fun _ => 0))), (h4, .inr (6, [.ref h5, .int 0])), (h5, .inl (k2, 64, .inl (fun _ => 0))), (h6, .inr (6, [.ref h7, .int 0])), (h7, .inl (k3, 64, .inl (fun _ => 0))), (h8, .inr (6, [.ref h9, .int 0])), (h9, .inl (k4, 64, .inl (fun _ => 0))), (h10, .inr (6, [.ref h11, .int 0])), (h11, .inl (k5, 64, .inl (fun _ => 0)))] := hD
  refine lv_aload_n hx hb dX3_cut_4 rfl (lv_at hl 0 rfl) ?_
  refine va_get (D := (dC, dI)) (ci := 7) (v := .ref h1) (C := RX3) (T := TX3) (N := 9) hx hb hts (by decide +kernel) hown hK hP 0 rfl rfl 0 (by decide) (hts (.fieldLink RX3 11 "Rewriterope" "ropes" "[LRewriterope$Text;") (by decide +kernel)) (fun _ h9 => h9) rfl dX3_cut_5 ?_
  refine lv_iload_n hx hb dX3_cut_8 rfl (lv_at hl 1 rfl) ?_
  refine va_aldq (D := (dC, dI)) hx hb hK hP 1 0 rfl rfl (by unfold vp_in; decide) dX3_cut_9 ?_
  refine W.eq (g2 := F0 m 10 ls [.ref h8]) rfl ?_
  refine lv_iload_n hx hb dX3_cut_10 rfl (lv_at hl 2 rfl) ?_
  have hPc := hP.sub (ws' := [(h8, .inr (6, [.ref h9, .int 0]))]) [8] rfl
  have hDc := hD.sub (ws' := [(h8, .inr (6, [.ref h9, .int 0]))]) [8] (by decide) rfl
  have hKc := hK.sub (tys' := []) [] rfl
  have hFc := va_free (wc := [(h8, .inr (6, [.ref h9, .int 0]))]) hD hS hA [8] rfl
  refine va_callv (va_runS (As := [.ref h8, .int 0]) (rest := []) ⟨hx, hb, hml, hown, hts⟩ (kx_X3_needPlace_2 l dC dI h8 h9 H.size) (cwS 2 hts gX3_cut_X3_needPlace rfl rfl rfl (by decide +kernel) ⟨Nat.le_of_ble_eq_true rfl, Nat.le_of_ble_eq_true rfl⟩) ⟨fun a U g mk q => by obtain ⟨q0, q1, qP, qK, qD⟩ := q; exact ⟨q0, q1, qP, va_K.moved (u := U) (U := U.calling g mk a) (Vm.Alike.refl U.vm) qK, qD⟩, fun U hU hW => ⟨rfl, by rw [hU], by rw [hU]; exact hPc, va_K.moved hW.alike hKc, hDc.weaken (fun _ _ _ _ => trivial)⟩⟩ rfl rfl hl.1 rfl (lv_room (Nat.le_of_ble_eq_true rfl)) dX3_cut_11 ⟨Nat.le_of_ble_eq_true rfl, Nat.le_of_ble_eq_true rfl⟩) hS (fun q _ h => hFc q h) hFc (fun u t H1 locs ht hvm hw hB hz1 hk1 hS => ?_)
  obtain ⟨hP1, hK1, hD1⟩ := hB
  rw [ht] at hP1
  have hK1 := va_K.moved hvm.symm hK1
  obtain ⟨hP, hD⟩ := va_join (wr := [(h0, .inr (7, [.ref h1, .ref z0, .ref z1, .ref h2, .ref z2, .ref z3, .int 0, .int 0, .int 0])), (h1, .inl (k0, 4, .inr (.inr (.inr (.inr (va_up (va_up (va_up (va_up (fun _ => none) 0 (some h4)) 1 (some h6)) 2 (some h8)) 3 (some h10))))))), (h2, .inr (6, [.ref h3, .int 0])), (h3, .inl (k1, 64, .inl (fun _ => 0))), (h4, .inr (6, [.ref h5, .int 0])), (h5, .inl (k2, 64, .inl (fun _ => 0))), (h6, .inr (6, [.ref h7, .int 0])), (h7, .inl (k3, 64, .inl (fun _ => 0))), (h9, .inl (k4, 64, .inl (fun _ => 0))), (h10, .inr (6, [.ref h11, .int 0])), (h11, .inl (k5, 64, .inl (fun _ => 0)))]) (w1 := [(h8, .inr (6, [.ref h9, .int 0]))]) hP hD [8] [0, 1, 2, 3, 4, 5, 6, 7, 9, 10, 11] rfl rfl (by decide) (by decide) hk1 hFc hP1 hD1
  generalize H1 = H at hP hS ⊢
  have hP : va_P (dC, dI) vwCl [(h0, .inr (7, [.ref h1, .ref z0, .ref z1, .ref h2, .ref z2, .ref z3, .int 0, .int 0, .int 0])), (h1, .inl (k0, 4, .inr (.inr (.inr (.inr (va_up (va_up (va_up (va_up (fun _ => none) 0 (some h4)) 1 (some h6)) 2 (some h8)) 3 (some h10))))))), (h2, .inr (6, [.ref h3, .int 0])), (h3, .inl (k1, 64, .inl (fun _ => 0))), (h4, .inr (6, [.ref h5, .int 0])), (h5, .inl (k2, 64, .inl (fun _ => 0))), (h6, .inr (6, [.ref h7, .int 0])), (h7, .inl (k3, 64, .inl (fun _ => 0))), (h9, .inl (k4, 64, .inl (fun _ => 0))), (h10, .inr (6, [.ref h11, .int 0])), (h11, .inl (k5, 64, .inl (fun _ => 0))), (h8, .inr (6, [.ref h9, .int 0]))] H := hP
  have hD : va_D A [(h0, .inr (7, [.ref h1, .ref z0, .ref z1, .ref h2, .ref z2, .ref z3, .int 0, .int 0, .int 0])), (h1, .inl (k0, 4, .inr (.inr (.inr (.inr (va_up (va_up (va_up (va_up (fun _ => none) 0 (some h4)) 1 (some h6)) 2 (some h8)) 3 (some h10))))))), (h2, .inr (6, [.ref h3, .int 0])), (h3, .inl (k1, 64, .inl (fun _ => 0))), (h4, .inr (6, [.ref h5, .int 0])), (h5, .inl (k2, 64, .inl (fun _ => 0))), (h6, .inr (6, [.ref h7, .int 0])), (h7, .inl (k3, 64, .inl (fun _ => 0))), (h9, .inl (k4, 64, .inl (fun _ => 0))), (h10, .inr (6, [.ref h11, .int 0])), (h11, .inl (k5, 64, .inl (fun _ => 0))), (h8, .inr (6, [.ref h9, .int 0]))] := hD
  refine lv_aload_n hx hb dX3_cut_14 rfl (lv_at hl 0 rfl) ?_
  refine va_get (D := (dC, dI)) (ci := 7) (v := .ref h1) (C := RX3) (T := TX3) (N := 9) hx hb hts (by decide +kernel) hown hK hP 0 rfl rfl 0 (by decide) (hts (.fieldLink RX3 11 "Rewriterope" "ropes" "[LRewriterope$Text;") (by decide +kernel)) (fun _ h9 => h9) rfl dX3_cut_15 ?_
  refine lv_iload_n hx hb dX3_cut_18 rfl (lv_at hl 1 rfl) ?_
  refine va_aldq (D := (dC, dI)) hx hb hK hP 1 0 rfl rfl (by unfold vp_in; decide) dX3_cut_19 ?_
  refine W.eq (g2 := F0 m 20 ls [.ref h8]) rfl ?_
  refine lv_iload_n hx hb dX3_cut_20 rfl (lv_at hl 3 rfl) ?_
  have hPc := hP.sub (ws' := [(h8, .inr (6, [.ref h9, .int 0]))]) [11] rfl
  have hDc := hD.sub (ws' := [(h8, .inr (6, [.ref h9, .int 0]))]) [11] (by decide) rfl
  have hKc := hK.sub (tys' := []) [] rfl
  have hFc := va_free (wc := [(h8, .inr (6, [.ref h9, .int 0]))]) hD hS hA [11] rfl
  refine va_callv (va_runS (As := [.ref h8, .int 0]) (rest := []) ⟨hx, hb, hml, hown, hts⟩ (kx_X3_needPlace_2 l dC dI h8 h9 H.size) (cwS 2 hts gX3_cut_X3_needPlace rfl rfl rfl (by decide +kernel) ⟨Nat.le_of_ble_eq_true rfl, Nat.le_of_ble_eq_true rfl⟩) ⟨fun a U g mk q => by obtain ⟨q0, q1, qP, qK, qD⟩ := q; exact ⟨q0, q1, qP, va_K.moved (u := U) (U := U.calling g mk a) (Vm.Alike.refl U.vm) qK, qD⟩, fun U hU hW => ⟨rfl, by rw [hU], by rw [hU]; exact hPc, va_K.moved hW.alike hKc, hDc.weaken (fun _ _ _ _ => trivial)⟩⟩ rfl rfl hl.1 rfl (lv_room (Nat.le_of_ble_eq_true rfl)) dX3_cut_21 ⟨Nat.le_of_ble_eq_true rfl, Nat.le_of_ble_eq_true rfl⟩) hS (fun q _ h => hFc q h) hFc (fun u t H1 locs ht hvm hw hB hz1 hk1 hS => ?_)
  obtain ⟨hP1, hK1, hD1⟩ := hB
  rw [ht] at hP1
  have hK1 := va_K.moved hvm.symm hK1
  obtain ⟨hP, hD⟩ := va_join (wr := [(h0, .inr (7, [.ref h1, .ref z0, .ref z1, .ref h2, .ref z2, .ref z3, .int 0, .int 0, .int 0])), (h1, .inl (k0, 4, .inr (.inr (.inr (.inr (va_up (va_up (va_up (va_up (fun _ => none) 0 (some h4)) 1 (some h6)) 2 (some h8)) 3 (some h10))))))), (h2, .inr (6, [.ref h3, .int 0])), (h3, .inl (k1, 64, .inl (fun _ => 0))), (h4, .inr (6, [.ref h5, .int 0])), (h5, .inl (k2, 64, .inl (fun _ => 0))), (h6, .inr (6, [.ref h7, .int 0])), (h7, .inl (k3, 64, .inl (fun _ => 0))), (h9, .inl (k4, 64, .inl (fun _ => 0))), (h10, .inr (6, [.ref h11, .int 0])), (h11, .inl (k5, 64, .inl (fun _ => 0)))]) (w1 := [(h8, .inr (6, [.ref h9, .int 0]))]) hP hD [11] [0, 1, 2, 3, 4, 5, 6, 7, 8, 9, 10] rfl rfl (by decide) (by decide) hk1 hFc hP1 hD1
  generalize H1 = H at hP hS ⊢
  have hP : va_P (dC, dI) vwCl [(h0, .inr (7, [.ref h1, .ref z0, .ref z1, .ref h2, .ref z2, .ref z3, .int 0, .int 0, .int 0])), (h1, .inl (k0, 4, .inr (.inr (.inr (.inr (va_up (va_up (va_up (va_up (fun _ => none) 0 (some h4)) 1 (some h6)) 2 (some h8)) 3 (some h10))))))), (h2, .inr (6, [.ref h3, .int 0])), (h3, .inl (k1, 64, .inl (fun _ => 0))), (h4, .inr (6, [.ref h5, .int 0])), (h5, .inl (k2, 64, .inl (fun _ => 0))), (h6, .inr (6, [.ref h7, .int 0])), (h7, .inl (k3, 64, .inl (fun _ => 0))), (h9, .inl (k4, 64, .inl (fun _ => 0))), (h10, .inr (6, [.ref h11, .int 0])), (h11, .inl (k5, 64, .inl (fun _ => 0))), (h8, .inr (6, [.ref h9, .int 0]))] H := hP
  have hD : va_D A [(h0, .inr (7, [.ref h1, .ref z0, .ref z1, .ref h2, .ref z2, .ref z3, .int 0, .int 0, .int 0])), (h1, .inl (k0, 4, .inr (.inr (.inr (.inr (va_up (va_up (va_up (va_up (fun _ => none) 0 (some h4)) 1 (some h6)) 2 (some h8)) 3 (some h10))))))), (h2, .inr (6, [.ref h3, .int 0])), (h3, .inl (k1, 64, .inl (fun _ => 0))), (h4, .inr (6, [.ref h5, .int 0])), (h5, .inl (k2, 64, .inl (fun _ => 0))), (h6, .inr (6, [.ref h7, .int 0])), (h7, .inl (k3, 64, .inl (fun _ => 0))), (h9, .inl (k4, 64, .inl (fun _ => 0))), (h10, .inr (6, [.ref h11, .int 0])), (h11, .inl (k5, 64, .inl (fun _ => 0))), (h8, .inr (6, [.ref h9, .int 0]))] := hD
  refine lv_iload_n hx hb dX3_cut_24 rfl (lv_at hl 2 rfl) ?_
  refine lv_iload_n hx hb dX3_cut_25 rfl (lv_at hl 3 rfl) ?_
  refine lv_icmp_le (tgt := 39) hx hb dX3_cut_26 (by decide) (fun _ => ?_) (fun c9 => absurd (by decide) c9)
  refine lv_aload_n hx hb dX3_cut_39 rfl (lv_at hl 0 rfl) ?_
  refine va_get (D := (dC, dI)) (ci := 7) (v := .ref h2) (C := RX3) (T := TX3) (N := 9) hx hb hts (by decide +kernel) hown hK hP 0 rfl rfl 3 (by decide) (hts (.fieldLink RX3 32 "Rewriterope" "work" "LRewriterope$Text;") (by decide +kernel)) (fun _ h9 => h9) rfl dX3_cut_40 ?_
  have hPc := hP.sub (ws' := [(h2, .inr (6, [.ref h3, .int 0]))]) [2] rfl
  have hDc := hD.sub (ws' := [(h2, .inr (6, [.ref h3, .int 0]))]) [2] (by decide) rfl
  have hKc := hK.sub (tys' := []) [] rfl
  have hFc := va_free (wc := [(h2, .inr (6, [.ref h3, .int 0]))]) hD hS hA [2] rfl
  refine va_callv (va_runV (As := []) (rest := []) ⟨hx, hb, hml, hown, hts⟩ (kx_X2_makeEmpty_0 l dC dI h2 h3 H.size) (cwV 0 hts gX3_cut_X2_makeEmpty rfl rfl rfl (by decide +kernel) ⟨Nat.le_of_ble_eq_true rfl, Nat.le_of_ble_eq_true rfl⟩) ⟨fun a U g mk q => by obtain ⟨q0, q1, qP, qK, qD⟩ := q; exact ⟨q0, q1, qP, va_K.moved (u := U) (U := U.calling g mk a) (Vm.Alike.refl U.vm) qK, qD⟩, va_recv hKc hPc (ci := 6) (q0 := 0) rfl rfl, fun U hU hW => ⟨rfl, by rw [hU], by rw [hU]; exact hPc, va_K.moved hW.alike hKc, hDc.weaken (fun _ _ _ _ => trivial)⟩⟩ rfl rfl hl.1 rfl (lv_room (Nat.le_of_ble_eq_true rfl)) dX3_cut_43 ⟨Nat.le_of_ble_eq_true rfl, Nat.le_of_ble_eq_true rfl⟩) hS (fun q _ h => hFc q h) hFc (fun u t H1 locs ht hvm hw hB hz1 hk1 hS => ?_)
  obtain ⟨hP1, hK1, hD1⟩ := hB
  rw [ht] at hP1
  have hK1 := va_K.moved hvm.symm hK1
  obtain ⟨hP, hD⟩ := va_join (wr := [(h0, .inr (7, [.ref h1, .ref z0, .ref z1, .ref h2, .ref z2, .ref z3, .int 0, .int 0, .int 0])), (h1, .inl (k0, 4, .inr (.inr (.inr (.inr (va_up (va_up (va_up (va_up (fun _ => none) 0 (some h4)) 1 (some h6)) 2 (some h8)) 3 (some h10))))))), (h3, .inl (k1, 64, .inl (fun _ => 0))), (h4, .inr (6, [.ref h5, .int 0])), (h5, .inl (k2, 64, .inl (fun _ => 0))), (h6, .inr (6, [.ref h7, .int 0])), (h7, .inl (k3, 64, .inl (fun _ => 0))), (h9, .inl (k4, 64, .inl (fun _ => 0))), (h10, .inr (6, [.ref h11, .int 0])), (h11, .inl (k5, 64, .inl (fun _ => 0))), (h8, .inr (6, [.ref h9, .int 0]))]) (w1 := [(h2, .inr (6, [.ref h3, .int 0]))]) hP hD [2] [0, 1, 3, 4, 5, 6, 7, 8, 9, 10, 11] rfl rfl (by decide) (by decide) hk1 hFc hP1 hD1
  generalize H1 = H at hP hS ⊢
  have hP : va_P (dC, dI) vwCl [(h0, .inr (7, [.ref h1, .ref z0, .ref z1, .ref h2, .ref z2, .ref z3, .int 0, .int 0, .int 0])), (h1, .inl (k0, 4, .inr (.inr (.inr (.inr (va_up (va_up (va_up (va_up (fun _ => none) 0 (some h4)) 1 (some h6)) 2 (some h8)) 3 (some h10))))))), (h3, .inl (k1, 64, .inl (fun _ => 0))), (h4, .inr (6, [.ref h5, .int 0])), (h5, .inl (k2, 64, .inl (fun _ => 0))), (h6, .inr (6, [.ref h7, .int 0])), (h7, .inl (k3, 64, .inl (fun _ => 0))), (h9, .inl (k4, 64, .inl (fun _ => 0))), (h10, .inr (6, [.ref h11, .int 0])), (h11, .inl (k5, 64, .inl (fun _ => 0))), (h8, .inr (6, [.ref h9, .int 0])), (h2, .inr (6, [.ref h3, .int 0]))] H := hP
  have hD : va_D A [(h0, .inr (7, [.ref h1, .ref z0, .ref z1, .ref h2, .ref z2, .ref z3, .int 0, .int 0, .int 0])), (h1, .inl (k0, 4, .inr (.inr (.inr (.inr (va_up (va_up (va_up (va_up (fun _ => none) 0 (some h4)) 1 (some h6)) 2 (some h8)) 3 (some h10))))))), (h3, .inl (k1, 64, .inl (fun _ => 0))), (h4, .inr (6, [.ref h5, .int 0])), (h5, .inl (k2, 64, .inl (fun _ => 0))), (h6, .inr (6, [.ref h7, .int 0])), (h7, .inl (k3, 64, .inl (fun _ => 0))), (h9, .inl (k4, 64, .inl (fun _ => 0))), (h10, .inr (6, [.ref h11, .int 0])), (h11, .inl (k5, 64, .inl (fun _ => 0))), (h8, .inr (6, [.ref h9, .int 0])), (h2, .inr (6, [.ref h3, .int 0]))] := hD
  refine lv_aload_n hx hb dX3_cut_46 rfl (lv_at hl 0 rfl) ?_
  refine va_get (D := (dC, dI)) (ci := 7) (v := .ref h1) (C := RX3) (T := TX3) (N := 9) hx hb hts (by decide +kernel) hown hK hP 0 rfl rfl 0 (by decide) (hts (.fieldLink RX3 11 "Rewriterope" "ropes" "[LRewriterope$Text;") (by decide +kernel)) (fun _ h9 => h9) rfl dX3_cut_47 ?_
  refine lv_iload_n hx hb dX3_cut_50 rfl (lv_at hl 1 rfl) ?_
  refine va_aldq (D := (dC, dI)) hx hb hK hP 1 0 rfl rfl (by unfold vp_in; decide) dX3_cut_51 ?_
  refine W.eq (g2 := F0 m 52 ls [.ref h8]) rfl ?_
  refine lv_iload_n hx hb dX3_cut_52 rfl (lv_at hl 2 rfl) ?_
  refine lv_iload_n hx hb dX3_cut_53 rfl (lv_at hl 3 rfl) ?_
  refine lv_aload_n hx hb dX3_cut_54 rfl (lv_at hl 0 rfl) ?_
  refine va_get (D := (dC, dI)) (ci := 7) (v := .ref h2) (C := RX3) (T := TX3) (N := 9) hx hb hts (by decide +kernel) hown hK hP 0 rfl rfl 3 (by decide) (hts (.fieldLink RX3 32 "Rewriterope" "work" "LRewriterope$Text;") (by decide +kernel)) (fun _ h9 => h9) rfl dX3_cut_55 ?_
  have hPc := hP.sub (ws' := [(h3, .inl (k1, 64, .inl (fun _ => 0))), (h9, .inl (k4, 64, .inl (fun _ => 0))), (h8, .inr (6, [.ref h9, .int 0])), (h2, .inr (6, [.ref h3, .int 0]))]) [2, 7, 10, 11] rfl
  have hDc := hD.sub (ws' := [(h3, .inl (k1, 64, .inl (fun _ => 0))), (h9, .inl (k4, 64, .inl (fun _ => 0))), (h8, .inr (6, [.ref h9, .int 0])), (h2, .inr (6, [.ref h3, .int 0]))]) [2, 7, 10, 11] (by decide) rfl
  have hKc := hK.sub (tys' := [(k1, .byte), (k4, .byte)]) [1, 4] rfl
  have hFc := va_free (wc := [(h3, .inl (k1, 64, .inl (fun _ => 0))), (h9, .inl (k4, 64, .inl (fun _ => 0))), (h8, .inr (6, [.ref h9, .int 0])), (h2, .inr (6, [.ref h3, .int 0]))]) hD hS hA [2, 7, 10, 11] rfl
  refine va_callv (va_runV (As := [.int 0, .int 0, .ref h2]) (rest := []) ⟨hx, hb, hml, hown, hts⟩ (kx_X2_replace_2 l dC dI h3 h9 h8 h2 k1 k4 H.size) (cwV 3 hts gX3_cut_X2_replace rfl rfl rfl (by decide +kernel) ⟨Nat.le_of_ble_eq_true rfl, Nat.le_of_ble_eq_true rfl⟩) ⟨fun a U g mk q => by obtain ⟨q0, q1, qP, qK, qD⟩ := q; exact ⟨q0, q1, qP, va_K.moved (u := U) (U := U.calling g mk a) (Vm.Alike.refl U.vm) qK, qD⟩, va_recv hKc hPc (ci := 6) (q0 := 2) rfl rfl, fun U hU hW => ⟨rfl, by rw [hU], by rw [hU]; exact hPc, va_K.moved hW.alike hKc, hDc.weaken (fun _ _ _ _ => trivial)⟩⟩ rfl rfl hl.1 rfl (lv_room (Nat.le_of_ble_eq_true rfl)) dX3_cut_58 ⟨Nat.le_of_ble_eq_true rfl, Nat.le_of_ble_eq_true rfl⟩) hS (fun q _ h => hFc q h) hFc (fun u t H1 locs ht hvm hw hB hz1 hk1 hS => ?_)
  obtain ⟨hP1, hK1, hD1⟩ := hB
  rw [ht] at hP1
  have hK1 := va_K.moved hvm.symm hK1
  obtain ⟨hP, hD⟩ := va_join (wr := [(h0, .inr (7, [.ref h1, .ref z0, .ref z1, .ref h2, .ref z2, .ref z3, .int 0, .int 0, .int 0])), (h1, .inl (k0, 4, .inr (.inr (.inr (.inr (va_up (va_up (va_up (va_up (fun _ => none) 0 (some h4)) 1 (some h6)) 2 (some h8)) 3 (some h10))))))), (h4, .inr (6, [.ref h5, .int 0])), (h5, .inl (k2, 64, .inl (fun _ => 0))), (h6, .inr (6, [.ref h7, .int 0])), (h7, .inl (k3, 64, .inl (fun _ => 0))), (h10, .inr (6, [.ref h11, .int 0])), (h11, .inl (k5, 64, .inl (fun _ => 0)))]) (w1 := [(h3, .inl (k1, 64, .inl (fun _ => 0))), (h9, .inl (k4, 64, .inl (fun _ => 0))), (h8, .inr (6, [.ref h9, .int 0])), (h2, .inr (6, [.ref h3, .int 0]))]) hP hD [2, 7, 10, 11] [0, 1, 3, 4, 5, 6, 8, 9] rfl rfl (by decide) (by decide) hk1 hFc hP1 hD1
  generalize H1 = H at hP hS ⊢
  have hP : va_P (dC, dI) vwCl [(h0, .inr (7, [.ref h1, .ref z0, .ref z1, .ref h2, .ref z2, .ref z3, .int 0, .int 0, .int 0])), (h1, .inl (k0, 4, .inr (.inr (.inr (.inr (va_up (va_up (va_up (va_up (fun _ => none) 0 (some h4)) 1 (some h6)) 2 (some h8)) 3 (some h10))))))), (h4, .inr (6, [.ref h5, .int 0])), (h5, .inl (k2, 64, .inl (fun _ => 0))), (h6, .inr (6, [.ref h7, .int 0])), (h7, .inl (k3, 64, .inl (fun _ => 0))), (h10, .inr (6, [.ref h11, .int 0])), (h11, .inl (k5, 64, .inl (fun _ => 0))), (h3, .inl (k1, 64, .inl (fun _ => 0))), (h9, .inl (k4, 64, .inl (fun _ => 0))), (h8, .inr (6, [.ref h9, .int 0])), (h2, .inr (6, [.ref h3, .int 0]))] H := hP
  have hD : va_D A [(h0, .inr (7, [.ref h1, .ref z0, .ref z1, .ref h2, .ref z2, .ref z3, .int 0, .int 0, .int 0])), (h1, .inl (k0, 4, .inr (.inr (.inr (.inr (va_up (va_up (va_up (va_up (fun _ => none) 0 (some h4)) 1 (some h6)) 2 (some h8)) 3 (some h10))))))), (h4, .inr (6, [.ref h5, .int 0])), (h5, .inl (k2, 64, .inl (fun _ => 0))), (h6, .inr (6, [.ref h7, .int 0])), (h7, .inl (k3, 64, .inl (fun _ => 0))), (h10, .inr (6, [.ref h11, .int 0])), (h11, .inl (k5, 64, .inl (fun _ => 0))), (h3, .inl (k1, 64, .inl (fun _ => 0))), (h9, .inl (k4, 64, .inl (fun _ => 0))), (h8, .inr (6, [.ref h9, .int 0])), (h2, .inr (6, [.ref h3, .int 0]))] := hD
  refine lv_aload_n hx hb dX3_cut_61 rfl (lv_at hl 0 rfl) ?_
  refine va_get (D := (dC, dI)) (ci := 7) (v := .ref h1) (C := RX3) (T := TX3) (N := 9) hx hb hts (by decide +kernel) hown hK hP 0 rfl rfl 0 (by decide) (hts (.fieldLink RX3 11 "Rewriterope" "ropes" "[LRewriterope$Text;") (by decide +kernel)) (fun _ h9 => h9) rfl dX3_cut_62 ?_
  refine lv_iload_n hx hb dX3_cut_65 rfl (lv_at hl 1 rfl) ?_
  refine va_aldq (D := (dC, dI)) hx hb hK hP 1 0 rfl rfl (by unfold vp_in; decide) dX3_cut_66 ?_
  refine W.eq (g2 := F0 m 67 ls [.ref h8]) rfl ?_
  refine va_get (D := (dC, dI)) (ci := 6) (v := .int 0) (C := RX2) (T := TX2) (N := 2) hx hb hts (by decide +kernel) hown hK hP 10 rfl rfl 1 (by decide) (hts (.fieldLink RX3 65 "Rewriterope$Text" "length" "I") (by decide +kernel)) (fun _ h9 => h9) rfl dX3_cut_67 ?_
  have hP := hP.sub (ws' := [(h0, .inr (7, [.ref h1, .ref z0, .ref z1, .ref h2, .ref z2, .ref z3, .int 0, .int 0, .int 0])), (h1, .inl (k0, 4, .inr (.inr (.inr (.inr (va_up (va_up (va_up (va_up (fun _ => none) 0 (some h4)) 1 (some h6)) 2 (some h8)) 3 (some h10))))))), (h2, .inr (6, [.ref h3, .int 0])), (h3, .inl (k1, 64, .inl (fun _ => 0))), (h4, .inr (6, [.ref h5, .int 0])), (h5, .inl (k2, 64, .inl (fun _ => 0))), (h6, .inr (6, [.ref h7, .int 0])), (h7, .inl (k3, 64, .inl (fun _ => 0))), (h8, .inr (6, [.ref h9, .int 0])), (h9, .inl (k4, 64, .inl (fun _ => 0))), (h10, .inr (6, [.ref h11, .int 0])), (h11, .inl (k5, 64, .inl (fun _ => 0)))]) [0, 1, 11, 8, 2, 3, 4, 5, 10, 9, 6, 7] rfl
  have hD := hD.sub (ws' := [(h0, .inr (7, [.ref h1, .ref z0, .ref z1, .ref h2, .ref z2, .ref z3, .int 0, .int 0, .int 0])), (h1, .inl (k0, 4, .inr (.inr (.inr (.inr (va_up (va_up (va_up (va_up (fun _ => none) 0 (some h4)) 1 (some h6)) 2 (some h8)) 3 (some h10))))))), (h2, .inr (6, [.ref h3, .int 0])), (h3, .inl (k1, 64, .inl (fun _ => 0))), (h4, .inr (6, [.ref h5, .int 0])), (h5, .inl (k2, 64, .inl (fun _ => 0))), (h6, .inr (6, [.ref h7, .int 0])), (h7, .inl (k3, 64, .inl (fun _ => 0))), (h8, .inr (6, [.ref h9, .int 0])), (h9, .inl (k4, 64, .inl (fun _ => 0))), (h10, .inr (6, [.ref h11, .int 0])), (h11, .inl (k5, 64, .inl (fun _ => 0)))]) [0, 1, 11, 8, 2, 3, 4, 5, 10, 9, 6, 7] (by decide) rfl
  exact W.iret (v := 0) hx hb hr (fun t ht hW => ⟨⟨0, (), rfl, rfl, by rw [ht]; exact hP, va_K.moved hW.alike hK, hD⟩, hS.F ht⟩) hS.2.2 dX3_cut_70
set_option maxHeartbeats 4000000 in
set_option maxRecDepth 100000 in
theorem kx_X3_cut_21 (l : Launch) (dC : Nat → ClassId) (dI : Nat → Nat → Nat) (h0 : Nat) (h1 : Nat) (h2 : Nat) (h3 : Nat) (h4 : Nat) (h5 : Nat) (h6 : Nat) (h7 : Nat) (h8 : Nat) (h9 : Nat) (h10 : Nat) (h11 : Nat) (z0 : Nat) (z1 : Nat) (z2 : Nat) (z3 : Nat) (k0 : ClassId) (k1 : ClassId) (k2 : ClassId) (k3 : ClassId) (k4 : ClassId) (k5 : ClassId) (sz : Nat) : Met l yX3_cut wsX3_cut ({ frames := 2, cells := 0, slots := 0, locals := 84 }) (va_Pc [.ref h0, .int 3, .int 0, .int 0] (fun U => U.heap.size = sz ∧ va_P (dC, dI) vwCl [(h0, .inr (7, [.ref h1, .ref z0, .ref z1, .ref h2, .ref z2, .ref z3, .int 0, .int 0, .int 0])), (h1, .inl (k0, 4, .inr (.inr (.inr (.inr (va_up (va_up (va_up (va_up (fun _ => none) 0 (some h4)) 1 (some h6)) 2 (some h8)) 3 (some h10))))))), (h2, .inr (6, [.ref h3, .int 0])), (h3, .inl (k1, 64, .inl (fun _ => 0))), (h4, .inr (6, [.ref h5, .int 0])), (h5, .inl (k2, 64, .inl (fun _ => 0))), (h6, .inr (6, [.ref h7, .int 0])), (h7, .inl (k3, 64, .inl (fun _ => 0))), (h8, .inr (6, [.ref h9, .int 0])), (h9, .inl (k4, 64, .inl (fun _ => 0))), (h10, .inr (6, [.ref h11, .int 0])), (h11, .inl (k5, 64, .inl (fun _ => 0)))] U.heap ∧ va_K (dC, dI) vwCl [(k0, .object "Rewriterope$Text"), (k1, .byte), (k2, .byte), (k3, .byte), (k4, .byte), (k5, .byte)] U ∧ va_D (fun _ => True) [(h0, .inr (7, [.ref h1, .ref z0, .ref z1, .ref h2, .ref z2, .ref z3, .int 0, .int 0, .int 0])), (h1, .inl (k0, 4, .inr (.inr (.inr (.inr (va_up (va_up (va_up (va_up (fun _ => none) 0 (some h4)) 1 (some h6)) 2 (some h8)) 3 (some h10))))))), (h2, .inr (6, [.ref h3, .int 0])), (h3, .inl (k1, 64, .inl (fun _ => 0))), (h4, .inr (6, [.ref h5, .int 0])), (h5, .inl (k2, 64, .inl (fun _ => 0))), (h6, .inr (6, [.ref h7, .int 0])), (h7, .inl (k3, 64, .inl (fun _ => 0))), (h8, .inr (6, [.ref h9, .int 0])), (h9, .inl (k4, 64, .inl (fun _ => 0))), (h10, .inr (6, [.ref h11, .int 0])), (h11, .inl (k5, 64, .inl (fun _ => 0)))])) (va_Qi (fun (r : Int32) (_ : Unit) => r = 0) (fun (_ : Unit) (t : State) => va_P (dC, dI) vwCl [(h0, .inr (7, [.ref h1, .ref z0, .ref z1, .ref h2, .ref z2, .ref z3, .int 0, .int 0, .int 0])), (h1, .inl (k0, 4, .inr (.inr (.inr (.inr (va_up (va_up (va_up (va_up (fun _ => none) 0 (some h4)) 1 (some h6)) 2 (some h8)) 3 (some h10))))))), (h2, .inr (6, [.ref h3, .int 0])), (h3, .inl (k1, 64, .inl (fun _ => 0))), (h4, .inr (6, [.ref h5, .int 0])), (h5, .inl (k2, 64, .inl (fun _ => 0))), (h6, .inr (6, [.ref h7, .int 0])), (h7, .inl (k3, 64, .inl (fun _ => 0))), (h8, .inr (6, [.ref h9, .int 0])), (h9, .inl (k4, 64, .inl (fun _ => 0))), (h10, .inr (6, [.ref h11, .int 0])), (h11, .inl (k5, 64, .inl (fun _ => 0)))] t.heap ∧ va_K (dC, dI) vwCl [(k0, .object "Rewriterope$Text"), (k1, .byte), (k2, .byte), (k3, .byte), (k4, .byte), (k5, .byte)] t ∧ va_D (va_A [(h0, .inr (7, [.ref h1, .ref z0, .ref z1, .ref h2, .ref z2, .ref z3, .int 0, .int 0, .int 0])), (h1, .inl (k0, 4, .inr (.inr (.inr (.inr (va_up (va_up (va_up (va_up (fun _ => none) 0 (some h4)) 1 (some h6)) 2 (some h8)) 3 (some h10))))))), (h2, .inr (6, [.ref h3, .int 0])), (h3, .inl (k1, 64, .inl (fun _ => 0))), (h4, .inr (6, [.ref h5, .int 0])), (h5, .inl (k2, 64, .inl (fun _ => 0))), (h6, .inr (6, [.ref h7, .int 0])), (h7, .inl (k3, 64, .inl (fun _ => 0))), (h8, .inr (6, [.ref h9, .int 0])), (h9, .inl (k4, 64, .inl (fun _ => 0))), (h10, .inr (6, [.ref h11, .int 0])), (h11, .inl (k5, 64, .inl (fun _ => 0)))] sz) [(h0, .inr (7, [.ref h1, .ref z0, .ref z1, .ref h2, .ref z2, .ref z3, .int 0, .int 0, .int 0])), (h1, .inl (k0, 4, .inr (.inr (.inr (.inr (va_up (va_up (va_up (va_up (fun _ => none) 0 (some h4)) 1 (some h6)) 2 (some h8)) 3 (some h10))))))), (h2, .inr (6, [.ref h3, .int 0])), (h3, .inl (k1, 64, .inl (fun _ => 0))), (h4, .inr (6, [.ref h5, .int 0])), (h5, .inl (k2, 64, .inl (fun _ => 0))), (h6, .inr (6, [.ref h7, .int 0])), (h7, .inl (k3, 64, .inl (fun _ => 0))), (h8, .inr (6, [.ref h9, .int 0])), (h9, .inl (k4, 64, .inl (fun _ => 0))), (h10, .inr (6, [.ref h11, .int 0])), (h11, .inl (k5, 64, .inl (fun _ => 0)))]) (va_A [(h0, .inr (7, [.ref h1, .ref z0, .ref z1, .ref h2, .ref z2, .ref z3, .int 0, .int 0, .int 0])), (h1, .inl (k0, 4, .inr (.inr (.inr (.inr (va_up (va_up (va_up (va_up (fun _ => none) 0 (some h4)) 1 (some h6)) 2 (some h8)) 3 (some h10))))))), (h2, .inr (6, [.ref h3, .int 0])), (h3, .inl (k1, 64, .inl (fun _ => 0))), (h4, .inr (6, [.ref h5, .int 0])), (h5, .inl (k2, 64, .inl (fun _ => 0))), (h6, .inr (6, [.ref h7, .int 0])), (h7, .inl (k3, 64, .inl (fun _ => 0))), (h8, .inr (6, [.ref h9, .int 0])), (h9, .inl (k4, 64, .inl (fun _ => 0))), (h10, .inr (6, [.ref h11, .int 0])), (h11, .inl (k5, 64, .inl (fun _ => 0)))] sz)) 0 0 (va_A [(h0, .inr (7, [.ref h1, .ref z0, .ref z1, .ref h2, .ref z2, .ref z3, .int 0, .int 0, .int 0])), (h1, .inl (k0, 4, .inr (.inr (.inr (.inr (va_up (va_up (va_up (va_up (fun _ => none) 0 (some h4)) 1 (some h6)) 2 (some h8)) 3 (some h10))))))), (h2, .inr (6, [.ref h3, .int 0])), (h3, .inl (k1, 64, .inl (fun _ => 0))), (h4, .inr (6, [.ref h5, .int 0])), (h5, .inl (k2, 64, .inl (fun _ => 0))), (h6, .inr (6, [.ref h7, .int 0])), (h7, .inl (k3, 64, .inl (fun _ => 0))), (h8, .inr (6, [.ref h9, .int 0])), (h9, .inl (k4, 64, .inl (fun _ => 0))), (h10, .inr (6, [.ref h11, .int 0])), (h11, .inl (k5, 64, .inl (fun _ => 0)))] sz) := by
  refine Met.ofW (cc := cX3_cut) (maxL := 4) (ret := (some .int)) (by decide) rfl ?_
  intro p e s m args below meth c s₁ B hml hv
  obtain ⟨rfl, hsz, hP, hK, hD0⟩ := hv
  have hx := B.exec
  have hb := B.bytes
  have hr := B.returns
  have hts := atoms_spec (ws := wsX3_cut) B.pre
  have hown : s.vm.findClass RX3 = some m.cls := findClass_of_methodNamed B.named
  have hlocks := B.notSynchronized
  subst hsz
  have hD := hD0.self (sz := s.heap.size)
  generalize hAe : va_A [(h0, .inr (7, [.ref h1, .ref z0, .ref z1, .ref h2, .ref z2, .ref z3, .int 0, .int 0, .int 0])), (h1, .inl (k0, 4, .inr (.inr (.inr (.inr (va_up (va_up (va_up (va_up (fun _ => none) 0 (some h4)) 1 (some h6)) 2 (some h8)) 3 (some h10))))))), (h2, .inr (6, [.ref h3, .int 0])), (h3, .inl (k1, 64, .inl (fun _ => 0))), (h4, .inr (6, [.ref h5, .int 0])), (h5, .inl (k2, 64, .inl (fun _ => 0))), (h6, .inr (6, [.ref h7, .int 0])), (h7, .inl (k3, 64, .inl (fun _ => 0))), (h8, .inr (6, [.ref h9, .int 0])), (h9, .inl (k4, 64, .inl (fun _ => 0))), (h10, .inr (6, [.ref h11, .int 0])), (h11, .inl (k5, 64, .inl (fun _ => 0)))] s.heap.size = A at hD ⊢
  have hA : ∀ q : Nat, s.heap.size ≤ q → A q := fun q h => by rw [← hAe]; exact Or.inr h
  have hS : va_S A s.heap s.heap [] := va_S.rf
  have hP : va_P (dC, dI) vwCl [(h0, .inr (7, [.ref h1, .ref z0, .ref z1, .ref h2, .ref z2, .ref z3, .int 0, .int 0, .int 0])), (h1, .inl (k0, 4, .inr (.inr (.inr (.inr (va_up (va_up (va_up (va_up (fun _ => none) 0 (some h4)) 1 (some h6)) 2 (some h8)) 3 (some h10))))))), (h2, .inr (6, [.ref h3, .int 0])), (h3, .inl (k1, 64, .inl (fun _ => 0))), (h4, .inr (6, [.ref h5, .int 0])), (h5, .inl (k2, 64, .inl (fun _ => 0))), (h6, .inr (6, [.ref h7, .int 0])), (h7, .inl (k3, 64, .inl (fun _ => 0))), (h8, .inr (6, [.ref h9, .int 0])), (h9, .inl (k4, 64, .inl (fun _ => 0))), (h10, .inr (6, [.ref h11, .int 0])), (h11, .inl (k5, 64, .inl (fun _ => 0)))] s.heap := hP
  have hl := lv_entry ([.ref h0, .int 3, .int 0, .int 0]) (n := 4) (Nat.le_of_ble_eq_true rfl)
  rw [lg_entry_eq]
  generalize (lg_sl ([.ref h0, .int 3, .int 0, .int 0]) ++ List.replicate (4 - (lg_sl ([.ref h0, .int 3, .int 0, .int 0])).length) Slot.unset).toArray = ls at hl ⊢
  have hl : lv_has ls 4 [(0, .ref h0), (1, .int 3), (2, .int 0), (3, .int 0)] := hl
  refine lv_iload_n hx hb dX3_cut_0 rfl (lv_at hl 1 rfl) ?_
  have hPc := hP.sub (ws' := []) [] rfl
  have hDc := hD.sub (ws' := []) [] (by decide) rfl
  have hKc := hK.sub (tys' := []) [] rfl
  have hFc := va_free (wc := []) hD hS hA [] rfl
  refine va_callv (va_runS (As := [.int 3]) (rest := []) ⟨hx, hb, hml, hown, hts⟩ (kx_X3_needRope_3 l dC dI s.heap.size) (cwS 1 hts gX3_cut_X3_needRope rfl rfl rfl (by decide +kernel) ⟨Nat.le_of_ble_eq_true rfl, Nat.le_of_ble_eq_true rfl⟩) ⟨fun a U g mk q => by obtain ⟨q0, q1, qP, qK, qD⟩ := q; exact ⟨q0, q1, qP, va_K.moved (u := U) (U := U.calling g mk a) (Vm.Alike.refl U.vm) qK, qD⟩, fun U hU hW => ⟨rfl, by rw [hU], by rw [hU]; exact hPc, va_K.moved hW.alike hKc, hDc.weaken (fun _ _ _ _ => trivial)⟩⟩ rfl rfl hl.1 rfl (lv_room (Nat.le_of_ble_eq_true rfl)) dX3_cut_1 ⟨Nat.le_of_ble_eq_true rfl, Nat.le_of_ble_eq_true rfl⟩) hS (fun q _ h => hFc q h) hFc (fun u t H1 locs ht hvm hw hB hz1 hk1 hS => ?_)
  obtain ⟨hP1, hK1, hD1⟩ := hB
  rw [ht] at hP1
  have hK1 := va_K.moved hvm.symm hK1
  obtain ⟨hP, hD⟩ := va_join (wr := [(h0, .inr (7, [.ref h1, .ref z0, .ref z1, .ref h2, .ref z2, .ref z3, .int 0, .int 0, .int 0])), (h1, .inl (k0, 4, .inr (.inr (.inr (.inr (va_up (va_up (va_up (va_up (fun _ => none) 0 (some h4)) 1 (some h6)) 2 (some h8)) 3 (some h10))))))), (h2, .inr (6, [.ref h3, .int 0])), (h3, .inl (k1, 64, .inl (fun _ => 0))), (h4, .inr (6, [.ref h5, .int 0])), (h5, .inl (k2, 64, .inl (fun _ => 0))), (h6, .inr (6, [.ref h7, .int 0])), (h7, .inl (k3, 64, .inl (fun _ => 0))), (h8, .inr (6, [.ref h9, .int 0])), (h9, .inl (k4, 64, .inl (fun _ => 0))), (h10, .inr (6, [.ref h11, .int 0])), (h11, .inl (k5, 64, .inl (fun _ => 0)))]) (w1 := []) hP hD [] [0, 1, 2, 3, 4, 5, 6, 7, 8, 9, 10, 11] rfl rfl (by decide) (by decide) hk1 hFc hP1 hD1
  generalize H1 = H at hP hS ⊢
  have hP : va_P (dC, dI) vwCl [(h0, .inr (7, [.ref h1, .ref z0, .ref z1, .ref h2, .ref z2, .ref z3, .int 0, .int 0, .int 0])), (h1, .inl (k0, 4, .inr (.inr (.inr (.inr (va_up (va_up (va_up (va_up (fun _ => none) 0 (some h4)) 1 (some h6)) 2 (some h8)) 3 (some h10))))))), (h2, .inr (6, [.ref h3, .int 0])), (h3, .inl (k1, 64, .inl (fun _ => 0))), (h4, .inr (6, [.ref h5, .int 0])), (h5, .inl (k2, 64, .inl (fun _ => 0))), (h6, .inr (6, [.ref h7, .int 0])), (h7, .inl (k3, 64, .inl (fun _ => 0))), (h8, .inr (6, [.ref h9, .int 0])), (h9, .inl (k4, 64, .inl (fun _ => 0))), (h10, .inr (6, [.ref h11, .int 0])), (h11, .inl (k5, 64, .inl (fun _ => 0)))] H := hP
  have hD : va_D A [(h0, .inr (7, [.ref h1, .ref z0, .ref z1, .ref h2, .ref z2, .ref z3, .int 0, .int 0, .int 0])), (h1, .inl (k0, 4, .inr (.inr (.inr (.inr (va_up (va_up (va_up (va_up (fun _ => none) 0 (some h4)) 1 (some h6)) 2 (some h8)) 3 (some h10))))))), (h2, .inr (6, [.ref h3, .int 0])), (h3, .inl (k1, 64, .inl (fun _ => 0))), (h4, .inr (6, [.ref h5, .int 0])), (h5, .inl (k2, 64, .inl (fun _ => 0))), (h6, .inr (6, [.ref h7, .int 0])), (h7, .inl (k3, 64, .inl (fun _ => 0))), (h8, .inr (6, [.ref h9, .int 0])), (h9, .inl (k4, 64, .inl (fun _ => 0))), (h10, .inr (6, [.ref h11, .int 0])), (h11, .inl (k5, 64, .inl (fun _ => 0)))] := hD
  refine lv_aload_n hx hb dX3_cut_4 rfl (lv_at hl 0 rfl) ?_
  refine va_get (D := (dC, dI)) (ci := 7) (v := .ref h1) (C := RX3) (T := TX3) (N := 9) hx hb hts (by decide +kernel) hown hK hP 0 rfl rfl 0 (by decide) (hts (.fieldLink RX3 11 "Rewriterope" "ropes" "[LRewriterope$Text;") (by decide +kernel)) (fun _ h9 => h9) rfl dX3_cut_5 ?_
  refine lv_iload_n hx hb dX3_cut_8 rfl (lv_at hl 1 rfl) ?_
  refine va_aldq (D := (dC, dI)) hx hb hK hP 1 0 rfl rfl (by unfold vp_in; decide) dX3_cut_9 ?_
  refine W.eq (g2 := F0 m 10 ls [.ref h10]) rfl ?_
  refine lv_iload_n hx hb dX3_cut_10 rfl (lv_at hl 2 rfl) ?_
  have hPc := hP.sub (ws' := [(h10, .inr (6, [.ref h11, .int 0]))]) [10] rfl
  have hDc := hD.sub (ws' := [(h10, .inr (6, [.ref h11, .int 0]))]) [10] (by decide) rfl
  have hKc := hK.sub (tys' := []) [] rfl
  have hFc := va_free (wc := [(h10, .inr (6, [.ref h11, .int 0]))]) hD hS hA [10] rfl
  refine va_callv (va_runS (As := [.ref h10, .int 0]) (rest := []) ⟨hx, hb, hml, hown, hts⟩ (kx_X3_needPlace_2 l dC dI h10 h11 H.size) (cwS 2 hts gX3_cut_X3_needPlace rfl rfl rfl (by decide +kernel) ⟨Nat.le_of_ble_eq_true rfl, Nat.le_of_ble_eq_true rfl⟩) ⟨fun a U g mk q => by obtain ⟨q0, q1, qP, qK, qD⟩ := q; exact ⟨q0, q1, qP, va_K.moved (u := U) (U := U.calling g mk a) (Vm.Alike.refl U.vm) qK, qD⟩, fun U hU hW => ⟨rfl, by rw [hU], by rw [hU]; exact hPc, va_K.moved hW.alike hKc, hDc.weaken (fun _ _ _ _ => trivial)⟩⟩ rfl rfl hl.1 rfl (lv_room (Nat.le_of_ble_eq_true rfl)) dX3_cut_11 ⟨Nat.le_of_ble_eq_true rfl, Nat.le_of_ble_eq_true rfl⟩) hS (fun q _ h => hFc q h) hFc (fun u t H1 locs ht hvm hw hB hz1 hk1 hS => ?_)
  obtain ⟨hP1, hK1, hD1⟩ := hB
  rw [ht] at hP1
  have hK1 := va_K.moved hvm.symm hK1
  obtain ⟨hP, hD⟩ := va_join (wr := [(h0, .inr (7, [.ref h1, .ref z0, .ref z1, .ref h2, .ref z2, .ref z3, .int 0, .int 0, .int 0])), (h1, .inl (k0, 4, .inr (.inr (.inr (.inr (va_up (va_up (va_up (va_up (fun _ => none) 0 (some h4)) 1 (some h6)) 2 (some h8)) 3 (some h10))))))), (h2, .inr (6, [.ref h3, .int 0])), (h3, .inl (k1, 64, .inl (fun _ => 0))), (h4, .inr (6, [.ref h5, .int 0])), (h5, .inl (k2, 64, .inl (fun _ => 0))), (h6, .inr (6, [.ref h7, .int 0])), (h7, .inl (k3, 64, .inl (fun _ => 0))), (h8, .inr (6, [.ref h9, .int 0])), (h9, .inl (k4, 64, .inl (fun _ => 0))), (h11, .inl (k5, 64, .inl (fun _ => 0)))]) (w1 := [(h10, .inr (6, [.ref h11, .int 0]))]) hP hD [10] [0, 1, 2, 3, 4, 5, 6, 7, 8, 9, 11] rfl rfl (by decide) (by decide) hk1 hFc hP1 hD1
  generalize H1 = H at hP hS ⊢
  have hP : va_P (dC, dI) vwCl [(h0, .inr (7, [.ref h1, .ref z0, .ref z1, .ref h2, .ref z2, .ref z3, .int 0, .int 0, .int 0])), (h1, .inl (k0, 4, .inr (.inr (.inr (.inr (va_up (va_up (va_up (va_up (fun _ => none) 0 (some h4)) 1 (some h6)) 2 (some h8)) 3 (some h10))))))), (h2, .inr (6, [.ref h3, .int 0])), (h3, .inl (k1, 64, .inl (fun _ => 0))), (h4, .inr (6, [.ref h5, .int 0])), (h5, .inl (k2, 64, .inl (fun _ => 0))), (h6, .inr (6, [.ref h7, .int 0])), (h7, .inl (k3, 64, .inl (fun _ => 0))), (h8, .inr (6, [.ref h9, .int 0])), (h9, .inl (k4, 64, .inl (fun _ => 0))), (h11, .inl (k5, 64, .inl (fun _ => 0))), (h10, .inr (6, [.ref h11, .int 0]))] H := hP
  have hD : va_D A [(h0, .inr (7, [.ref h1, .ref z0, .ref z1, .ref h2, .ref z2, .ref z3, .int 0, .int 0, .int 0])), (h1, .inl (k0, 4, .inr (.inr (.inr (.inr (va_up (va_up (va_up (va_up (fun _ => none) 0 (some h4)) 1 (some h6)) 2 (some h8)) 3 (some h10))))))), (h2, .inr (6, [.ref h3, .int 0])), (h3, .inl (k1, 64, .inl (fun _ => 0))), (h4, .inr (6, [.ref h5, .int 0])), (h5, .inl (k2, 64, .inl (fun _ => 0))), (h6, .inr (6, [.ref h7, .int 0])), (h7, .inl (k3, 64, .inl (fun _ => 0))), (h8, .inr (6, [.ref h9, .int 0])), (h9, .inl (k4, 64, .inl (fun _ => 0))), (h11, .inl (k5, 64, .inl (fun _ => 0))), (h10, .inr (6, [.ref h11, .int 0]))] := hD
  refine lv_aload_n hx hb dX3_cut_14 rfl (lv_at hl 0 rfl) ?_
  refine va_get (D := (dC, dI)) (ci := 7) (v := .ref h1) (C := RX3) (T := TX3) (N := 9) hx hb hts (by decide +kernel) hown hK hP 0 rfl rfl 0 (by decide) (hts (.fieldLink RX3 11 "Rewriterope" "ropes" "[LRewriterope$Text;") (by decide +kernel)) (fun _ h9 => h9) rfl dX3_cut_15 ?_
  refine lv_iload_n hx hb dX3_cut_18 rfl (lv_at hl 1 rfl) ?_
  refine va_aldq (D := (dC, dI)) hx hb hK hP 1 0 rfl rfl (by unfold vp_in; decide) dX3_cut_19 ?_
  refine W.eq (g2 := F0 m 20 ls [.ref h10]) rfl ?_
  refine lv_iload_n hx hb dX3_cut_20 rfl (lv_at hl 3 rfl) ?_
  have hPc := hP.sub (ws' := [(h10, .inr (6, [.ref h11, .int 0]))]) [11] rfl
  have hDc := hD.sub (ws' := [(h10, .inr (6, [.ref h11, .int 0]))]) [11] (by decide) rfl
  have hKc := hK.sub (tys' := []) [] rfl
  have hFc := va_free (wc := [(h10, .inr (6, [.ref h11, .int 0]))]) hD hS hA [11] rfl
  refine va_callv (va_runS (As := [.ref h10, .int 0]) (rest := []) ⟨hx, hb, hml, hown, hts⟩ (kx_X3_needPlace_2 l dC dI h10 h11 H.size) (cwS 2 hts gX3_cut_X3_needPlace rfl rfl rfl (by decide +kernel) ⟨Nat.le_of_ble_eq_true rfl, Nat.le_of_ble_eq_true rfl⟩) ⟨fun a U g mk q => by obtain ⟨q0, q1, qP, qK, qD⟩ := q; exact ⟨q0, q1, qP, va_K.moved (u := U) (U := U.calling g mk a) (Vm.Alike.refl U.vm) qK, qD⟩, fun U hU hW => ⟨rfl, by rw [hU], by rw [hU]; exact hPc, va_K.moved hW.alike hKc, hDc.weaken (fun _ _ _ _ => trivial)⟩⟩ rfl rfl hl.1 rfl (lv_room (Nat.le_of_ble_eq_true rfl)) dX3_cut_21 ⟨Nat.le_of_ble_eq_true rfl, Nat.le_of_ble_eq_true rfl⟩) hS (fun q _ h => hFc q h) hFc (fun u t H1 locs ht hvm hw hB hz1 hk1 hS => ?_)
  obtain ⟨hP1, hK1, hD1⟩ := hB
  rw [ht] at hP1
  have hK1 := va_K.moved hvm.symm hK1
  obtain ⟨hP, hD⟩ := va_join (wr := [(h0, .inr (7, [.ref h1, .ref z0, .ref z1, .ref h2, .ref z2, .ref z3, .int 0, .int 0, .int 0])), (h1, .inl (k0, 4, .inr (.inr (.inr (.inr (va_up (va_up (va_up (va_up (fun _ => none) 0 (some h4)) 1 (some h6)) 2 (some h8)) 3 (some h10))))))), (h2, .inr (6, [.ref h3, .int 0])), (h3, .inl (k1, 64, .inl (fun _ => 0))), (h4, .inr (6, [.ref h5, .int 0])), (h5, .inl (k2, 64, .inl (fun _ => 0))), (h6, .inr (6, [.ref h7, .int 0])), (h7, .inl (k3, 64, .inl (fun _ => 0))), (h8, .inr (6, [.ref h9, .int 0])), (h9, .inl (k4, 64, .inl (fun _ => 0))), (h11, .inl (k5, 64, .inl (fun _ => 0)))]) (w1 := [(h10, .inr (6, [.ref h11, .int 0]))]) hP hD [11] [0, 1, 2, 3, 4, 5, 6, 7, 8, 9, 10] rfl rfl (by decide) (by decide) hk1 hFc hP1 hD1
  generalize H1 = H at hP hS ⊢
  have hP : va_P (dC, dI) vwCl [(h0, .inr (7, [.ref h1, .ref z0, .ref z1, .ref h2, .ref z2, .ref z3, .int 0, .int 0, .int 0])), (h1, .inl (k0, 4, .inr (.inr (.inr (.inr (va_up (va_up (va_up (va_up (fun _ => none) 0 (some h4)) 1 (some h6)) 2 (some h8)) 3 (some h10))))))), (h2, .inr (6, [.ref h3, .int 0])), (h3, .inl (k1, 64, .inl (fun _ => 0))), (h4, .inr (6, [.ref h5, .int 0])), (h5, .inl (k2, 64, .inl (fun _ => 0))), (h6, .inr (6, [.ref h7, .int 0])), (h7, .inl (k3, 64, .inl (fun _ => 0))), (h8, .inr (6, [.ref h9, .int 0])), (h9, .inl (k4, 64, .inl (fun _ => 0))), (h11, .inl (k5, 64, .inl (fun _ => 0))), (h10, .inr (6, [.ref h11, .int 0]))] H := hP
  have hD : va_D A [(h0, .inr (7, [.ref h1, .ref z0, .ref z1, .ref h2, .ref z2, .ref z3, .int 0, .int 0, .int 0])), (h1, .inl (k0, 4, .inr (.inr (.inr (.inr (va_up (va_up (va_up (va_up (fun _ => none) 0 (some h4)) 1 (some h6)) 2 (some h8)) 3 (some h10))))))), (h2, .inr (6, [.ref h3, .int 0])), (h3, .inl (k1, 64, .inl (fun _ => 0))), (h4, .inr (6, [.ref h5, .int 0])), (h5, .inl (k2, 64, .inl (fun _ => 0))), (h6, .inr (6, [.ref h7, .int 0])), (h7, .inl (k3, 64, .inl (fun _ => 0))), (h8, .inr (6, [.ref h9, .int 0])), (h9, .inl (k4, 64, .inl (fun _ => 0))), (h11, .inl (k5, 64, .inl (fun _ => 0))), (h10, .inr (6, [.ref h11, .int 0]))] := hD
  refine lv_iload_n hx hb dX3_cut_24 rfl (lv_at hl 2 rfl) ?_
  refine lv_iload_n hx hb dX3_cut_25 rfl (lv_at hl 3 rfl) ?_
  refine lv_icmp_le (tgt := 39) hx hb dX3_cut_26 (by decide) (fun _ => ?_) (fun c9 => absurd (by decide) c9)
  refine lv_aload_n hx hb dX3_cut_39 rfl (lv_at hl 0 rfl) ?_
  refine va_get (D := (dC, dI)) (ci := 7) (v := .ref h2) (C := RX3) (T := TX3) (N := 9) hx hb hts (by decide +kernel) hown hK hP 0 rfl rfl 3 (by decide) (hts (.fieldLink RX3 32 "Rewriterope" "work" "LRewriterope$Text;") (by decide +kernel)) (fun _ h9 => h9) rfl dX3_cut_40 ?_
  have hPc := hP.sub (ws' := [(h2, .inr (6, [.ref h3, .int 0]))]) [2] rfl
  have hDc := hD.sub (ws' := [(h2, .inr (6, [.ref h3, .int 0]))]) [2] (by decide) rfl
  have hKc := hK.sub (tys' := []) [] rfl
  have hFc := va_free (wc := [(h2, .inr (6, [.ref h3, .int 0]))]) hD hS hA [2] rfl
  refine va_callv (va_runV (As := []) (rest := []) ⟨hx, hb, hml, hown, hts⟩ (kx_X2_makeEmpty_0 l dC dI h2 h3 H.size) (cwV 0 hts gX3_cut_X2_makeEmpty rfl rfl rfl (by decide +kernel) ⟨Nat.le_of_ble_eq_true rfl, Nat.le_of_ble_eq_true rfl⟩) ⟨fun a U g mk q => by obtain ⟨q0, q1, qP, qK, qD⟩ := q; exact ⟨q0, q1, qP, va_K.moved (u := U) (U := U.calling g mk a) (Vm.Alike.refl U.vm) qK, qD⟩, va_recv hKc hPc (ci := 6) (q0 := 0) rfl rfl, fun U hU hW => ⟨rfl, by rw [hU], by rw [hU]; exact hPc, va_K.moved hW.alike hKc, hDc.weaken (fun _ _ _ _ => trivial)⟩⟩ rfl rfl hl.1 rfl (lv_room (Nat.le_of_ble_eq_true rfl)) dX3_cut_43 ⟨Nat.le_of_ble_eq_true rfl, Nat.le_of_ble_eq_true rfl⟩) hS (fun q _ h => hFc q h) hFc (fun u t H1 locs ht hvm hw hB hz1 hk1 hS => ?_)
  obtain ⟨hP1, hK1, hD1⟩ := hB
  rw [ht] at hP1
  have hK1 := va_K.moved hvm.symm hK1
  obtain ⟨hP, hD⟩ := va_join (wr := [(h0, .inr (7, [.ref h1, .ref z0, .ref z1, .ref h2, .ref z2, .ref z3, .int 0, .int 0, .int 0])), (h1, .inl (k0, 4, .inr (.inr (.inr (.inr (va_up (va_up (va_up (va_up (fun _ => none) 0 (some h4)) 1 (some h6)) 2 (some h8)) 3 (some h10))))))), (h3, .inl (k1, 64, .inl (fun _ => 0))), (h4, .inr (6, [.ref h5, .int 0])), (h5, .inl (k2, 64, .inl (fun _ => 0))), (h6, .inr (6, [.ref h7, .int 0])), (h7, .inl (k3, 64, .inl (fun _ => 0))), (h8, .inr (6, [.ref h9, .int 0])), (h9, .inl (k4, 64, .inl (fun _ => 0))), (h11, .inl (k5, 64, .inl (fun _ => 0))), (h10, .inr (6, [.ref h11, .int 0]))]) (w1 := [(h2, .inr (6, [.ref h3, .int 0]))]) hP hD [2] [0, 1, 3, 4, 5, 6, 7, 8, 9, 10, 11] rfl rfl (by decide) (by decide) hk1 hFc hP1 hD1
  generalize H1 = H at hP hS ⊢
  have hP : va_P (dC, dI) vwCl [(h0, .inr (7, [.ref h1, .ref z0, .ref z1, .ref h2, .ref z2, .ref z3, .int 0, .int 0, .int 0])), (h1, .inl (k0, 4, .inr (.inr (.inr (.inr (va_up (va_up (va_up (va_up (fun _ => none) 0 (some h4)) 1 (some h6)) 2 (some h8)) 3 (some h10))))))), (h3, .inl (k1, 64, .inl (fun _ => 0))), (h4, .inr (6, [.ref h5, .int 0])), (h5, .inl (k2, 64, .inl (fun _ => 0))), (h6, .inr (6, [.ref h7, .int 0])), (h7, .inl (k3, 64, .inl (fun _ => 0))), (h8, .inr (6, [.ref h9, .int 0])), (h9, .inl (k4, 64, .inl (fun _ => 0))), (h11, .inl (k5, 64, .inl (fun _ => 0))), (h10, .inr (6, [.ref h11, .int 0])), (h2, .inr (6, [.ref h3, .int 0]))] H := hP
  have hD : va_D A [(h0, .inr (7, [.ref h1, .ref z0, .ref z1, .ref h2, .ref z2, .ref z3, .int 0, .int 0, .int 0])), (h1, .inl (k0, 4, .inr (.inr (.inr (.inr (va_up (va_up (va_up (va_up (fun _ => none) 0 (some h4)) 1 (some h6)) 2 (some h8)) 3 (some h10))))))), (h3, .inl (k1, 64, .inl (fun _ => 0))), (h4, .inr (6, [.ref h5, .int 0])), (h5, .inl (k2, 64, .inl (fun _ => 0))), (h6, .inr (6, [.ref h7, .int 0])), (h7, .inl (k3, 64, .inl (fun _ => 0))), (h8, .inr (6, [.ref h9, .int 0])), (h9, .inl (k4, 64, .inl (fun _ => 0))), (h11, .inl (k5, 64, .inl (fun _ => 0))), (h10, .inr (6, [.ref h11, .int 0])), (h2, .inr (6, [.ref h3, .int 0]))] := hD
  refine lv_aload_n hx hb dX3_cut_46 rfl (lv_at hl 0 rfl) ?_
  refine va_get (D := (dC, dI)) (ci := 7) (v := .ref h1) (C := RX3) (T := TX3) (N := 9) hx hb hts (by decide +kernel) hown hK hP 0 rfl rfl 0 (by decide) (hts (.fieldLink RX3 11 "Rewriterope" "ropes" "[LRewriterope$Text;") (by decide +kernel)) (fun _ h9 => h9) rfl dX3_cut_47 ?_
  refine lv_iload_n hx hb dX3_cut_50 rfl (lv_at hl 1 rfl) ?_
  refine va_aldq (D := (dC, dI)) hx hb hK hP 1 0 rfl rfl (by unfold vp_in; decide) dX3_cut_51 ?_
  refine W.eq (g2 := F0 m 52 ls [.ref h10]) rfl ?_
  refine lv_iload_n hx hb dX3_cut_52 rfl (lv_at hl 2 rfl) ?_
  refine lv_iload_n hx hb dX3_cut_53 rfl (lv_at hl 3 rfl) ?_
  refine lv_aload_n hx hb dX3_cut_54 rfl (lv_at hl 0 rfl) ?_
  refine va_get (D := (dC, dI)) (ci := 7) (v := .ref h2) (C := RX3) (T := TX3) (N := 9) hx hb hts (by decide +kernel) hown hK hP 0 rfl rfl 3 (by decide) (hts (.fieldLink RX3 32 "Rewriterope" "work" "LRewriterope$Text;") (by decide +kernel)) (fun _ h9 => h9) rfl dX3_cut_55 ?_
  have hPc := hP.sub (ws' := [(h3, .inl (k1, 64, .inl (fun _ => 0))), (h11, .inl (k5, 64, .inl (fun _ => 0))), (h10, .inr (6, [.ref h11, .int 0])), (h2, .inr (6, [.ref h3, .int 0]))]) [2, 9, 10, 11] rfl
  have hDc := hD.sub (ws' := [(h3, .inl (k1, 64, .inl (fun _ => 0))), (h11, .inl (k5, 64, .inl (fun _ => 0))), (h10, .inr (6, [.ref h11, .int 0])), (h2, .inr (6, [.ref h3, .int 0]))]) [2, 9, 10, 11] (by decide) rfl
  have hKc := hK.sub (tys' := [(k1, .byte), (k5, .byte)]) [1, 5] rfl
  have hFc := va_free (wc := [(h3, .inl (k1, 64, .inl (fun _ => 0))), (h11, .inl (k5, 64, .inl (fun _ => 0))), (h10, .inr (6, [.ref h11, .int 0])), (h2, .inr (6, [.ref h3, .int 0]))]) hD hS hA [2, 9, 10, 11] rfl
  refine va_callv (va_runV (As := [.int 0, .int 0, .ref h2]) (rest := []) ⟨hx, hb, hml, hown, hts⟩ (kx_X2_replace_2 l dC dI h3 h11 h10 h2 k1 k5 H.size) (cwV 3 hts gX3_cut_X2_replace rfl rfl rfl (by decide +kernel) ⟨Nat.le_of_ble_eq_true rfl, Nat.le_of_ble_eq_true rfl⟩) ⟨fun a U g mk q => by obtain ⟨q0, q1, qP, qK, qD⟩ := q; exact ⟨q0, q1, qP, va_K.moved (u := U) (U := U.calling g mk a) (Vm.Alike.refl U.vm) qK, qD⟩, va_recv hKc hPc (ci := 6) (q0 := 2) rfl rfl, fun U hU hW => ⟨rfl, by rw [hU], by rw [hU]; exact hPc, va_K.moved hW.alike hKc, hDc.weaken (fun _ _ _ _ => trivial)⟩⟩ rfl rfl hl.1 rfl (lv_room (Nat.le_of_ble_eq_true rfl)) dX3_cut_58 ⟨Nat.le_of_ble_eq_true rfl, Nat.le_of_ble_eq_true rfl⟩) hS (fun q _ h => hFc q h) hFc (fun u t H1 locs ht hvm hw hB hz1 hk1 hS => ?_)
  obtain ⟨hP1, hK1, hD1⟩ := hB
  rw [ht] at hP1
  have hK1 := va_K.moved hvm.symm hK1
  obtain ⟨hP, hD⟩ := va_join (wr := [(h0, .inr (7, [.ref h1, .ref z0, .ref z1, .ref h2, .ref z2, .ref z3, .int 0, .int 0, .int 0])), (h1, .inl (k0, 4, .inr (.inr (.inr (.inr (va_up (va_up (va_up (va_up (fun _ => none) 0 (some h4)) 1 (some h6)) 2 (some h8)) 3 (some h10))))))), (h4, .inr (6, [.ref h5, .int 0])), (h5, .inl (k2, 64, .inl (fun _ => 0))), (h6, .inr (6, [.ref h7, .int 0])), (h7, .inl (k3, 64, .inl (fun _ => 0))), (h8, .inr (6, [.ref h9, .int 0])), (h9, .inl (k4, 64, .inl (fun _ => 0)))]) (w1 := [(h3, .inl (k1, 64, .inl (fun _ => 0))), (h11, .inl (k5, 64, .inl (fun _ => 0))), (h10, .inr (6, [.ref h11, .int 0])), (h2, .inr (6, [.ref h3, .int 0]))]) hP hD [2, 9, 10, 11] [0, 1, 3, 4, 5, 6, 7, 8] rfl rfl (by decide) (by decide) hk1 hFc hP1 hD1
  generalize H1 = H at hP hS ⊢
  have hP : va_P (dC, dI) vwCl [(h0, .inr (7, [.ref h1, .ref z0, .ref z1, .ref h2, .ref z2, .ref z3, .int 0, .int 0, .int 0])), (h1, .inl (k0, 4, .inr (.inr (.inr (.inr (va_up (va_up (va_up (va_up (fun _ => none) 0 (some h4)) 1 (some h6)) 2 (some h8)) 3 (some h10))))))), (h4, .inr (6, [.ref h5, .int 0])), (h5, .inl (k2, 64, .inl (fun _ => 0))), (h6, .inr (6, [.ref h7, .int 0])), (h7, .inl (k3, 64, .inl (fun _ => 0))), (h8, .inr (6, [.ref h9, .int 0])), (h9, .inl (k4, 64, .inl (fun _ => 0))), (h3, .inl (k1, 64, .inl (fun _ => 0))), (h11, .inl (k5, 64, .inl (fun _ => 0))), (h10, .inr (6, [.ref h11, .int 0])), (h2, .inr (6, [.ref h3, .int 0]))] H := hP
  have hD : va_D A [(h0, .inr (7, [.ref h1, .ref z0, .ref z1, .ref h2, .ref z2, .ref z3, .int 0, .int 0, .int 0])), (h1, .inl (k0, 4, .inr (.inr (.inr (.inr (va_up (va_up (va_up (va_up (fun _ => none) 0 (some h4)) 1 (some h6)) 2 (some h8)) 3 (some h10))))))), (h4, .inr (6, [.ref h5, .int 0])), (h5, .inl (k2, 64, .inl (fun _ => 0))), (h6, .inr (6, [.ref h7, .int 0])), (h7, .inl (k3, 64, .inl (fun _ => 0))), (h8, .inr (6, [.ref h9, .int 0])), (h9, .inl (k4, 64, .inl (fun _ => 0))), (h3, .inl (k1, 64, .inl (fun _ => 0))), (h11, .inl (k5, 64, .inl (fun _ => 0))), (h10, .inr (6, [.ref h11, .int 0])), (h2, .inr (6, [.ref h3, .int 0]))] := hD
  refine lv_aload_n hx hb dX3_cut_61 rfl (lv_at hl 0 rfl) ?_
  refine va_get (D := (dC, dI)) (ci := 7) (v := .ref h1) (C := RX3) (T := TX3) (N := 9) hx hb hts (by decide +kernel) hown hK hP 0 rfl rfl 0 (by decide) (hts (.fieldLink RX3 11 "Rewriterope" "ropes" "[LRewriterope$Text;") (by decide +kernel)) (fun _ h9 => h9) rfl dX3_cut_62 ?_
  refine lv_iload_n hx hb dX3_cut_65 rfl (lv_at hl 1 rfl) ?_
  refine va_aldq (D := (dC, dI)) hx hb hK hP 1 0 rfl rfl (by unfold vp_in; decide) dX3_cut_66 ?_
  refine W.eq (g2 := F0 m 67 ls [.ref h10]) rfl ?_
  refine va_get (D := (dC, dI)) (ci := 6) (v := .int 0) (C := RX2) (T := TX2) (N := 2) hx hb hts (by decide +kernel) hown hK hP 10 rfl rfl 1 (by decide) (hts (.fieldLink RX3 65 "Rewriterope$Text" "length" "I") (by decide +kernel)) (fun _ h9 => h9) rfl dX3_cut_67 ?_
  have hP := hP.sub (ws' := [(h0, .inr (7, [.ref h1, .ref z0, .ref z1, .ref h2, .ref z2, .ref z3, .int 0, .int 0, .int 0])), (h1, .inl (k0, 4, .inr (.inr (.inr (.inr (va_up (va_up (va_up (va_up (fun _ => none) 0 (some h4)) 1 (some h6)) 2 (some h8)) 3 (some h10))))))), (h2, .inr (6, [.ref h3, .int 0])), (h3, .inl (k1, 64, .inl (fun _ => 0))), (h4, .inr (6, [.ref h5, .int 0])), (h5, .inl (k2, 64, .inl (fun _ => 0))), (h6, .inr (6, [.ref h7, .int 0])), (h7, .inl (k3, 64, .inl (fun _ => 0))), (h8, .inr (6, [.ref h9, .int 0])), (h9, .inl (k4, 64, .inl (fun _ => 0))), (h10, .inr (6, [.ref h11, .int 0])), (h11, .inl (k5, 64, .inl (fun _ => 0)))]) [0, 1, 11, 8, 2, 3, 4, 5, 6, 7, 10, 9] rfl
  have hD := hD.sub (ws' := [(h0, .inr (7, [.ref h1, .ref z0, .ref z1, .ref h2, .ref z2, .ref z3, .int 0, .int 0, .int 0])), (h1, .inl (k0, 4, .inr (.inr (.inr (.inr (va_up (va_up (va_up (va_up (fun _ => none) 0 (some h4)) 1 (some h6)) 2 (some h8)) 3 (some h10))))))), (h2, .inr (6, [.ref h3, .int 0])), (h3, .inl (k1, 64, .inl (fun _ => 0))), (h4, .inr (6, [.ref h5, .int 0])), (h5, .inl (k2, 64, .inl (fun _ => 0))), (h6, .inr (6, [.ref h7, .int 0])), (h7, .inl (k3, 64, .inl (fun _ => 0))), (h8, .inr (6, [.ref h9, .int 0])), (h9, .inl (k4, 64, .inl (fun _ => 0))), (h10, .inr (6, [.ref h11, .int 0])), (h11, .inl (k5, 64, .inl (fun _ => 0)))]) [0, 1, 11, 8, 2, 3, 4, 5, 6, 7, 10, 9] (by decide) rfl
  exact W.iret (v := 0) hx hb hr (fun t ht hW => ⟨⟨0, (), rfl, rfl, by rw [ht]; exact hP, va_K.moved hW.alike hK, hD⟩, hS.F ht⟩) hS.2.2 dX3_cut_70
set_option maxHeartbeats 4000000 in
set_option maxRecDepth 100000 in
theorem kx_X3_cut_s4 (l : Launch) (dC : Nat → ClassId) (dI : Nat → Nat → Nat) (h0 : Nat) (h1 : Nat) (h2 : Nat) (h3 : Nat) (h4 : Nat) (h5 : Nat) (h6 : Nat) (h7 : Nat) (h8 : Nat) (h9 : Nat) (h10 : Nat) (h11 : Nat) (z0 : Nat) (z1 : Nat) (z2 : Nat) (z3 : Nat) (k0 : ClassId) (k1 : ClassId) (k2 : ClassId) (k3 : ClassId) (k4 : ClassId) (k5 : ClassId) (sz : Nat) (j0 : Int32) (j0_l : (0 : Int) ≤ j0.toInt) (j0_u : j0.toInt ≤ (3 : Int)) : Met l yX3_cut wsX3_cut ({ frames := 2, cells := 0, slots := 0, locals := 84 }) (va_Pc [.ref h0, .int j0, .int 0, .int 0] (fun U => U.heap.size = sz ∧ va_P (dC, dI) vwCl [(h0, .inr (7, [.ref h1, .ref z0, .ref z1, .ref h2, .ref z2, .ref z3, .int 0, .int 0, .int 0])), (h1, .inl (k0, 4, .inr (.inr (.inr (.inr (va_up (va_up (va_up (va_up (fun _ => none) 0 (some h4)) 1 (some h6)) 2 (some h8)) 3 (some h10))))))), (h2, .inr (6, [.ref h3, .int 0])), (h3, .inl (k1, 64, .inl (fun _ => 0))), (h4, .inr (6, [.ref h5, .int 0])), (h5, .inl (k2, 64, .inl (fun _ => 0))), (h6, .inr (6, [.ref h7, .int 0])), (h7, .inl (k3, 64, .inl (fun _ => 0))), (h8, .inr (6, [.ref h9, .int 0])), (h9, .inl (k4, 64, .inl (fun _ => 0))), (h10, .inr (6, [.ref h11, .int 0])), (h11, .inl (k5, 64, .inl (fun _ => 0)))] U.heap ∧ va_K (dC, dI) vwCl [(k0, .object "Rewriterope$Text"), (k1, .byte), (k2, .byte), (k3, .byte), (k4, .byte), (k5, .byte)] U ∧ va_D (fun _ => True) [(h0, .inr (7, [.ref h1, .ref z0, .ref z1, .ref h2, .ref z2, .ref z3, .int 0, .int 0, .int 0])), (h1, .inl (k0, 4, .inr (.inr (.inr (.inr (va_up (va_up (va_up (va_up (fun _ => none) 0 (some h4)) 1 (some h6)) 2 (some h8)) 3 (some h10))))))), (h2, .inr (6, [.ref h3, .int 0])), (h3, .inl (k1, 64, .inl (fun _ => 0))), (h4, .inr (6, [.ref h5, .int 0])), (h5, .inl (k2, 64, .inl (fun _ => 0))), (h6, .inr (6, [.ref h7, .int 0])), (h7, .inl (k3, 64, .inl (fun _ => 0))), (h8, .inr (6, [.ref h9, .int 0])), (h9, .inl (k4, 64, .inl (fun _ => 0))), (h10, .inr (6, [.ref h11, .int 0])), (h11, .inl (k5, 64, .inl (fun _ => 0)))])) (va_Qi (fun (r : Int32) (_ : Unit) => r = 0) (fun (_ : Unit) (t : State) => va_P (dC, dI) vwCl [(h0, .inr (7, [.ref h1, .ref z0, .ref z1, .ref h2, .ref z2, .ref z3, .int 0, .int 0, .int 0])), (h1, .inl (k0, 4, .inr (.inr (.inr (.inr (va_up (va_up (va_up (va_up (fun _ => none) 0 (some h4)) 1 (some h6)) 2 (some h8)) 3 (some h10))))))), (h2, .inr (6, [.ref h3, .int 0])), (h3, .inl (k1, 64, .inl (fun _ => 0))), (h4, .inr (6, [.ref h5, .int 0])), (h5, .inl (k2, 64, .inl (fun _ => 0))), (h6, .inr (6, [.ref h7, .int 0])), (h7, .inl (k3, 64, .inl (fun _ => 0))), (h8, .inr (6, [.ref h9, .int 0])), (h9, .inl (k4, 64, .inl (fun _ => 0))), (h10, .inr (6, [.ref h11, .int 0])), (h11, .inl (k5, 64, .inl (fun _ => 0)))] t.heap ∧ va_K (dC, dI) vwCl [(k0, .object "Rewriterope$Text"), (k1, .byte), (k2, .byte), (k3, .byte), (k4, .byte), (k5, .byte)] t ∧ va_D (va_A [(h0, .inr (7, [.ref h1, .ref z0, .ref z1, .ref h2, .ref z2, .ref z3, .int 0, .int 0, .int 0])), (h1, .inl (k0, 4, .inr (.inr (.inr (.inr (va_up (va_up (va_up (va_up (fun _ => none) 0 (some h4)) 1 (some h6)) 2 (some h8)) 3 (some h10))))))), (h2, .inr (6, [.ref h3, .int 0])), (h3, .inl (k1, 64, .inl (fun _ => 0))), (h4, .inr (6, [.ref h5, .int 0])), (h5, .inl (k2, 64, .inl (fun _ => 0))), (h6, .inr (6, [.ref h7, .int 0])), (h7, .inl (k3, 64, .inl (fun _ => 0))), (h8, .inr (6, [.ref h9, .int 0])), (h9, .inl (k4, 64, .inl (fun _ => 0))), (h10, .inr (6, [.ref h11, .int 0])), (h11, .inl (k5, 64, .inl (fun _ => 0)))] sz) [(h0, .inr (7, [.ref h1, .ref z0, .ref z1, .ref h2, .ref z2, .ref z3, .int 0, .int 0, .int 0])), (h1, .inl (k0, 4, .inr (.inr (.inr (.inr (va_up (va_up (va_up (va_up (fun _ => none) 0 (some h4)) 1 (some h6)) 2 (some h8)) 3 (some h10))))))), (h2, .inr (6, [.ref h3, .int 0])), (h3, .inl (k1, 64, .inl (fun _ => 0))), (h4, .inr (6, [.ref h5, .int 0])), (h5, .inl (k2, 64, .inl (fun _ => 0))), (h6, .inr (6, [.ref h7, .int 0])), (h7, .inl (k3, 64, .inl (fun _ => 0))), (h8, .inr (6, [.ref h9, .int 0])), (h9, .inl (k4, 64, .inl (fun _ => 0))), (h10, .inr (6, [.ref h11, .int 0])), (h11, .inl (k5, 64, .inl (fun _ => 0)))]) (va_A [(h0, .inr (7, [.ref h1, .ref z0, .ref z1, .ref h2, .ref z2, .ref z3, .int 0, .int 0, .int 0])), (h1, .inl (k0, 4, .inr (.inr (.inr (.inr (va_up (va_up (va_up (va_up (fun _ => none) 0 (some h4)) 1 (some h6)) 2 (some h8)) 3 (some h10))))))), (h2, .inr (6, [.ref h3, .int 0])), (h3, .inl (k1, 64, .inl (fun _ => 0))), (h4, .inr (6, [.ref h5, .int 0])), (h5, .inl (k2, 64, .inl (fun _ => 0))), (h6, .inr (6, [.ref h7, .int 0])), (h7, .inl (k3, 64, .inl (fun _ => 0))), (h8, .inr (6, [.ref h9, .int 0])), (h9, .inl (k4, 64, .inl (fun _ => 0))), (h10, .inr (6, [.ref h11, .int 0])), (h11, .inl (k5, 64, .inl (fun _ => 0)))] sz)) 0 0 (va_A [(h0, .inr (7, [.ref h1, .ref z0, .ref z1, .ref h2, .ref z2, .ref z3, .int 0, .int 0, .int 0])), (h1, .inl (k0, 4, .inr (.inr (.inr (.inr (va_up (va_up (va_up (va_up (fun _ => none) 0 (some h4)) 1 (some h6)) 2 (some h8)) 3 (some h10))))))), (h2, .inr (6, [.ref h3, .int 0])), (h3, .inl (k1, 64, .inl (fun _ => 0))), (h4, .inr (6, [.ref h5, .int 0])), (h5, .inl (k2, 64, .inl (fun _ => 0))), (h6, .inr (6, [.ref h7, .int 0])), (h7, .inl (k3, 64, .inl (fun _ => 0))), (h8, .inr (6, [.ref h9, .int 0])), (h9, .inl (k4, 64, .inl (fun _ => 0))), (h10, .inr (6, [.ref h11, .int 0])), (h11, .inl (k5, 64, .inl (fun _ => 0)))] sz) := by
  have e9 : j0 = 0 ∨ j0 = 1 ∨ j0 = 2 ∨ j0 = 3 := by
    have h9 : j0.toInt = 0 ∨ j0.toInt = 1 ∨ j0.toInt = 2 ∨ j0.toInt = 3 := by omega
    rcases h9 with h9 | h9 | h9 | h9
    · exact Or.inl (Int32.toInt_inj.mp (h9.trans (by decide)))
    · exact Or.inr (Or.inl (Int32.toInt_inj.mp (h9.trans (by decide))))
    · exact Or.inr (Or.inr (Or.inl (Int32.toInt_inj.mp (h9.trans (by decide)))))
    · exact Or.inr (Or.inr (Or.inr (Int32.toInt_inj.mp (h9.trans (by decide)))))
  rcases e9 with rfl | rfl | rfl | rfl
  · exact kx_X3_cut_18 l dC dI h0 h1 h2 h3 h4 h5 h6 h7 h8 h9 h10 h11 z0 z1 z2 z3 k0 k1 k2 k3 k4 k5 sz
  · exact kx_X3_cut_19 l dC dI h0 h1 h2 h3 h4 h5 h6 h7 h8 h9 h10 h11 z0 z1 z2 z3 k0 k1 k2 k3 k4 k5 sz
  · exact kx_X3_cut_20 l dC dI h0 h1 h2 h3 h4 h5 h6 h7 h8 h9 h10 h11 z0 z1 z2 z3 k0 k1 k2 k3 k4 k5 sz
  · exact kx_X3_cut_21 l dC dI h0 h1 h2 h3 h4 h5 h6 h7 h8 h9 h10 h11 z0 z1 z2 z3 k0 k1 k2 k3 k4 k5 sz
set_option maxHeartbeats 4000000 in
set_option maxRecDepth 100000 in
theorem kx_L_cut_6 (l : Launch) (dC : Nat → ClassId) (dI : Nat → Nat → Nat) (ge5 gea gv5 gva gde gic gi0 : Nat) (h0 : Nat) (h1 : Nat) (h2 : Nat) (h3 : Nat) (h4 : Nat) (h5 : Nat) (h6 : Nat) (h7 : Nat) (h8 : Nat) (h9 : Nat) (h10 : Nat) (h11 : Nat) (h12 : Nat) (z0 : Nat) (z1 : Nat) (z2 : Nat) (z3 : Nat) (k0 : ClassId) (k1 : ClassId) (k2 : ClassId) (k3 : ClassId) (k4 : ClassId) (k5 : ClassId) (sz : Nat) (i0 : Int32) (i0_l : (0 : Int) ≤ i0.toInt) (i0_u : i0.toInt ≤ (3 : Int)) : Met l yL_cut wsL_cut ({ frames := 3, cells := 0, slots := 0, locals := 107 }) (va_Pc [.ref h0, .int i0, .int 0, .int 0, .ref h12] (fun U => U.heap.size = sz ∧ va_P (dC, dI) vwCl [(h0, .inr (7, [.ref h1, .ref z0, .ref z1, .ref h2, .ref z2, .ref z3, .int 0, .int 0, .int 0])), (h1, .inl (k0, 4, .inr (.inr (.inr (.inr (va_up (va_up (va_up (va_up (fun _ => none) 0 (some h4)) 1 (some h6)) 2 (some h8)) 3 (some h10))))))), (h2, .inr (6, [.ref h3, .int 0])), (h3, .inl (k1, 64, .inl (fun _ => 0))), (h4, .inr (6, [.ref h5, .int 0])), (h5, .inl (k2, 64, .inl (fun _ => 0))), (h6, .inr (6, [.ref h7, .int 0])), (h7, .inl (k3, 64, .inl (fun _ => 0))), (h8, .inr (6, [.ref h9, .int 0])), (h9, .inl (k4, 64, .inl (fun _ => 0))), (h10, .inr (6, [.ref h11, .int 0])), (h11, .inl (k5, 64, .inl (fun _ => 0))), (h12, .inr (8, [.long 0, .null]))] U.heap ∧ va_K (dC, dI) vwCl [(k0, .object "Rewriterope$Text"), (k1, .byte), (k2, .byte), (k3, .byte), (k4, .byte), (k5, .byte)] U ∧ va_D (fun _ => True) [(h0, .inr (7, [.ref h1, .ref z0, .ref z1, .ref h2, .ref z2, .ref z3, .int 0, .int 0, .int 0])), (h1, .inl (k0, 4, .inr (.inr (.inr (.inr (va_up (va_up (va_up (va_up (fun _ => none) 0 (some h4)) 1 (some h6)) 2 (some h8)) 3 (some h10))))))), (h2, .inr (6, [.ref h3, .int 0])), (h3, .inl (k1, 64, .inl (fun _ => 0))), (h4, .inr (6, [.ref h5, .int 0])), (h5, .inl (k2, 64, .inl (fun _ => 0))), (h6, .inr (6, [.ref h7, .int 0])), (h7, .inl (k3, 64, .inl (fun _ => 0))), (h8, .inr (6, [.ref h9, .int 0])), (h9, .inl (k4, 64, .inl (fun _ => 0))), (h10, .inr (6, [.ref h11, .int 0])), (h11, .inl (k5, 64, .inl (fun _ => 0))), (h12, .inr (8, [.long 0, .null]))] ∧ gv ge5 gea gv5 gva gde gic gi0 (va_A [(h0, .inr (7, [.ref h1, .ref z0, .ref z1, .ref h2, .ref z2, .ref z3, .int 0, .int 0, .int 0])), (h1, .inl (k0, 4, .inr (.inr (.inr (.inr (va_up (va_up (va_up (va_up (fun _ => none) 0 (some h4)) 1 (some h6)) 2 (some h8)) 3 (some h10))))))), (h2, .inr (6, [.ref h3, .int 0])), (h3, .inl (k1, 64, .inl (fun _ => 0))), (h4, .inr (6, [.ref h5, .int 0])), (h5, .inl (k2, 64, .inl (fun _ => 0))), (h6, .inr (6, [.ref h7, .int 0])), (h7, .inl (k3, 64, .inl (fun _ => 0))), (h8, .inr (6, [.ref h9, .int 0])), (h9, .inl (k4, 64, .inl (fun _ => 0))), (h10, .inr (6, [.ref h11, .int 0])), (h11, .inl (k5, 64, .inl (fun _ => 0))), (h12, .inr (8, [.long 0, .null]))] sz) U U.heap)) (va_Qi (fun (r : Int32) (_ : Unit) => r = 0) (fun (_ : Unit) (t : State) => va_P (dC, dI) vwCl [(h0, .inr (7, [.ref h1, .ref z0, .ref z1, .ref h2, .ref z2, .ref z3, .int 0, .int 0, .int 0])), (h1, .inl (k0, 4, .inr (.inr (.inr (.inr (va_up (va_up (va_up (va_up (fun _ => none) 0 (some h4)) 1 (some h6)) 2 (some h8)) 3 (some h10))))))), (h2, .inr (6, [.ref h3, .int 0])), (h3, .inl (k1, 64, .inl (fun _ => 0))), (h4, .inr (6, [.ref h5, .int 0])), (h5, .inl (k2, 64, .inl (fun _ => 0))), (h6, .inr (6, [.ref h7, .int 0])), (h7, .inl (k3, 64, .inl (fun _ => 0))), (h8, .inr (6, [.ref h9, .int 0])), (h9, .inl (k4, 64, .inl (fun _ => 0))), (h10, .inr (6, [.ref h11, .int 0])), (h11, .inl (k5, 64, .inl (fun _ => 0))), (h12, .inr (8, [.long 0, .null]))] t.heap ∧ va_K (dC, dI) vwCl [(k0, .object "Rewriterope$Text"), (k1, .byte), (k2, .byte), (k3, .byte), (k4, .byte), (k5, .byte)] t ∧ va_D (va_A [(h0, .inr (7, [.ref h1, .ref z0, .ref z1, .ref h2, .ref z2, .ref z3, .int 0, .int 0, .int 0])), (h1, .inl (k0, 4, .inr (.inr (.inr (.inr (va_up (va_up (va_up (va_up (fun _ => none) 0 (some h4)) 1 (some h6)) 2 (some h8)) 3 (some h10))))))), (h2, .inr (6, [.ref h3, .int 0])), (h3, .inl (k1, 64, .inl (fun _ => 0))), (h4, .inr (6, [.ref h5, .int 0])), (h5, .inl (k2, 64, .inl (fun _ => 0))), (h6, .inr (6, [.ref h7, .int 0])), (h7, .inl (k3, 64, .inl (fun _ => 0))), (h8, .inr (6, [.ref h9, .int 0])), (h9, .inl (k4, 64, .inl (fun _ => 0))), (h10, .inr (6, [.ref h11, .int 0])), (h11, .inl (k5, 64, .inl (fun _ => 0))), (h12, .inr (8, [.long 0, .null]))] sz) [(h0, .inr (7, [.ref h1, .ref z0, .ref z1, .ref h2, .ref z2, .ref z3, .int 0, .int 0, .int 0])), (h1, .inl (k0, 4, .inr (.inr (.inr (.inr (va_up (va_up (va_up (va_up (fun _ => none) 0 (some h4)) 1 (some h6)) 2 (some h8)) 3 (some h10))))))), (h2, .inr (6, [.ref h3, .int 0])), (h3, .inl (k1, 64, .inl (fun _ => 0))), (h4, .inr (6, [.ref h5, .int 0])), (h5, .inl (k2, 64, .inl (fun _ => 0))), (h6, .inr (6, [.ref h7, .int 0])), (h7, .inl (k3, 64, .inl (fun _ => 0))), (h8, .inr (6, [.ref h9, .int 0])), (h9, .inl (k4, 64, .inl (fun _ => 0))), (h10, .inr (6, [.ref h11, .int 0])), (h11, .inl (k5, 64, .inl (fun _ => 0))), (h12, .inr (8, [.long 0, .null]))]) (va_A [(h0, .inr (7, [.ref h1, .ref z0, .ref z1, .ref h2, .ref z2, .ref z3, .int 0, .int 0, .int 0])), (h1, .inl (k0, 4, .inr (.inr (.inr (.inr (va_up (va_up (va_up (va_up (fun _ => none) 0 (some h4)) 1 (some h6)) 2 (some h8)) 3 (some h10))))))), (h2, .inr (6, [.ref h3, .int 0])), (h3, .inl (k1, 64, .inl (fun _ => 0))), (h4, .inr (6, [.ref h5, .int 0])), (h5, .inl (k2, 64, .inl (fun _ => 0))), (h6, .inr (6, [.ref h7, .int 0])), (h7, .inl (k3, 64, .inl (fun _ => 0))), (h8, .inr (6, [.ref h9, .int 0])), (h9, .inl (k4, 64, .inl (fun _ => 0))), (h10, .inr (6, [.ref h11, .int 0])), (h11, .inl (k5, 64, .inl (fun _ => 0))), (h12, .inr (8, [.long 0, .null]))] sz)) 0 0 (va_A [(h0, .inr (7, [.ref h1, .ref z0, .ref z1, .ref h2, .ref z2, .ref z3, .int 0, .int 0, .int 0])), (h1, .inl (k0, 4, .inr (.inr (.inr (.inr (va_up (va_up (va_up (va_up (fun _ => none) 0 (some h4)) 1 (some h6)) 2 (some h8)) 3 (some h10))))))), (h2, .inr (6, [.ref h3, .int 0])), (h3, .inl (k1, 64, .inl (fun _ => 0))), (h4, .inr (6, [.ref h5, .int 0])), (h5, .inl (k2, 64, .inl (fun _ => 0))), (h6, .inr (6, [.ref h7, .int 0])), (h7, .inl (k3, 64, .inl (fun _ => 0))), (h8, .inr (6, [.ref h9, .int 0])), (h9, .inl (k4, 64, .inl (fun _ => 0))), (h10, .inr (6, [.ref h11, .int 0])), (h11, .inl (k5, 64, .inl (fun _ => 0))), (h12, .inr (8, [.long 0, .null]))] sz) := by
  refine kz_ofWH (cc := cL_cut) (maxL := 6) (ret := (some .int)) (hh := [(0, 13, 16, 19), (0, 13, 20, 21)]) (by decide) rfl ?_
  intro p e s m args below meth c s₁ B hml hv
  obtain ⟨rfl, hsz, hP, hK, hD0, hG⟩ := hv
  have hx := B.exec
  have hb := B.bytes
  have hr := B.returns
  have hts := atoms_spec (ws := wsL_cut) B.pre
  have hown : s.vm.findClass RL = some m.cls := findClass_of_methodNamed B.named
  have htab := vx_table (x := yL_cut) B (hts (.codeWith yL_cut cL_cut 6 (some .int) [(0, 13, 16, 19), (0, 13, 20, 21)]) (by decide +kernel))
  have hlocks := B.notSynchronized
  subst hsz
  have hD := hD0.self (sz := s.heap.size)
  generalize hAe : va_A [(h0, .inr (7, [.ref h1, .ref z0, .ref z1, .ref h2, .ref z2, .ref z3, .int 0, .int 0, .int 0])), (h1, .inl (k0, 4, .inr (.inr (.inr (.inr (va_up (va_up (va_up (va_up (fun _ => none) 0 (some h4)) 1 (some h6)) 2 (some h8)) 3 (some h10))))))), (h2, .inr (6, [.ref h3, .int 0])), (h3, .inl (k1, 64, .inl (fun _ => 0))), (h4, .inr (6, [.ref h5, .int 0])), (h5, .inl (k2, 64, .inl (fun _ => 0))), (h6, .inr (6, [.ref h7, .int 0])), (h7, .inl (k3, 64, .inl (fun _ => 0))), (h8, .inr (6, [.ref h9, .int 0])), (h9, .inl (k4, 64, .inl (fun _ => 0))), (h10, .inr (6, [.ref h11, .int 0])), (h11, .inl (k5, 64, .inl (fun _ => 0))), (h12, .inr (8, [.long 0, .null]))] s.heap.size = A at hD hG ⊢
  obtain ⟨⟨g_AO_Text, g_AO_String, g_AO_Object, g_nm_RX1_20, g_nm_RX0_17, g_nm_RX3_31, g_nm_RX2_44, g_nm_RL_121, g_nf_RL_13, g_nf_RL_47, g_ca_IO, g_ca_IA, g_ca_IS, g_ca_IntObj, g_ca_StrObj, g_de_RT, g_de_EX, g_de_TH, g_nc_IA_IO, g_nc_IS_IO, g_nc_IS_IA⟩, ⟨g_s3, g_s5, g_sa, g_x278, g_x280, g_x282, g_x284, g_x286, g_x180, g_x238, g_x250⟩, ⟨g_o5, g_c5, g_v5, g_t5, g_oa, g_ca, g_va, g_ta, g_zc, g_zd, g_td, g_zf, g_zU, g_zN, g_zh, g_zk, g_tk, g_oi, g_vi⟩⟩ := id hG
  have hA : ∀ q : Nat, s.heap.size ≤ q → A q := fun q h => by rw [← hAe]; exact Or.inr h
  have hS : va_S A s.heap s.heap [] := va_S.rf
  have hP : va_P (dC, dI) vwCl [(h0, .inr (7, [.ref h1, .ref z0, .ref z1, .ref h2, .ref z2, .ref z3, .int 0, .int 0, .int 0])), (h1, .inl (k0, 4, .inr (.inr (.inr (.inr (va_up (va_up (va_up (va_up (fun _ => none) 0 (some h4)) 1 (some h6)) 2 (some h8)) 3 (some h10))))))), (h2, .inr (6, [.ref h3, .int 0])), (h3, .inl (k1, 64, .inl (fun _ => 0))), (h4, .inr (6, [.ref h5, .int 0])), (h5, .inl (k2, 64, .inl (fun _ => 0))), (h6, .inr (6, [.ref h7, .int 0])), (h7, .inl (k3, 64, .inl (fun _ => 0))), (h8, .inr (6, [.ref h9, .int 0])), (h9, .inl (k4, 64, .inl (fun _ => 0))), (h10, .inr (6, [.ref h11, .int 0])), (h11, .inl (k5, 64, .inl (fun _ => 0))), (h12, .inr (8, [.long 0, .null]))] s.heap := hP
  have hl := lv_entry ([.ref h0, .int i0, .int 0, .int 0, .ref h12]) (n := 6) (Nat.le_of_ble_eq_true rfl)
  rw [lg_entry_eq]
  generalize (lg_sl ([.ref h0, .int i0, .int 0, .int 0, .ref h12]) ++ List.replicate (6 - (lg_sl ([.ref h0, .int i0, .int 0, .int 0, .ref h12])).length) Slot.unset).toArray = ls at hl ⊢
  have hl : lv_has ls 6 [(0, .ref h0), (1, .int i0), (2, .int 0), (3, .int 0), (4, .ref h12)] := hl
  refine lv_aload hx hb dL_cut_0 (lv_at hl 4 rfl) ?_
  refine lv_aload_n hx hb dL_cut_2 rfl (lv_at hl 0 rfl) ?_
  refine lv_iload_n hx hb dL_cut_3 rfl (lv_at hl 1 rfl) ?_
  refine lv_iload_n hx hb dL_cut_4 rfl (lv_at hl 2 rfl) ?_
  refine lv_iload_n hx hb dL_cut_5 rfl (lv_at hl 3 rfl) ?_
  have hPc := hP.sub (ws' := [(h0, .inr (7, [.ref h1, .ref z0, .ref z1, .ref h2, .ref z2, .ref z3, .int 0, .int 0, .int 0])), (h1, .inl (k0, 4, .inr (.inr (.inr (.inr (va_up (va_up (va_up (va_up (fun _ => none) 0 (some h4)) 1 (some h6)) 2 (some h8)) 3 (some h10))))))), (h2, .inr (6, [.ref h3, .int 0])), (h3, .inl (k1, 64, .inl (fun _ => 0))), (h4, .inr (6, [.ref h5, .int 0])), (h5, .inl (k2, 64, .inl (fun _ => 0))), (h6, .inr (6, [.ref h7, .int 0])), (h7, .inl (k3, 64, .inl (fun _ => 0))), (h8, .inr (6, [.ref h9, .int 0])), (h9, .inl (k4, 64, .inl (fun _ => 0))), (h10, .inr (6, [.ref h11, .int 0])), (h11, .inl (k5, 64, .inl (fun _ => 0)))]) [0, 1, 2, 3, 4, 5, 6, 7, 8, 9, 10, 11] rfl
  have hDc := hD.sub (ws' := [(h0, .inr (7, [.ref h1, .ref z0, .ref z1, .ref h2, .ref z2, .ref z3, .int 0, .int 0, .int 0])), (h1, .inl (k0, 4, .inr (.inr (.inr (.inr (va_up (va_up (va_up (va_up (fun _ => none) 0 (some h4)) 1 (some h6)) 2 (some h8)) 3 (some h10))))))), (h2, .inr (6, [.ref h3, .int 0])), (h3, .inl (k1, 64, .inl (fun _ => 0))), (h4, .inr (6, [.ref h5, .int 0])), (h5, .inl (k2, 64, .inl (fun _ => 0))), (h6, .inr (6, [.ref h7, .int 0])), (h7, .inl (k3, 64, .inl (fun _ => 0))), (h8, .inr (6, [.ref h9, .int 0])), (h9, .inl (k4, 64, .inl (fun _ => 0))), (h10, .inr (6, [.ref h11, .int 0])), (h11, .inl (k5, 64, .inl (fun _ => 0)))]) [0, 1, 2, 3, 4, 5, 6, 7, 8, 9, 10, 11] (by decide) rfl
  have hKc := hK.sub (tys' := [(k0, .object "Rewriterope$Text"), (k1, .byte), (k2, .byte), (k3, .byte), (k4, .byte), (k5, .byte)]) [0, 1, 2, 3, 4, 5] rfl
  have hFc := va_free (wc := [(h0, .inr (7, [.ref h1, .ref z0, .ref z1, .ref h2, .ref z2, .ref z3, .int 0, .int 0, .int 0])), (h1, .inl (k0, 4, .inr (.inr (.inr (.inr (va_up (va_up (va_up (va_up (fun _ => none) 0 (some h4)) 1 (some h6)) 2 (some h8)) 3 (some h10))))))), (h2, .inr (6, [.ref h3, .int 0])), (h3, .inl (k1, 64, .inl (fun _ => 0))), (h4, .inr (6, [.ref h5, .int 0])), (h5, .inl (k2, 64, .inl (fun _ => 0))), (h6, .inr (6, [.ref h7, .int 0])), (h7, .inl (k3, 64, .inl (fun _ => 0))), (h8, .inr (6, [.ref h9, .int 0])), (h9, .inl (k4, 64, .inl (fun _ => 0))), (h10, .inr (6, [.ref h11, .int 0])), (h11, .inl (k5, 64, .inl (fun _ => 0)))]) hD hS hA [0, 1, 2, 3, 4, 5, 6, 7, 8, 9, 10, 11] rfl
  refine va_calli (va_runV (As := [.int i0, .int 0, .int 0]) (rest := [.ref h12]) ⟨hx, hb, hml, hown, hts⟩ (kx_X3_cut_s4 l dC dI h0 h1 h2 h3 h4 h5 h6 h7 h8 h9 h10 h11 z0 z1 z2 z3 k0 k1 k2 k3 k4 k5 s.heap.size i0 i0_l i0_u) (cwV 3 hts gL_cut_X3_cut rfl rfl rfl (by decide +kernel) ⟨Nat.le_of_ble_eq_true rfl, Nat.le_of_ble_eq_true rfl⟩) ⟨fun a U g mk q => by obtain ⟨q0, q1, qP, qK, qD⟩ := q; exact ⟨q0, q1, qP, va_K.moved (u := U) (U := U.calling g mk a) (Vm.Alike.refl U.vm) qK, qD⟩, va_recv hKc hPc (ci := 7) (q0 := 0) rfl rfl, fun U hU hW => ⟨rfl, by rw [hU], by rw [hU]; exact hPc, va_K.moved hW.alike hKc, hDc.weaken (fun _ _ _ _ => trivial)⟩⟩ rfl rfl hl.1 rfl (lv_room (Nat.le_of_ble_eq_true rfl)) dL_cut_6 ⟨Nat.le_of_ble_eq_true rfl, Nat.le_of_ble_eq_true rfl⟩) hS (fun q _ h => hFc q h) hFc (fun r9 u t H1 locs ht hvm hw hB hz1 hk1 hS => ?_)
  obtain rfl := hw
  obtain ⟨hP1, hK1, hD1⟩ := hB
  rw [ht] at hP1
  have hK1 := va_K.moved hvm.symm hK1
  obtain ⟨hP, hD⟩ := va_join (wr := [(h12, .inr (8, [.long 0, .null]))]) (w1 := [(h0, .inr (7, [.ref h1, .ref z0, .ref z1, .ref h2, .ref z2, .ref z3, .int 0, .int 0, .int 0])), (h1, .inl (k0, 4, .inr (.inr (.inr (.inr (va_up (va_up (va_up (va_up (fun _ => none) 0 (some h4)) 1 (some h6)) 2 (some h8)) 3 (some h10))))))), (h2, .inr (6, [.ref h3, .int 0])), (h3, .inl (k1, 64, .inl (fun _ => 0))), (h4, .inr (6, [.ref h5, .int 0])), (h5, .inl (k2, 64, .inl (fun _ => 0))), (h6, .inr (6, [.ref h7, .int 0])), (h7, .inl (k3, 64, .inl (fun _ => 0))), (h8, .inr (6, [.ref h9, .int 0])), (h9, .inl (k4, 64, .inl (fun _ => 0))), (h10, .inr (6, [.ref h11, .int 0])), (h11, .inl (k5, 64, .inl (fun _ => 0)))]) hP hD [0, 1, 2, 3, 4, 5, 6, 7, 8, 9, 10, 11] [12] rfl rfl (by decide) (by decide) hk1 hFc hP1 hD1
  generalize H1 = H at hP hS ⊢
  have hP : va_P (dC, dI) vwCl [(h12, .inr (8, [.long 0, .null])), (h0, .inr (7, [.ref h1, .ref z0, .ref z1, .ref h2, .ref z2, .ref z3, .int 0, .int 0, .int 0])), (h1, .inl (k0, 4, .inr (.inr (.inr (.inr (va_up (va_up (va_up (va_up (fun _ => none) 0 (some h4)) 1 (some h6)) 2 (some h8)) 3 (some h10))))))), (h2, .inr (6, [.ref h3, .int 0])), (h3, .inl (k1, 64, .inl (fun _ => 0))), (h4, .inr (6, [.ref h5, .int 0])), (h5, .inl (k2, 64, .inl (fun _ => 0))), (h6, .inr (6, [.ref h7, .int 0])), (h7, .inl (k3, 64, .inl (fun _ => 0))), (h8, .inr (6, [.ref h9, .int 0])), (h9, .inl (k4, 64, .inl (fun _ => 0))), (h10, .inr (6, [.ref h11, .int 0])), (h11, .inl (k5, 64, .inl (fun _ => 0)))] H := hP
  have hD : va_D A [(h12, .inr (8, [.long 0, .null])), (h0, .inr (7, [.ref h1, .ref z0, .ref z1, .ref h2, .ref z2, .ref z3, .int 0, .int 0, .int 0])), (h1, .inl (k0, 4, .inr (.inr (.inr (.inr (va_up (va_up (va_up (va_up (fun _ => none) 0 (some h4)) 1 (some h6)) 2 (some h8)) 3 (some h10))))))), (h2, .inr (6, [.ref h3, .int 0])), (h3, .inl (k1, 64, .inl (fun _ => 0))), (h4, .inr (6, [.ref h5, .int 0])), (h5, .inl (k2, 64, .inl (fun _ => 0))), (h6, .inr (6, [.ref h7, .int 0])), (h7, .inl (k3, 64, .inl (fun _ => 0))), (h8, .inr (6, [.ref h9, .int 0])), (h9, .inl (k4, 64, .inl (fun _ => 0))), (h10, .inr (6, [.ref h11, .int 0])), (h11, .inl (k5, 64, .inl (fun _ => 0)))] := hD
  refine lv_i2l (v := 0) hx hb dL_cut_9 (by decide) ?_
  refine va_putN (D := (dC, dI)) (ci := 8) (v := .long 0) (ty := .long) (C := RX4) (T := TX4) (N := 2) hx hb hts (by decide +kernel) tyX4 tyX4_ok nmX4 hown hK hP hD hS 0 rfl rfl 0 (by decide) (va_Nw.use rfl g_nf_RL_13) (fun _ h9 => h9) rfl (by decide +kernel) rfl rfl (Nat.le_of_ble_eq_true rfl) dL_cut_10 (fun H locs hP hD hS => ?_)
  have hP : va_P (dC, dI) vwCl [(h12, .inr (8, [.long 0, .null])), (h0, .inr (7, [.ref h1, .ref z0, .ref z1, .ref h2, .ref z2, .ref z3, .int 0, .int 0, .int 0])), (h1, .inl (k0, 4, .inr (.inr (.inr (.inr (va_up (va_up (va_up (va_up (fun _ => none) 0 (some h4)) 1 (some h6)) 2 (some h8)) 3 (some h10))))))), (h2, .inr (6, [.ref h3, .int 0])), (h3, .inl (k1, 64, .inl (fun _ => 0))), (h4, .inr (6, [.ref h5, .int 0])), (h5, .inl (k2, 64, .inl (fun _ => 0))), (h6, .inr (6, [.ref h7, .int 0])), (h7, .inl (k3, 64, .inl (fun _ => 0))), (h8, .inr (6, [.ref h9, .int 0])), (h9, .inl (k4, 64, .inl (fun _ => 0))), (h10, .inr (6, [.ref h11, .int 0])), (h11, .inl (k5, 64, .inl (fun _ => 0)))] H := hP
  have hD : va_D A [(h12, .inr (8, [.long 0, .null])), (h0, .inr (7, [.ref h1, .ref z0, .ref z1, .ref h2, .ref z2, .ref z3, .int 0, .int 0, .int 0])), (h1, .inl (k0, 4, .inr (.inr (.inr (.inr (va_up (va_up (va_up (va_up (fun _ => none) 0 (some h4)) 1 (some h6)) 2 (some h8)) 3 (some h10))))))), (h2, .inr (6, [.ref h3, .int 0])), (h3, .inl (k1, 64, .inl (fun _ => 0))), (h4, .inr (6, [.ref h5, .int 0])), (h5, .inl (k2, 64, .inl (fun _ => 0))), (h6, .inr (6, [.ref h7, .int 0])), (h7, .inl (k3, 64, .inl (fun _ => 0))), (h8, .inr (6, [.ref h9, .int 0])), (h9, .inl (k4, 64, .inl (fun _ => 0))), (h10, .inr (6, [.ref h11, .int 0])), (h11, .inl (k5, 64, .inl (fun _ => 0)))] := hD
  refine lv_goto (tgt := 24) hx hb dL_cut_13 (by decide) ?_
  refine lv_iconst (v := 0) hx hb dL_cut_24 (by decide) ?_
  have hP := hP.sub (ws' := [(h0, .inr (7, [.ref h1, .ref z0, .ref z1, .ref h2, .ref z2, .ref z3, .int 0, .int 0, .int 0])), (h1, .inl (k0, 4, .inr (.inr (.inr (.inr (va_up (va_up (va_up (va_up (fun _ => none) 0 (some h4)) 1 (some h6)) 2 (some h8)) 3 (some h10))))))), (h2, .inr (6, [.ref h3, .int 0])), (h3, .inl (k1, 64, .inl (fun _ => 0))), (h4, .inr (6, [.ref h5, .int 0])), (h5, .inl (k2, 64, .inl (fun _ => 0))), (h6, .inr (6, [.ref h7, .int 0])), (h7, .inl (k3, 64, .inl (fun _ => 0))), (h8, .inr (6, [.ref h9, .int 0])), (h9, .inl (k4, 64, .inl (fun _ => 0))), (h10, .inr (6, [.ref h11, .int 0])), (h11, .inl (k5, 64, .inl (fun _ => 0))), (h12, .inr (8, [.long 0, .null]))]) [1, 2, 3, 4, 5, 6, 7, 8, 9, 10, 11, 12, 0] rfl
  have hD := hD.sub (ws' := [(h0, .inr (7, [.ref h1, .ref z0, .ref z1, .ref h2, .ref z2, .ref z3, .int 0, .int 0, .int 0])), (h1, .inl (k0, 4, .inr (.inr (.inr (.inr (va_up (va_up (va_up (va_up (fun _ => none) 0 (some h4)) 1 (some h6)) 2 (some h8)) 3 (some h10))))))), (h2, .inr (6, [.ref h3, .int 0])), (h3, .inl (k1, 64, .inl (fun _ => 0))), (h4, .inr (6, [.ref h5, .int 0])), (h5, .inl (k2, 64, .inl (fun _ => 0))), (h6, .inr (6, [.ref h7, .int 0])), (h7, .inl (k3, 64, .inl (fun _ => 0))), (h8, .inr (6, [.ref h9, .int 0])), (h9, .inl (k4, 64, .inl (fun _ => 0))), (h10, .inr (6, [.ref h11, .int 0])), (h11, .inl (k5, 64, .inl (fun _ => 0))), (h12, .inr (8, [.long 0, .null]))]) [1, 2, 3, 4, 5, 6, 7, 8, 9, 10, 11, 12, 0] (by decide) rfl
  exact W.iret (v := 0) hx hb hr (fun t ht hW => ⟨⟨0, (), rfl, rfl, by rw [ht]; exact hP, va_K.moved hW.alike hK, hD⟩, hS.F ht⟩) hS.2.2 dL_cut_25
set_option maxHeartbeats 4000000 in
set_option maxRecDepth 100000 in
theorem kx_X5_cut_6 (l : Launch) (dC : Nat → ClassId) (dI : Nat → Nat → Nat) (ge5 gea gv5 gva gde gic gi0 : Nat) (h0 : Nat) (h1 : Nat) (z0 : Nat) (z1 : Nat) (k0 : ClassId) (sz : Nat) (i0 : Int32) (i0_l : (0 : Int) ≤ i0.toInt) (i0_u : i0.toInt ≤ (3 : Int)) : Met l yX5_cut wsX5_cut ({ frames := 7, cells := 4, slots := 24, locals := 194 }) (va_Pc [.ref h0, .int i0, .int 0, .int 0] (fun U => U.heap.size = sz ∧ va_P (dC, dI) vwCl [(h0, .inr (9, [.int 0, .ref h1, .ref z0, .ref z1, .int 0, .int 0, .int 0])), (h1, .inl (k0, 4, .inr (.inr (.inr (.inr (va_up (va_up (va_up (va_up (fun _ => none) 0 (some ge5)) 1 (some ge5)) 2 (some ge5)) 3 (some ge5)))))))] U.heap ∧ va_K (dC, dI) vwCl [(k0, .object "java/lang/String")] U ∧ va_D (fun _ => True) [(h0, .inr (9, [.int 0, .ref h1, .ref z0, .ref z1, .int 0, .int 0, .int 0])), (h1, .inl (k0, 4, .inr (.inr (.inr (.inr (va_up (va_up (va_up (va_up (fun _ => none) 0 (some ge5)) 1 (some ge5)) 2 (some ge5)) 3 (some ge5)))))))] ∧ gv ge5 gea gv5 gva gde gic gi0 (va_A [(h0, .inr (9, [.int 0, .ref h1, .ref z0, .ref z1, .int 0, .int 0, .int 0])), (h1, .inl (k0, 4, .inr (.inr (.inr (.inr (va_up (va_up (va_up (va_up (fun _ => none) 0 (some ge5)) 1 (some ge5)) 2 (some ge5)) 3 (some ge5)))))))] sz) U U.heap)) (va_Qi (fun (r : Int32) (_ : Unit) => r = 0) (fun (_ : Unit) (t : State) => ∃ q2 : Nat, ∃ q3 : Nat, ∃ q4 : Nat, ∃ q5 : Nat, ∃ cq6 : ClassId, ∃ cq7 : ClassId, va_P (dC, dI) vwCl [(h0, .inr (9, [.int 0, .ref h1, .ref z0, .ref z1, .int 0, .int 0, .int 0]))] t.heap ∧ va_K (dC, dI) vwCl [(k0, .object "java/lang/String"), (cq6, .byte), (cq7, .byte)] t ∧ va_D (va_A [(h0, .inr (9, [.int 0, .ref h1, .ref z0, .ref z1, .int 0, .int 0, .int 0])), (h1, .inl (k0, 4, .inr (.inr (.inr (.inr (va_up (va_up (va_up (va_up (fun _ => none) 0 (some ge5)) 1 (some ge5)) 2 (some ge5)) 3 (some ge5)))))))] sz) [(h0, .inr (9, [.int 0, .ref h1, .ref z0, .ref z1, .int 0, .int 0, .int 0]))]) (va_A [(h0, .inr (9, [.int 0, .ref h1, .ref z0, .ref z1, .int 0, .int 0, .int 0])), (h1, .inl (k0, 4, .inr (.inr (.inr (.inr (va_up (va_up (va_up (va_up (fun _ => none) 0 (some ge5)) 1 (some ge5)) 2 (some ge5)) 3 (some ge5)))))))] sz)) 4 24 (va_A [(h0, .inr (9, [.int 0, .ref h1, .ref z0, .ref z1, .int 0, .int 0, .int 0])), (h1, .inl (k0, 4, .inr (.inr (.inr (.inr (va_up (va_up (va_up (va_up (fun _ => none) 0 (some ge5)) 1 (some ge5)) 2 (some ge5)) 3 (some ge5)))))))] sz) := by
  refine Met.ofW (cc := cX5_cut) (maxL := 4) (ret := (some .int)) (by decide) rfl ?_
  intro p e s m args below meth c s₁ B hml hv
  obtain ⟨rfl, hsz, hP, hK, hD0, hG⟩ := hv
  have hx := B.exec
  have hb := B.bytes
  have hr := B.returns
  have hts := atoms_spec (ws := wsX5_cut) B.pre
  have hown : s.vm.findClass RX5 = some m.cls := findClass_of_methodNamed B.named
  have hlocks := B.notSynchronized
  subst hsz
  have hD := hD0.self (sz := s.heap.size)
  generalize hAe : va_A [(h0, .inr (9, [.int 0, .ref h1, .ref z0, .ref z1, .int 0, .int 0, .int 0])), (h1, .inl (k0, 4, .inr (.inr (.inr (.inr (va_up (va_up (va_up (va_up (fun _ => none) 0 (some ge5)) 1 (some ge5)) 2 (some ge5)) 3 (some ge5)))))))] s.heap.size = A at hD hG ⊢
  obtain ⟨⟨g_AO_Text, g_AO_String, g_AO_Object, g_nm_RX1_20, g_nm_RX0_17, g_nm_RX3_31, g_nm_RX2_44, g_nm_RL_121, g_nf_RL_13, g_nf_RL_47, g_ca_IO, g_ca_IA, g_ca_IS, g_ca_IntObj, g_ca_StrObj, g_de_RT, g_de_EX, g_de_TH, g_nc_IA_IO, g_nc_IS_IO, g_nc_IS_IA⟩, ⟨g_s3, g_s5, g_sa, g_x278, g_x280, g_x282, g_x284, g_x286, g_x180, g_x238, g_x250⟩, ⟨g_o5, g_c5, g_v5, g_t5, g_oa, g_ca, g_va, g_ta, g_zc, g_zd, g_td, g_zf, g_zU, g_zN, g_zh, g_zk, g_tk, g_oi, g_vi⟩⟩ := id hG
  have hA : ∀ q : Nat, s.heap.size ≤ q → A q := fun q h => by rw [← hAe]; exact Or.inr h
  have hS : va_S A s.heap s.heap [] := va_S.rf
  have hP : va_P (dC, dI) vwCl [(h0, .inr (9, [.int 0, .ref h1, .ref z0, .ref z1, .int 0, .int 0, .int 0])), (h1, .inl (k0, 4, .inr (.inr (.inr (.inr (va_up (va_up (va_up (va_up (fun _ => none) 0 (some ge5)) 1 (some ge5)) 2 (some ge5)) 3 (some ge5)))))))] s.heap := hP
  have hl := lv_entry ([.ref h0, .int i0, .int 0, .int 0]) (n := 4) (Nat.le_of_ble_eq_true rfl)
  rw [lg_entry_eq]
  generalize (lg_sl ([.ref h0, .int i0, .int 0, .int 0]) ++ List.replicate (4 - (lg_sl ([.ref h0, .int i0, .int 0, .int 0])).length) Slot.unset).toArray = ls at hl ⊢
  have hl : lv_has ls 4 [(0, .ref h0), (1, .int i0), (2, .int 0), (3, .int 0)] := hl
  refine lv_aload_n hx hb dX5_cut_0 rfl (lv_at hl 0 rfl) ?_
  refine lv_iload_n hx hb dX5_cut_1 rfl (lv_at hl 1 rfl) ?_
  have hPc := hP.sub (ws' := []) [] rfl
  have hDc := hD.sub (ws' := []) [] (by decide) rfl
  have hKc := hK.sub (tys' := []) [] rfl
  have hFc := va_free (wc := []) hD hS hA [] rfl
  refine va_calli (va_runS (As := [.int i0]) (rest := [.ref h0]) ⟨hx, hb, hml, hown, hts⟩ (kx_X5_isNo_1 l dC dI s.heap.size i0 i0_l i0_u) (cwS 1 hts gX5_cut_X5_isNo rfl rfl rfl (by decide +kernel) ⟨Nat.le_of_ble_eq_true rfl, Nat.le_of_ble_eq_true rfl⟩) ⟨fun a U g mk q => by obtain ⟨q0, q1, qP, qK, qD⟩ := q; exact ⟨q0, q1, qP, va_K.moved (u := U) (U := U.calling g mk a) (Vm.Alike.refl U.vm) qK, qD⟩, fun U hU hW => ⟨rfl, by rw [hU], by rw [hU]; exact hPc, va_K.moved hW.alike hKc, hDc.weaken (fun _ _ _ _ => trivial)⟩⟩ rfl rfl hl.1 rfl (lv_room (Nat.le_of_ble_eq_true rfl)) dX5_cut_2 ⟨Nat.le_of_ble_eq_true rfl, Nat.le_of_ble_eq_true rfl⟩) hS (fun q _ h => hFc q h) hFc (fun r9 u t H1 locs ht hvm hw hB hz1 hk1 hS => ?_)
  obtain rfl := hw
  obtain ⟨hP1, hK1, hD1⟩ := hB
  rw [ht] at hP1
  have hK1 := va_K.moved hvm.symm hK1
  obtain ⟨hP, hD⟩ := va_join (wr := [(h0, .inr (9, [.int 0, .ref h1, .ref z0, .ref z1, .int 0, .int 0, .int 0])), (h1, .inl (k0, 4, .inr (.inr (.inr (.inr (va_up (va_up (va_up (va_up (fun _ => none) 0 (some ge5)) 1 (some ge5)) 2 (some ge5)) 3 (some ge5)))))))]) (w1 := []) hP hD [] [0, 1] rfl rfl (by decide) (by decide) hk1 hFc hP1 hD1
  generalize H1 = H at hP hS ⊢
  have hP : va_P (dC, dI) vwCl [(h0, .inr (9, [.int 0, .ref h1, .ref z0, .ref z1, .int 0, .int 0, .int 0])), (h1, .inl (k0, 4, .inr (.inr (.inr (.inr (va_up (va_up (va_up (va_up (fun _ => none) 0 (some ge5)) 1 (some ge5)) 2 (some ge5)) 3 (some ge5)))))))] H := hP
  have hD : va_D A [(h0, .inr (9, [.int 0, .ref h1, .ref z0, .ref z1, .int 0, .int 0, .int 0])), (h1, .inl (k0, 4, .inr (.inr (.inr (.inr (va_up (va_up (va_up (va_up (fun _ => none) 0 (some ge5)) 1 (some ge5)) 2 (some ge5)) 3 (some ge5)))))))] := hD
  refine lv_if_ne (tgt := 42) hx hb dX5_cut_5 (by decide) (fun c9 => absurd (by decide) c9) (fun _ => ?_)
  refine lv_iload_n hx hb dX5_cut_8 rfl (lv_at hl 2 rfl) ?_
  refine lv_iconst (v := 0) hx hb dX5_cut_9 (by decide) ?_
  refine lv_aload_n hx hb dX5_cut_10 rfl (lv_at hl 0 rfl) ?_
  refine va_get (D := (dC, dI)) (ci := 9) (v := .ref h1) (C := RX5) (T := TX5) (N := 7) hx hb hts (by decide +kernel) hown hK hP 0 rfl rfl 1 (by decide) (hts (.fieldLink RX5 11 "RewriteropeModel" "ropes" "[Ljava/lang/String;") (by decide +kernel)) (fun _ h9 => h9) rfl dX5_cut_11 ?_
  refine lv_iload_n hx hb dX5_cut_14 rfl (lv_at hl 1 rfl) ?_
  refine va_aldq (D := (dC, dI)) hx hb hK hP 1 0 rfl rfl (kz_in4 i0_l i0_u) dX5_cut_15 ?_
  rw [show (va_up (va_up (va_up (va_up (fun _ => none) 0 (some ge5)) 1 (some ge5)) 2 (some ge5)) 3 (some ge5)) i0.toNatClampNeg = some ge5 from (kz_ix4 (P := fun z => (va_up (va_up (va_up (va_up (fun _ => none) 0 (some ge5)) 1 (some ge5)) 2 (some ge5)) 3 (some ge5)) z.toNatClampNeg = some ge5) rfl rfl rfl rfl i0_l i0_u)]
  refine W.eq (g2 := F0 m 16 ls [.ref ge5, .int 0, .int 0, .ref h0]) rfl ?_
  have hPc := hP.sub (ws' := []) [] rfl
  have hDc := hD.sub (ws' := []) [] (by decide) rfl
  have hKc := hK.sub (tys' := []) [] rfl
  have hFc := va_free (wc := []) hD hS hA [] rfl
  refine va_calli (va_runV (As := []) (rest := [.int 0, .int 0, .ref h0]) ⟨hx, hb, hml, hown, hts⟩ (kx_J0_length_8abf5_0 l dC dI ge5 gea gv5 gva gde gic gi0 H.size) (cwV 0 hts gX5_cut_J0_length_8abf5 rfl rfl rfl (by decide +kernel) ⟨Nat.le_of_ble_eq_true rfl, Nat.le_of_ble_eq_true rfl⟩) ⟨fun a U g mk q => by obtain ⟨q0, q1, qP, qK, qD, qG⟩ := q; exact ⟨q0, q1, qP, va_K.moved (u := U) (U := U.calling g mk a) (Vm.Alike.refl U.vm) qK, qD, gv.fb qG⟩, (by obtain ⟨cell, k1, k2, k3, -⟩ := g_o5.kept hS.2.1; exact ⟨cell, k1, k2, k3⟩), fun U hU hW => ⟨rfl, by rw [hU], by rw [hU]; exact hPc, va_K.moved hW.alike hKc, hDc.weaken (fun _ _ _ _ => trivial), gv.pass hW hU hS hFc hG⟩⟩ rfl rfl hl.1 rfl (lv_room (Nat.le_of_ble_eq_true rfl)) dX5_cut_16 ⟨Nat.le_of_ble_eq_true rfl, Nat.le_of_ble_eq_true rfl⟩) hS (fun q _ h => hFc q h) hFc (fun r9 u t H1 locs ht hvm hw hB hz1 hk1 hS => ?_)
  obtain rfl := hw
  obtain ⟨hP1, hK1, hD1⟩ := hB
  rw [ht] at hP1
  have hK1 := va_K.moved hvm.symm hK1
  obtain ⟨hP, hD⟩ := va_join (wr := [(h0, .inr (9, [.int 0, .ref h1, .ref z0, .ref z1, .int 0, .int 0, .int 0])), (h1, .inl (k0, 4, .inr (.inr (.inr (.inr (va_up (va_up (va_up (va_up (fun _ => none) 0 (some ge5)) 1 (some ge5)) 2 (some ge5)) 3 (some ge5)))))))]) (w1 := []) hP hD [] [0, 1] rfl rfl (by decide) (by decide) hk1 hFc hP1 hD1
  generalize H1 = H at hP hS ⊢
  have hP : va_P (dC, dI) vwCl [(h0, .inr (9, [.int 0, .ref h1, .ref z0, .ref z1, .int 0, .int 0, .int 0])), (h1, .inl (k0, 4, .inr (.inr (.inr (.inr (va_up (va_up (va_up (va_up (fun _ => none) 0 (some ge5)) 1 (some ge5)) 2 (some ge5)) 3 (some ge5)))))))] H := hP
  have hD : va_D A [(h0, .inr (9, [.int 0, .ref h1, .ref z0, .ref z1, .int 0, .int 0, .int 0])), (h1, .inl (k0, 4, .inr (.inr (.inr (.inr (va_up (va_up (va_up (va_up (fun _ => none) 0 (some ge5)) 1 (some ge5)) 2 (some ge5)) 3 (some ge5)))))))] := hD
  have hPc := hP.sub (ws' := []) [] rfl
  have hDc := hD.sub (ws' := []) [] (by decide) rfl
  have hKc := hK.sub (tys' := []) [] rfl
  have hFc := va_free (wc := []) hD hS hA [] rfl
  refine va_calli (va_runS (As := [.int 0, .int 0, .int 0]) (rest := [.ref h0]) ⟨hx, hb, hml, hown, hts⟩ (kx_X5_isIn_18 l dC dI H.size) (cwS 3 hts gX5_cut_X5_isIn rfl rfl rfl (by decide +kernel) ⟨Nat.le_of_ble_eq_true rfl, Nat.le_of_ble_eq_true rfl⟩) ⟨fun a U g mk q => by obtain ⟨q0, q1, qP, qK, qD⟩ := q; exact ⟨q0, q1, qP, va_K.moved (u := U) (U := U.calling g mk a) (Vm.Alike.refl U.vm) qK, qD⟩, fun U hU hW => ⟨rfl, by rw [hU], by rw [hU]; exact hPc, va_K.moved hW.alike hKc, hDc.weaken (fun _ _ _ _ => trivial)⟩⟩ rfl rfl hl.1 rfl (lv_room (Nat.le_of_ble_eq_true rfl)) dX5_cut_19 ⟨Nat.le_of_ble_eq_true rfl, Nat.le_of_ble_eq_true rfl⟩) hS (fun q _ h => hFc q h) hFc (fun r9 u t H1 locs ht hvm hw hB hz1 hk1 hS => ?_)
  obtain rfl := hw
  obtain ⟨hP1, hK1, hD1⟩ := hB
  rw [ht] at hP1
  have hK1 := va_K.moved hvm.symm hK1
  obtain ⟨hP, hD⟩ := va_join (wr := [(h0, .inr (9, [.int 0, .ref h1, .ref z0, .ref z1, .int 0, .int 0, .int 0])), (h1, .inl (k0, 4, .inr (.inr (.inr (.inr (va_up (va_up (va_up (va_up (fun _ => none) 0 (some ge5)) 1 (some ge5)) 2 (some ge5)) 3 (some ge5)))))))]) (w1 := []) hP hD [] [0, 1] rfl rfl (by decide) (by decide) hk1 hFc hP1 hD1
  generalize H1 = H at hP hS ⊢
  have hP : va_P (dC, dI) vwCl [(h0, .inr (9, [.int 0, .ref h1, .ref z0, .ref z1, .int 0, .int 0, .int 0])), (h1, .inl (k0, 4, .inr (.inr (.inr (.inr (va_up (va_up (va_up (va_up (fun _ => none) 0 (some ge5)) 1 (some ge5)) 2 (some ge5)) 3 (some ge5)))))))] H := hP
  have hD : va_D A [(h0, .inr (9, [.int 0, .ref h1, .ref z0, .ref z1, .int 0, .int 0, .int 0])), (h1, .inl (k0, 4, .inr (.inr (.inr (.inr (va_up (va_up (va_up (va_up (fun _ => none) 0 (some ge5)) 1 (some ge5)) 2 (some ge5)) 3 (some ge5)))))))] := hD
  refine lv_if_eq (tgt := 42) hx hb dX5_cut_22 (by decide) (fun c9 => absurd c9 (by decide)) (fun _ => ?_)
  refine lv_iload_n hx hb dX5_cut_25 rfl (lv_at hl 3 rfl) ?_
  refine lv_iconst (v := 0) hx hb dX5_cut_26 (by decide) ?_
  refine lv_aload_n hx hb dX5_cut_27 rfl (lv_at hl 0 rfl) ?_
  refine va_get (D := (dC, dI)) (ci := 9) (v := .ref h1) (C := RX5) (T := TX5) (N := 7) hx hb hts (by decide +kernel) hown hK hP 0 rfl rfl 1 (by decide) (hts (.fieldLink RX5 11 "RewriteropeModel" "ropes" "[Ljava/lang/String;") (by decide +kernel)) (fun _ h9 => h9) rfl dX5_cut_28 ?_
  refine lv_iload_n hx hb dX5_cut_31 rfl (lv_at hl 1 rfl) ?_
  refine va_aldq (D := (dC, dI)) hx hb hK hP 1 0 rfl rfl (kz_in4 i0_l i0_u) dX5_cut_32 ?_
  rw [show (va_up (va_up (va_up (va_up (fun _ => none) 0 (some ge5)) 1 (some ge5)) 2 (some ge5)) 3 (some ge5)) i0.toNatClampNeg = some ge5 from (kz_ix4 (P := fun z => (va_up (va_up (va_up (va_up (fun _ => none) 0 (some ge5)) 1 (some ge5)) 2 (some ge5)) 3 (some ge5)) z.toNatClampNeg = some ge5) rfl rfl rfl rfl i0_l i0_u)]
  refine W.eq (g2 := F0 m 33 ls [.ref ge5, .int 0, .int 0, .ref h0]) rfl ?_
  have hPc := hP.sub (ws' := []) [] rfl
  have hDc := hD.sub (ws' := []) [] (by decide) rfl
  have hKc := hK.sub (tys' := []) [] rfl
  have hFc := va_free (wc := []) hD hS hA [] rfl
  refine va_calli (va_runV (As := []) (rest := [.int 0, .int 0, .ref h0]) ⟨hx, hb, hml, hown, hts⟩ (kx_J0_length_8abf5_0 l dC dI ge5 gea gv5 gva gde gic gi0 H.size) (cwV 0 hts gX5_cut_J0_length_8abf5 rfl rfl rfl (by decide +kernel) ⟨Nat.le_of_ble_eq_true rfl, Nat.le_of_ble_eq_true rfl⟩) ⟨fun a U g mk q => by obtain ⟨q0, q1, qP, qK, qD, qG⟩ := q; exact ⟨q0, q1, qP, va_K.moved (u := U) (U := U.calling g mk a) (Vm.Alike.refl U.vm) qK, qD, gv.fb qG⟩, (by obtain ⟨cell, k1, k2, k3, -⟩ := g_o5.kept hS.2.1; exact ⟨cell, k1, k2, k3⟩), fun U hU hW => ⟨rfl, by rw [hU], by rw [hU]; exact hPc, va_K.moved hW.alike hKc, hDc.weaken (fun _ _ _ _ => trivial), gv.pass hW hU hS hFc hG⟩⟩ rfl rfl hl.1 rfl (lv_room (Nat.le_of_ble_eq_true rfl)) dX5_cut_33 ⟨Nat.le_of_ble_eq_true rfl, Nat.le_of_ble_eq_true rfl⟩) hS (fun q _ h => hFc q h) hFc (fun r9 u t H1 locs ht hvm hw hB hz1 hk1 hS => ?_)
  obtain rfl := hw
  obtain ⟨hP1, hK1, hD1⟩ := hB
  rw [ht] at hP1
  have hK1 := va_K.moved hvm.symm hK1
  obtain ⟨hP, hD⟩ := va_join (wr := [(h0, .inr (9, [.int 0, .ref h1, .ref z0, .ref z1, .int 0, .int 0, .int 0])), (h1, .inl (k0, 4, .inr (.inr (.inr (.inr (va_up (va_up (va_up (va_up (fun _ => none) 0 (some ge5)) 1 (some ge5)) 2 (some ge5)) 3 (some ge5)))))))]) (w1 := []) hP hD [] [0, 1] rfl rfl (by decide) (by decide) hk1 hFc hP1 hD1
  generalize H1 = H at hP hS ⊢
  have hP : va_P (dC, dI) vwCl [(h0, .inr (9, [.int 0, .ref h1, .ref z0, .ref z1, .int 0, .int 0, .int 0])), (h1, .inl (k0, 4, .inr (.inr (.inr (.inr (va_up (va_up (va_up (va_up (fun _ => none) 0 (some ge5)) 1 (some ge5)) 2 (some ge5)) 3 (some ge5)))))))] H := hP
  have hD : va_D A [(h0, .inr (9, [.int 0, .ref h1, .ref z0, .ref z1, .int 0, .int 0, .int 0])), (h1, .inl (k0, 4, .inr (.inr (.inr (.inr (va_up (va_up (va_up (va_up (fun _ => none) 0 (some ge5)) 1 (some ge5)) 2 (some ge5)) 3 (some ge5)))))))] := hD
  have hPc := hP.sub (ws' := []) [] rfl
  have hDc := hD.sub (ws' := []) [] (by decide) rfl
  have hKc := hK.sub (tys' := []) [] rfl
  have hFc := va_free (wc := []) hD hS hA [] rfl
  refine va_calli (va_runS (As := [.int 0, .int 0, .int 0]) (rest := [.ref h0]) ⟨hx, hb, hml, hown, hts⟩ (kx_X5_isIn_18 l dC dI H.size) (cwS 3 hts gX5_cut_X5_isIn rfl rfl rfl (by decide +kernel) ⟨Nat.le_of_ble_eq_true rfl, Nat.le_of_ble_eq_true rfl⟩) ⟨fun a U g mk q => by obtain ⟨q0, q1, qP, qK, qD⟩ := q; exact ⟨q0, q1, qP, va_K.moved (u := U) (U := U.calling g mk a) (Vm.Alike.refl U.vm) qK, qD⟩, fun U hU hW => ⟨rfl, by rw [hU], by rw [hU]; exact hPc, va_K.moved hW.alike hKc, hDc.weaken (fun _ _ _ _ => trivial)⟩⟩ rfl rfl hl.1 rfl (lv_room (Nat.le_of_ble_eq_true rfl)) dX5_cut_36 ⟨Nat.le_of_ble_eq_true rfl, Nat.le_of_ble_eq_true rfl⟩) hS (fun q _ h => hFc q h) hFc (fun r9 u t H1 locs ht hvm hw hB hz1 hk1 hS => ?_)
  obtain rfl := hw
  obtain ⟨hP1, hK1, hD1⟩ := hB
  rw [ht] at hP1
  have hK1 := va_K.moved hvm.symm hK1
  obtain ⟨hP, hD⟩ := va_join (wr := [(h0, .inr (9, [.int 0, .ref h1, .ref z0, .ref z1, .int 0, .int 0, .int 0])), (h1, .inl (k0, 4, .inr (.inr (.inr (.inr (va_up (va_up (va_up (va_up (fun _ => none) 0 (some ge5)) 1 (some ge5)) 2 (some ge5)) 3 (some ge5)))))))]) (w1 := []) hP hD [] [0, 1] rfl rfl (by decide) (by decide) hk1 hFc hP1 hD1
  generalize H1 = H at hP hS ⊢
  have hP : va_P (dC, dI) vwCl [(h0, .inr (9, [.int 0, .ref h1, .ref z0, .ref z1, .int 0, .int 0, .int 0])), (h1, .inl (k0, 4, .inr (.inr (.inr (.inr (va_up (va_up (va_up (va_up (fun _ => none) 0 (some ge5)) 1 (some ge5)) 2 (some ge5)) 3 (some ge5)))))))] H := hP
  have hD : va_D A [(h0, .inr (9, [.int 0, .ref h1, .ref z0, .ref z1, .int 0, .int 0, .int 0])), (h1, .inl (k0, 4, .inr (.inr (.inr (.inr (va_up (va_up (va_up (va_up (fun _ => none) 0 (some ge5)) 1 (some ge5)) 2 (some ge5)) 3 (some ge5)))))))] := hD
  refine lv_if_ne (tgt := 46) hx hb dX5_cut_39 (by decide) (fun _ => ?_) (fun c9 => absurd c9 (by decide))
  refine lv_iconst (v := 0) hx hb dX5_cut_46 (by decide) ?_
  refine lv_iload_n hx hb dX5_cut_47 rfl (lv_at hl 2 rfl) ?_
  refine lv_iload_n hx hb dX5_cut_48 rfl (lv_at hl 3 rfl) ?_
  refine lv_icmp_le (tgt := 56) hx hb dX5_cut_49 (by decide) (fun _ => ?_) (fun c9 => absurd (by decide) c9)
  refine lv_iconst (v := 0) hx hb dX5_cut_56 (by decide) ?_
  refine lv_iconst (v := 0) hx hb dX5_cut_57 (by decide) ?_
  have hPc := hP.sub (ws' := [(h0, .inr (9, [.int 0, .ref h1, .ref z0, .ref z1, .int 0, .int 0, .int 0]))]) [0] rfl
  have hDc := hD.sub (ws' := [(h0, .inr (9, [.int 0, .ref h1, .ref z0, .ref z1, .int 0, .int 0, .int 0]))]) [0] (by decide) rfl
  have hKc := hK.sub (tys' := []) [] rfl
  have hFc := va_free (wc := [(h0, .inr (9, [.int 0, .ref h1, .ref z0, .ref z1, .int 0, .int 0, .int 0]))]) hD hS hA [0] rfl
  refine va_calli (va_runV (As := [.int 0, .int 0, .int 0]) (rest := []) ⟨hx, hb, hml, hown, hts⟩ (kx_X5_fails_1 l dC dI h0 h1 z0 z1 H.size) (cwV 3 hts gX5_cut_X5_fails rfl rfl rfl (by decide +kernel) ⟨Nat.le_of_ble_eq_true rfl, Nat.le_of_ble_eq_true rfl⟩) ⟨fun a U g mk q => by obtain ⟨q0, q1, qP, qK, qD⟩ := q; exact ⟨q0, q1, qP, va_K.moved (u := U) (U := U.calling g mk a) (Vm.Alike.refl U.vm) qK, qD⟩, va_recv hKc hPc (ci := 9) (q0 := 0) rfl rfl, fun U hU hW => ⟨rfl, by rw [hU], by rw [hU]; exact hPc, va_K.moved hW.alike hKc, hDc.weaken (fun _ _ _ _ => trivial)⟩⟩ rfl rfl hl.1 rfl (lv_room (Nat.le_of_ble_eq_true rfl)) dX5_cut_58 ⟨Nat.le_of_ble_eq_true rfl, Nat.le_of_ble_eq_true rfl⟩) hS (fun q _ h => hFc q h) hFc (fun r9 u t H1 locs ht hvm hw hB hz1 hk1 hS => ?_)
  obtain rfl := hw
  obtain ⟨hP1, hK1, hD1⟩ := hB
  rw [ht] at hP1
  have hK1 := va_K.moved hvm.symm hK1
  obtain ⟨hP, hD⟩ := va_join (wr := [(h1, .inl (k0, 4, .inr (.inr (.inr (.inr (va_up (va_up (va_up (va_up (fun _ => none) 0 (some ge5)) 1 (some ge5)) 2 (some ge5)) 3 (some ge5)))))))]) (w1 := [(h0, .inr (9, [.int 0, .ref h1, .ref z0, .ref z1, .int 0, .int 0, .int 0]))]) hP hD [0] [1] rfl rfl (by decide) (by decide) hk1 hFc hP1 hD1
  generalize H1 = H at hP hS ⊢
  have hP : va_P (dC, dI) vwCl [(h1, .inl (k0, 4, .inr (.inr (.inr (.inr (va_up (va_up (va_up (va_up (fun _ => none) 0 (some ge5)) 1 (some ge5)) 2 (some ge5)) 3 (some ge5))))))), (h0, .inr (9, [.int 0, .ref h1, .ref z0, .ref z1, .int 0, .int 0, .int 0]))] H := hP
  have hD : va_D A [(h1, .inl (k0, 4, .inr (.inr (.inr (.inr (va_up (va_up (va_up (va_up (fun _ => none) 0 (some ge5)) 1 (some ge5)) 2 (some ge5)) 3 (some ge5))))))), (h0, .inr (9, [.int 0, .ref h1, .ref z0, .ref z1, .int 0, .int 0, .int 0]))] := hD
  refine lv_if_eq (tgt := 66) hx hb dX5_cut_61 (by decide) (fun _ => ?_) (fun c9 => absurd (by decide) c9)
  refine lv_aload_n hx hb dX5_cut_66 rfl (lv_at hl 0 rfl) ?_
  refine va_get (D := (dC, dI)) (ci := 9) (v := .ref h1) (C := RX5) (T := TX5) (N := 7) hx hb hts (by decide +kernel) hown hK hP 1 rfl rfl 1 (by decide) (hts (.fieldLink RX5 11 "RewriteropeModel" "ropes" "[Ljava/lang/String;") (by decide +kernel)) (fun _ h9 => h9) rfl dX5_cut_67 ?_
  refine lv_iload_n hx hb dX5_cut_70 rfl (lv_at hl 1 rfl) ?_
  refine lv_aload_n hx hb dX5_cut_71 rfl (lv_at hl 0 rfl) ?_
  refine va_get (D := (dC, dI)) (ci := 9) (v := .ref h1) (C := RX5) (T := TX5) (N := 7) hx hb hts (by decide +kernel) hown hK hP 1 rfl rfl 1 (by decide) (hts (.fieldLink RX5 11 "RewriteropeModel" "ropes" "[Ljava/lang/String;") (by decide +kernel)) (fun _ h9 => h9) rfl dX5_cut_72 ?_
  refine lv_iload_n hx hb dX5_cut_75 rfl (lv_at hl 1 rfl) ?_
  refine va_aldq (D := (dC, dI)) hx hb hK hP 0 0 rfl rfl (kz_in4 i0_l i0_u) dX5_cut_76 ?_
  rw [show (va_up (va_up (va_up (va_up (fun _ => none) 0 (some ge5)) 1 (some ge5)) 2 (some ge5)) 3 (some ge5)) i0.toNatClampNeg = some ge5 from (kz_ix4 (P := fun z => (va_up (va_up (va_up (va_up (fun _ => none) 0 (some ge5)) 1 (some ge5)) 2 (some ge5)) 3 (some ge5)) z.toNatClampNeg = some ge5) rfl rfl rfl rfl i0_l i0_u)]
  refine W.eq (g2 := F0 m 77 ls [.ref ge5, .int i0, .ref h1]) rfl ?_
  refine lv_iload_n hx hb dX5_cut_77 rfl (lv_at hl 2 rfl) ?_
  refine lv_iload_n hx hb dX5_cut_78 rfl (lv_at hl 3 rfl) ?_
  refine lv_iload_n hx hb dX5_cut_79 rfl (lv_at hl 2 rfl) ?_
  refine lv_isub hx hb dX5_cut_80 ?_
  refine lv_topi (fun y1 ey1 => ?_)
  obtain rfl : y1 = 0 := ey1.trans (by decide)
  refine va_ldcS hx hb hown g_s5 dX5_cut_81 ?_
  have hPc := hP.sub (ws' := []) [] rfl
  have hDc := hD.sub (ws' := []) [] (by decide) rfl
  have hKc := hK.sub (tys' := []) [] rfl
  have hFc := va_free (wc := []) hD hS hA [] rfl
  refine va_callr (va_runS (As := [.ref ge5, .int 0, .int 0, .ref ge5]) (rest := [.int i0, .ref h1]) ⟨hx, hb, hml, hown, hts⟩ (kx_X5_changed_0 l dC dI ge5 gea gv5 gva gde gic gi0 H.size) (cwS 4 hts gX5_cut_X5_changed rfl rfl rfl (by decide +kernel) ⟨Nat.le_of_ble_eq_true rfl, Nat.le_of_ble_eq_true rfl⟩) ⟨fun a U g mk q => by obtain ⟨q0, q1, qP, qK, qD, qG⟩ := q; exact ⟨q0, q1, qP, va_K.moved (u := U) (U := U.calling g mk a) (Vm.Alike.refl U.vm) qK, qD, gv.fb qG⟩, fun U hU hW => ⟨rfl, by rw [hU], by rw [hU]; exact hPc, va_K.moved hW.alike hKc, hDc.weaken (fun _ _ _ _ => trivial), gv.pass hW hU hS hFc hG⟩⟩ rfl rfl hl.1 rfl (lv_room (Nat.le_of_ble_eq_true rfl)) dX5_cut_83 ⟨Nat.le_of_ble_eq_true rfl, Nat.le_of_ble_eq_true rfl⟩) hS (fun q _ h => hFc q h) hFc (fun u ra t H1 locs ht hvm hw hB hz1 hk1 hS => ?_)
  obtain ⟨q2, q3, q4, q5, cq6, cq7, hra, hP1, hK1, hD1⟩ := hB
  rw [hra]
  rw [ht] at hP1
  have hK1 := va_K.moved hvm.symm hK1
  obtain ⟨hP, hD⟩ := va_join (wr := [(h1, .inl (k0, 4, .inr (.inr (.inr (.inr (va_up (va_up (va_up (va_up (fun _ => none) 0 (some ge5)) 1 (some ge5)) 2 (some ge5)) 3 (some ge5))))))), (h0, .inr (9, [.int 0, .ref h1, .ref z0, .ref z1, .int 0, .int 0, .int 0]))]) (w1 := [(q2, .inr (1, [.ref q3, .int 0, .int 0, .int 0])), (q3, .inl (cq6, 16, .inl (fun _ => 0))), (q4, .inr (0, [.ref q5, .int 0, .int 0, .int 0])), (q5, .inl (cq7, 0, .inl (fun _ => 0)))]) hP hD [] [0, 1] rfl rfl (by decide) (by decide) hk1 hFc hP1 hD1
  have hK := hK.app (hK1.sub (tys' := [(cq6, .byte), (cq7, .byte)]) [0, 1] rfl)
  generalize H1 = H at hP hS ⊢
  have hK : va_K (dC, dI) vwCl [(k0, .object "java/lang/String"), (cq6, .byte), (cq7, .byte)] s := hK
  have hP : va_P (dC, dI) vwCl [(h1, .inl (k0, 4, .inr (.inr (.inr (.inr (va_up (va_up (va_up (va_up (fun _ => none) 0 (some ge5)) 1 (some ge5)) 2 (some ge5)) 3 (some ge5))))))), (h0, .inr (9, [.int 0, .ref h1, .ref z0, .ref z1, .int 0, .int 0, .int 0])), (q2, .inr (1, [.ref q3, .int 0, .int 0, .int 0])), (q3, .inl (cq6, 16, .inl (fun _ => 0))), (q4, .inr (0, [.ref q5, .int 0, .int 0, .int 0])), (q5, .inl (cq7, 0, .inl (fun _ => 0)))] H := hP
  have hD : va_D A [(h1, .inl (k0, 4, .inr (.inr (.inr (.inr (va_up (va_up (va_up (va_up (fun _ => none) 0 (some ge5)) 1 (some ge5)) 2 (some ge5)) 3 (some ge5))))))), (h0, .inr (9, [.int 0, .ref h1, .ref z0, .ref z1, .int 0, .int 0, .int 0])), (q2, .inr (1, [.ref q3, .int 0, .int 0, .int 0])), (q3, .inl (cq6, 16, .inl (fun _ => 0))), (q4, .inr (0, [.ref q5, .int 0, .int 0, .int 0])), (q5, .inl (cq7, 0, .inl (fun _ => 0)))] := hD
  refine W.widen (k := 4) (n := 24) (by omega) (by omega) ?_
  refine va_astq (D := (dC, dI)) hx hb hK hP hD hS 0 0 4 0 rfl rfl rfl rfl (kz_in4 i0_l i0_u) dX5_cut_86 (fun H locs hP hD hS => ?_)
  have hP : va_P (dC, dI) vwCl [(h1, .inl (k0, 4, .inr (.inr (.inr (.inr (va_up (va_up (va_up (va_up (va_up (fun _ => none) 0 (some ge5)) 1 (some ge5)) 2 (some ge5)) 3 (some ge5)) i0.toNatClampNeg (some q4))))))), (h0, .inr (9, [.int 0, .ref h1, .ref z0, .ref z1, .int 0, .int 0, .int 0])), (q2, .inr (1, [.ref q3, .int 0, .int 0, .int 0])), (q3, .inl (cq6, 16, .inl (fun _ => 0))), (q4, .inr (0, [.ref q5, .int 0, .int 0, .int 0])), (q5, .inl (cq7, 0, .inl (fun _ => 0)))] H := hP
  have hD : va_D A [(h1, .inl (k0, 4, .inr (.inr (.inr (.inr (va_up (va_up (va_up (va_up (va_up (fun _ => none) 0 (some ge5)) 1 (some ge5)) 2 (some ge5)) 3 (some ge5)) i0.toNatClampNeg (some q4))))))), (h0, .inr (9, [.int 0, .ref h1, .ref z0, .ref z1, .int 0, .int 0, .int 0])), (q2, .inr (1, [.ref q3, .int 0, .int 0, .int 0])), (q3, .inl (cq6, 16, .inl (fun _ => 0))), (q4, .inr (0, [.ref q5, .int 0, .int 0, .int 0])), (q5, .inl (cq7, 0, .inl (fun _ => 0)))] := hD
  refine lv_aload_n hx hb dX5_cut_87 rfl (lv_at hl 0 rfl) ?_
  refine va_get (D := (dC, dI)) (ci := 9) (v := .ref h1) (C := RX5) (T := TX5) (N := 7) hx hb hts (by decide +kernel) hown hK hP 1 rfl rfl 1 (by decide) (hts (.fieldLink RX5 11 "RewriteropeModel" "ropes" "[Ljava/lang/String;") (by decide +kernel)) (fun _ h9 => h9) rfl dX5_cut_88 ?_
  refine lv_iload_n hx hb dX5_cut_91 rfl (lv_at hl 1 rfl) ?_
  refine va_aldq (D := (dC, dI)) hx hb hK hP 0 0 rfl rfl (kz_in4 i0_l i0_u) dX5_cut_92 ?_
  rw [show (va_up (va_up (va_up (va_up (va_up (fun _ => none) 0 (some ge5)) 1 (some ge5)) 2 (some ge5)) 3 (some ge5)) i0.toNatClampNeg (some q4)) i0.toNatClampNeg = some q4 from (by unfold va_up; exact if_pos rfl)]
  refine W.eq (g2 := F0 m 93 ls [.ref q4]) rfl ?_
  have hPc := hP.sub (ws' := [(q4, .inr (0, [.ref q5, .int 0, .int 0, .int 0])), (q5, .inl (cq7, 0, .inl (fun _ => 0)))]) [4, 5] rfl
  have hDc := hD.sub (ws' := [(q4, .inr (0, [.ref q5, .int 0, .int 0, .int 0])), (q5, .inl (cq7, 0, .inl (fun _ => 0)))]) [4, 5] (by decide) rfl
  have hKc := hK.sub (tys' := [(cq7, .byte)]) [2] rfl
  have hFc := va_free (wc := [(q4, .inr (0, [.ref q5, .int 0, .int 0, .int 0])), (q5, .inl (cq7, 0, .inl (fun _ => 0)))]) hD hS hA [4, 5] rfl
  refine va_calli (va_runV (As := []) (rest := []) ⟨hx, hb, hml, hown, hts⟩ (kx_J0_length_8abf5_1 l dC dI ge5 gea gv5 gva gde gic gi0 q4 q5 cq7 H.size) (cwV 0 hts gX5_cut_J0_length_8abf5 rfl rfl rfl (by decide +kernel) ⟨Nat.le_of_ble_eq_true rfl, Nat.le_of_ble_eq_true rfl⟩) ⟨fun a U g mk q => by obtain ⟨q0, q1, qP, qK, qD, qG⟩ := q; exact ⟨q0, q1, qP, va_K.moved (u := U) (U := U.calling g mk a) (Vm.Alike.refl U.vm) qK, qD, gv.fb qG⟩, va_recv hKc hPc (ci := 0) (q0 := 0) rfl rfl, fun U hU hW => ⟨rfl, by rw [hU], by rw [hU]; exact hPc, va_K.moved hW.alike hKc, hDc.weaken (fun _ _ _ _ => trivial), gv.pass hW hU hS hFc hG⟩⟩ rfl rfl hl.1 rfl (lv_room (Nat.le_of_ble_eq_true rfl)) dX5_cut_93 ⟨Nat.le_of_ble_eq_true rfl, Nat.le_of_ble_eq_true rfl⟩) hS (fun q _ h => hFc q h) hFc (fun r9 u t H1 locs ht hvm hw hB hz1 hk1 hS => ?_)
  obtain rfl := hw
  obtain ⟨hP1, hK1, hD1⟩ := hB
  rw [ht] at hP1
  have hK1 := va_K.moved hvm.symm hK1
  obtain ⟨hP, hD⟩ := va_join (wr := [(h1, .inl (k0, 4, .inr (.inr (.inr (.inr (va_up (va_up (va_up (va_up (va_up (fun _ => none) 0 (some ge5)) 1 (some ge5)) 2 (some ge5)) 3 (some ge5)) i0.toNatClampNeg (some q4))))))), (h0, .inr (9, [.int 0, .ref h1, .ref z0, .ref z1, .int 0, .int 0, .int 0])), (q2, .inr (1, [.ref q3, .int 0, .int 0, .int 0])), (q3, .inl (cq6, 16, .inl (fun _ => 0)))]) (w1 := [(q4, .inr (0, [.ref q5, .int 0, .int 0, .int 0])), (q5, .inl (cq7, 0, .inl (fun _ => 0)))]) hP hD [4, 5] [0, 1, 2, 3] rfl rfl (by decide) (by decide) hk1 hFc hP1 hD1
  generalize H1 = H at hP hS ⊢
  have hP : va_P (dC, dI) vwCl [(h1, .inl (k0, 4, .inr (.inr (.inr (.inr (va_up (va_up (va_up (va_up (va_up (fun _ => none) 0 (some ge5)) 1 (some ge5)) 2 (some ge5)) 3 (some ge5)) i0.toNatClampNeg (some q4))))))), (h0, .inr (9, [.int 0, .ref h1, .ref z0, .ref z1, .int 0, .int 0, .int 0])), (q2, .inr (1, [.ref q3, .int 0, .int 0, .int 0])), (q3, .inl (cq6, 16, .inl (fun _ => 0))), (q4, .inr (0, [.ref q5, .int 0, .int 0, .int 0])), (q5, .inl (cq7, 0, .inl (fun _ => 0)))] H := hP
  have hD : va_D A [(h1, .inl (k0, 4, .inr (.inr (.inr (.inr (va_up (va_up (va_up (va_up (va_up (fun _ => none) 0 (some ge5)) 1 (some ge5)) 2 (some ge5)) 3 (some ge5)) i0.toNatClampNeg (some q4))))))), (h0, .inr (9, [.int 0, .ref h1, .ref z0, .ref z1, .int 0, .int 0, .int 0])), (q2, .inr (1, [.ref q3, .int 0, .int 0, .int 0])), (q3, .inl (cq6, 16, .inl (fun _ => 0))), (q4, .inr (0, [.ref q5, .int 0, .int 0, .int 0])), (q5, .inl (cq7, 0, .inl (fun _ => 0)))] := hD
  have hP := hP.sub (ws' := [(h0, .inr (9, [.int 0, .ref h1, .ref z0, .ref z1, .int 0, .int 0, .int 0])), (h1, .inl (k0, 4, .inr (.inr (.inr (.inr (va_up (va_up (va_up (va_up (va_up (fun _ => none) 0 (some ge5)) 1 (some ge5)) 2 (some ge5)) 3 (some ge5)) i0.toNatClampNeg (some q4))))))), (q2, .inr (1, [.ref q3, .int 0, .int 0, .int 0])), (q3, .inl (cq6, 16, .inl (fun _ => 0))), (q4, .inr (0, [.ref q5, .int 0, .int 0, .int 0])), (q5, .inl (cq7, 0, .inl (fun _ => 0)))]) [1, 0, 2, 3, 4, 5] rfl
  have hD := hD.sub (ws' := [(h0, .inr (9, [.int 0, .ref h1, .ref z0, .ref z1, .int 0, .int 0, .int 0])), (h1, .inl (k0, 4, .inr (.inr (.inr (.inr (va_up (va_up (va_up (va_up (va_up (fun _ => none) 0 (some ge5)) 1 (some ge5)) 2 (some ge5)) 3 (some ge5)) i0.toNatClampNeg (some q4))))))), (q2, .inr (1, [.ref q3, .int 0, .int 0, .int 0])), (q3, .inl (cq6, 16, .inl (fun _ => 0))), (q4, .inr (0, [.ref q5, .int 0, .int 0, .int 0])), (q5, .inl (cq7, 0, .inl (fun _ => 0)))]) [1, 0, 2, 3, 4, 5] (by decide) rfl
  have hP := hP.sub (ws' := [(h0, .inr (9, [.int 0, .ref h1, .ref z0, .ref z1, .int 0, .int 0, .int 0]))]) [0] rfl
  have hD := hD.sub (ws' := [(h0, .inr (9, [.int 0, .ref h1, .ref z0, .ref z1, .int 0, .int 0, .int 0]))]) [0] (by decide) rfl
  exact W.iret (v := 0) hx hb hr (fun t ht hW => ⟨⟨0, (), rfl, rfl, q2, q3, q4, q5, cq6, cq7, by rw [ht]; exact hP, va_K.moved hW.alike hK, hD⟩, hS.F ht⟩) hS.2.2 dX5_cut_96
set_option maxHeartbeats 4000000 in
set_option maxRecDepth 100000 in
theorem kx_X2_turnRound_0 (l : Launch) (dC : Nat → ClassId) (dI : Nat → Nat → Nat) (h0 : Nat) (z0 : Nat) (sz : Nat) : Met l yX2_turnRound wsX2_turnRound ({ frames := 0, cells := 0, slots := 0, locals := 0 }) (va_Pc [.ref h0] (fun U => U.heap.size = sz ∧ va_P (dC, dI) vwCl [(h0, .inr (6, [.ref z0, .int 0]))] U.heap ∧ va_K (dC, dI) vwCl [] U ∧ va_D (fun _ => True) [(h0, .inr (6, [.ref z0, .int 0]))])) (va_Qv (fun _ : Unit => True) (fun (_ : Unit) (t : State) => va_P (dC, dI) vwCl [(h0, .inr (6, [.ref z0, .int 0]))] t.heap ∧ va_K (dC, dI) vwCl [] t ∧ va_D (va_A [(h0, .inr (6, [.ref z0, .int 0]))] sz) [(h0, .inr (6, [.ref z0, .int 0]))]) (va_A [(h0, .inr (6, [.ref z0, .int 0]))] sz)) 0 0 (va_A [(h0, .inr (6, [.ref z0, .int 0]))] sz) := by
  refine Met.ofW (cc := cX2_turnRound) (maxL := 4) (ret := none) (by decide) rfl ?_
  intro p e s m args below meth c s₁ B hml hv
  obtain ⟨rfl, hsz, hP, hK, hD0⟩ := hv
  have hx := B.exec
  have hb := B.bytes
  have hr := B.returns
  have hts := atoms_spec (ws := wsX2_turnRound) B.pre
  have hown : s.vm.findClass RX2 = some m.cls := findClass_of_methodNamed B.named
  have hlocks := B.notSynchronized
  subst hsz
  have hD := hD0.self (sz := s.heap.size)
  generalize hAe : va_A [(h0, .inr (6, [.ref z0, .int 0]))] s.heap.size = A at hD ⊢
  have hA : ∀ q : Nat, s.heap.size ≤ q → A q := fun q h => by rw [← hAe]; exact Or.inr h
  have hS : va_S A s.heap s.heap [] := va_S.rf
  have hP : va_P (dC, dI) vwCl [(h0, .inr (6, [.ref z0, .int 0]))] s.heap := hP
  have hl := lv_entry ([.ref h0]) (n := 4) (Nat.le_of_ble_eq_true rfl)
  rw [lg_entry_eq]
  generalize (lg_sl ([.ref h0]) ++ List.replicate (4 - (lg_sl ([.ref h0])).length) Slot.unset).toArray = ls at hl ⊢
  have hl : lv_has ls 4 [(0, .ref h0)] := hl
  refine lv_iconst (v := 0) hx hb dX2_turnRound_0 (by decide) ?_
  refine lv_istore_n (lv' := [(1, .int 0), (0, .ref h0)]) hx hb dX2_turnRound_1 rfl hl (by decide) rfl (fun ls hl => ?_)
  refine lv_aload_n hx hb dX2_turnRound_2 rfl (lv_at hl 1 rfl) ?_
  refine va_get (D := (dC, dI)) (ci := 6) (v := .int 0) (C := RX2) (T := TX2) (N := 2) hx hb hts (by decide +kernel) hown hK hP 0 rfl rfl 1 (by decide) (hts (.fieldLink RX2 15 "Rewriterope$Text" "length" "I") (by decide +kernel)) (fun _ h9 => h9) rfl dX2_turnRound_3 ?_
  refine lv_iconst (v := 1) hx hb dX2_turnRound_6 (by decide) ?_
  refine lv_isub hx hb dX2_turnRound_7 ?_
  refine lv_topi (fun y1 ey1 => ?_)
  obtain rfl : y1 = (-1) := ey1.trans (by decide)
  refine lv_istore_n (lv' := [(2, .int (-1)), (1, .int 0), (0, .ref h0)]) hx hb dX2_turnRound_8 rfl hl (by decide) rfl (fun ls hl => ?_)
  refine lv_iload_n hx hb dX2_turnRound_9 rfl (lv_at hl 1 rfl) ?_
  refine lv_iload_n hx hb dX2_turnRound_10 rfl (lv_at hl 0 rfl) ?_
  refine lv_icmp_ge (tgt := 49) hx hb dX2_turnRound_11 (by decide) (fun _ => ?_) (fun c9 => absurd (by decide) c9)
  exact W.vret hx hb hr (fun t ht hW => ⟨⟨(), rfl, trivial, by rw [ht]; exact hP, va_K.moved hW.alike hK, hD⟩, hS.F ht⟩) hS.2.2 dX2_turnRound_49
set_option maxHeartbeats 4000000 in
set_option maxRecDepth 100000 in
theorem kx_X3_turn_0 (l : Launch) (dC : Nat → ClassId) (dI : Nat → Nat → Nat) (h0 : Nat) (h1 : Nat) (h2 : Nat) (h3 : Nat) (h4 : Nat) (h5 : Nat) (z0 : Nat) (z1 : Nat) (z2 : Nat) (z3 : Nat) (z4 : Nat) (z5 : Nat) (z6 : Nat) (z7 : Nat) (z8 : Nat) (k0 : ClassId) (sz : Nat) : Met l yX3_turn wsX3_turn ({ frames := 1, cells := 0, slots := 0, locals := 23 }) (va_Pc [.ref h0, .int 0] (fun U => U.heap.size = sz ∧ va_P (dC, dI) vwCl [(h0, .inr (7, [.ref h1, .ref z0, .ref z1, .ref z2, .ref z3, .ref z4, .int 0, .int 0, .int 0])), (h1, .inl (k0, 4, .inr (.inr (.inr (.inr (va_up (va_up (va_up (va_up (fun _ => none) 0 (some h2)) 1 (some h3)) 2 (some h4)) 3 (some h5))))))), (h2, .inr (6, [.ref z5, .int 0])), (h3, .inr (6, [.ref z6, .int 0])), (h4, .inr (6, [.ref z7, .int 0])), (h5, .inr (6, [.ref z8, .int 0]))] U.heap ∧ va_K (dC, dI) vwCl [(k0, .object "Rewriterope$Text")] U ∧ va_D (fun _ => True) [(h0, .inr (7, [.ref h1, .ref z0, .ref z1, .ref z2, .ref z3, .ref z4, .int 0, .int 0, .int 0])), (h1, .inl (k0, 4, .inr (.inr (.inr (.inr (va_up (va_up (va_up (va_up (fun _ => none) 0 (some h2)) 1 (some h3)) 2 (some h4)) 3 (some h5))))))), (h2, .inr (6, [.ref z5, .int 0])), (h3, .inr (6, [.ref z6, .int 0])), (h4, .inr (6, [.ref z7, .int 0])), (h5, .inr (6, [.ref z8, .int 0]))])) (va_Qi (fun (r : Int32) (_ : Unit) => r = 0) (fun (_ : Unit) (t : State) => va_P (dC, dI) vwCl [(h0, .inr (7, [.ref h1, .ref z0, .ref z1, .ref z2, .ref z3, .ref z4, .int 0, .int 0, .int 0])), (h1, .inl (k0, 4, .inr (.inr (.inr (.inr (va_up (va_up (va_up (va_up (fun _ => none) 0 (some h2)) 1 (some h3)) 2 (some h4)) 3 (some h5))))))), (h2, .inr (6, [.ref z5, .int 0])), (h3, .inr (6, [.ref z6, .int 0])), (h4, .inr (6, [.ref z7, .int 0])), (h5, .inr (6, [.ref z8, .int 0]))] t.heap ∧ va_K (dC, dI) vwCl [(k0, .object "Rewriterope$Text")] t ∧ va_D (va_A [(h0, .inr (7, [.ref h1, .ref z0, .ref z1, .ref z2, .ref z3, .ref z4, .int 0, .int 0, .int 0])), (h1, .inl (k0, 4, .inr (.inr (.inr (.inr (va_up (va_up (va_up (va_up (fun _ => none) 0 (some h2)) 1 (some h3)) 2 (some h4)) 3 (some h5))))))), (h2, .inr (6, [.ref z5, .int 0])), (h3, .inr (6, [.ref z6, .int 0])), (h4, .inr (6, [.ref z7, .int 0])), (h5, .inr (6, [.ref z8, .int 0]))] sz) [(h0, .inr (7, [.ref h1, .ref z0, .ref z1, .ref z2, .ref z3, .ref z4, .int 0, .int 0, .int 0])), (h1, .inl (k0, 4, .inr (.inr (.inr (.inr (va_up (va_up (va_up (va_up (fun _ => none) 0 (some h2)) 1 (some h3)) 2 (some h4)) 3 (some h5))))))), (h2, .inr (6, [.ref z5, .int 0])), (h3, .inr (6, [.ref z6, .int 0])), (h4, .inr (6, [.ref z7, .int 0])), (h5, .inr (6, [.ref z8, .int 0]))]) (va_A [(h0, .inr (7, [.ref h1, .ref z0, .ref z1, .ref z2, .ref z3, .ref z4, .int 0, .int 0, .int 0])), (h1, .inl (k0, 4, .inr (.inr (.inr (.inr (va_up (va_up (va_up (va_up (fun _ => none) 0 (some h2)) 1 (some h3)) 2 (some h4)) 3 (some h5))))))), (h2, .inr (6, [.ref z5, .int 0])), (h3, .inr (6, [.ref z6, .int 0])), (h4, .inr (6, [.ref z7, .int 0])), (h5, .inr (6, [.ref z8, .int 0]))] sz)) 0 0 (va_A [(h0, .inr (7, [.ref h1, .ref z0, .ref z1, .ref z2, .ref z3, .ref z4, .int 0, .int 0, .int 0])), (h1, .inl (k0, 4, .inr (.inr (.inr (.inr (va_up (va_up (va_up (va_up (fun _ => none) 0 (some h2)) 1 (some h3)) 2 (some h4)) 3 (some h5))))))), (h2, .inr (6, [.ref z5, .int 0])), (h3, .inr (6, [.ref z6, .int 0])), (h4, .inr (6, [.ref z7, .int 0])), (h5, .inr (6, [.ref z8, .int 0]))] sz) := by
  refine Met.ofW (cc := cX3_turn) (maxL := 2) (ret := (some .int)) (by decide) rfl ?_
  intro p e s m args below meth c s₁ B hml hv
  obtain ⟨rfl, hsz, hP, hK, hD0⟩ := hv
  have hx := B.exec
  have hb := B.bytes
  have hr := B.returns
  have hts := atoms_spec (ws := wsX3_turn) B.pre
  have hown : s.vm.findClass RX3 = some m.cls := findClass_of_methodNamed B.named
  have hlocks := B.notSynchronized
  subst hsz
  have hD := hD0.self (sz := s.heap.size)
  generalize hAe : va_A [(h0, .inr (7, [.ref h1, .ref z0, .ref z1, .ref z2, .ref z3, .ref z4, .int 0, .int 0, .int 0])), (h1, .inl (k0, 4, .inr (.inr (.inr (.inr (va_up (va_up (va_up (va_up (fun _ => none) 0 (some h2)) 1 (some h3)) 2 (some h4)) 3 (some h5))))))), (h2, .inr (6, [.ref z5, .int 0])), (h3, .inr (6, [.ref z6, .int 0])), (h4, .inr (6, [.ref z7, .int 0])), (h5, .inr (6, [.ref z8, .int 0]))] s.heap.size = A at hD ⊢
  have hA : ∀ q : Nat, s.heap.size ≤ q → A q := fun q h => by rw [← hAe]; exact Or.inr h
  have hS : va_S A s.heap s.heap [] := va_S.rf
  have hP : va_P (dC, dI) vwCl [(h0, .inr (7, [.ref h1, .ref z0, .ref z1, .ref z2, .ref z3, .ref z4, .int 0, .int 0, .int 0])), (h1, .inl (k0, 4, .inr (.inr (.inr (.inr (va_up (va_up (va_up (va_up (fun _ => none) 0 (some h2)) 1 (some h3)) 2 (some h4)) 3 (some h5))))))), (h2, .inr (6, [.ref z5, .int 0])), (h3, .inr (6, [.ref z6, .int 0])), (h4, .inr (6, [.ref z7, .int 0])), (h5, .inr (6, [.ref z8, .int 0]))] s.heap := hP
  have hl := lv_entry ([.ref h0, .int 0]) (n := 2) (Nat.le_of_ble_eq_true rfl)
  rw [lg_entry_eq]
  generalize (lg_sl ([.ref h0, .int 0]) ++ List.replicate (2 - (lg_sl ([.ref h0, .int 0])).length) Slot.unset).toArray = ls at hl ⊢
  have hl : lv_has ls 2 [(0, .ref h0), (1, .int 0)] := hl
  refine lv_iload_n hx hb dX3_turn_0 rfl (lv_at hl 1 rfl) ?_
  have hPc := hP.sub (ws' := []) [] rfl
  have hDc := hD.sub (ws' := []) [] (by decide) rfl
  have hKc := hK.sub (tys' := []) [] rfl
  have hFc := va_free (wc := []) hD hS hA [] rfl
  refine va_callv (va_runS (As := [.int 0]) (rest := []) ⟨hx, hb, hml, hown, hts⟩ (kx_X3_needRope_0 l dC dI s.heap.size) (cwS 1 hts gX3_turn_X3_needRope rfl rfl rfl (by decide +kernel) ⟨Nat.le_of_ble_eq_true rfl, Nat.le_of_ble_eq_true rfl⟩) ⟨fun a U g mk q => by obtain ⟨q0, q1, qP, qK, qD⟩ := q; exact ⟨q0, q1, qP, va_K.moved (u := U) (U := U.calling g mk a) (Vm.Alike.refl U.vm) qK, qD⟩, fun U hU hW => ⟨rfl, by rw [hU], by rw [hU]; exact hPc, va_K.moved hW.alike hKc, hDc.weaken (fun _ _ _ _ => trivial)⟩⟩ rfl rfl hl.1 rfl (lv_room (Nat.le_of_ble_eq_true rfl)) dX3_turn_1 ⟨Nat.le_of_ble_eq_true rfl, Nat.le_of_ble_eq_true rfl⟩) hS (fun q _ h => hFc q h) hFc (fun u t H1 locs ht hvm hw hB hz1 hk1 hS => ?_)
  obtain ⟨hP1, hK1, hD1⟩ := hB
  rw [ht] at hP1
  have hK1 := va_K.moved hvm.symm hK1
  obtain ⟨hP, hD⟩ := va_join (wr := [(h0, .inr (7, [.ref h1, .ref z0, .ref z1, .ref z2, .ref z3, .ref z4, .int 0, .int 0, .int 0])), (h1, .inl (k0, 4, .inr (.inr (.inr (.inr (va_up (va_up (va_up (va_up (fun _ => none) 0 (some h2)) 1 (some h3)) 2 (some h4)) 3 (some h5))))))), (h2, .inr (6, [.ref z5, .int 0])), (h3, .inr (6, [.ref z6, .int 0])), (h4, .inr (6, [.ref z7, .int 0])), (h5, .inr (6, [.ref z8, .int 0]))]) (w1 := []) hP hD [] [0, 1, 2, 3, 4, 5] rfl rfl (by decide) (by decide) hk1 hFc hP1 hD1
  generalize H1 = H at hP hS ⊢
  have hP : va_P (dC, dI) vwCl [(h0, .inr (7, [.ref h1, .ref z0, .ref z1, .ref z2, .ref z3, .ref z4, .int 0, .int 0, .int 0])), (h1, .inl (k0, 4, .inr (.inr (.inr (.inr (va_up (va_up (va_up (va_up (fun _ => none) 0 (some h2)) 1 (some h3)) 2 (some h4)) 3 (some h5))))))), (h2, .inr (6, [.ref z5, .int 0])), (h3, .inr (6, [.ref z6, .int 0])), (h4, .inr (6, [.ref z7, .int 0])), (h5, .inr (6, [.ref z8, .int 0]))] H := hP
  have hD : va_D A [(h0, .inr (7, [.ref h1, .ref z0, .ref z1, .ref z2, .ref z3, .ref z4, .int 0, .int 0, .int 0])), (h1, .inl (k0, 4, .inr (.inr (.inr (.inr (va_up (va_up (va_up (va_up (fun _ => none) 0 (some h2)) 1 (some h3)) 2 (some h4)) 3 (some h5))))))), (h2, .inr (6, [.ref z5, .int 0])), (h3, .inr (6, [.ref z6, .int 0])), (h4, .inr (6, [.ref z7, .int 0])), (h5, .inr (6, [.ref z8, .int 0]))] := hD
  refine lv_aload_n hx hb dX3_turn_4 rfl (lv_at hl 0 rfl) ?_
  refine va_get (D := (dC, dI)) (ci := 7) (v := .ref h1) (C := RX3) (T := TX3) (N := 9) hx hb hts (by decide +kernel) hown hK hP 0 rfl rfl 0 (by decide) (hts (.fieldLink RX3 11 "Rewriterope" "ropes" "[LRewriterope$Text;") (by decide +kernel)) (fun _ h9 => h9) rfl dX3_turn_5 ?_
  refine lv_iload_n hx hb dX3_turn_8 rfl (lv_at hl 1 rfl) ?_
  refine va_aldq (D := (dC, dI)) hx hb hK hP 1 0 rfl rfl (by unfold vp_in; decide) dX3_turn_9 ?_
  refine W.eq (g2 := F0 m 10 ls [.ref h2]) rfl ?_
  have hPc := hP.sub (ws' := [(h2, .inr (6, [.ref z5, .int 0]))]) [2] rfl
  have hDc := hD.sub (ws' := [(h2, .inr (6, [.ref z5, .int 0]))]) [2] (by decide) rfl
  have hKc := hK.sub (tys' := []) [] rfl
  have hFc := va_free (wc := [(h2, .inr (6, [.ref z5, .int 0]))]) hD hS hA [2] rfl
  refine va_callv (va_runV (As := []) (rest := []) ⟨hx, hb, hml, hown, hts⟩ (kx_X2_turnRound_0 l dC dI h2 z5 H.size) (cwV 0 hts gX3_turn_X2_turnRound rfl rfl rfl (by decide +kernel) ⟨Nat.le_of_ble_eq_true rfl, Nat.le_of_ble_eq_true rfl⟩) ⟨fun a U g mk q => by obtain ⟨q0, q1, qP, qK, qD⟩ := q; exact ⟨q0, q1, qP, va_K.moved (u := U) (U := U.calling g mk a) (Vm.Alike.refl U.vm) qK, qD⟩, va_recv hKc hPc (ci := 6) (q0 := 0) rfl rfl, fun U hU hW => ⟨rfl, by rw [hU], by rw [hU]; exact hPc, va_K.moved hW.alike hKc, hDc.weaken (fun _ _ _ _ => trivial)⟩⟩ rfl rfl hl.1 rfl (lv_room (Nat.le_of_ble_eq_true rfl)) dX3_turn_10 ⟨Nat.le_of_ble_eq_true rfl, Nat.le_of_ble_eq_true rfl⟩) hS (fun q _ h => hFc q h) hFc (fun u t H1 locs ht hvm hw hB hz1 hk1 hS => ?_)
  obtain ⟨hP1, hK1, hD1⟩ := hB
  rw [ht] at hP1
  have hK1 := va_K.moved hvm.symm hK1
  obtain ⟨hP, hD⟩ := va_join (wr := [(h0, .inr (7, [.ref h1, .ref z0, .ref z1, .ref z2, .ref z3, .ref z4, .int 0, .int 0, .int 0])), (h1, .inl (k0, 4, .inr (.inr (.inr (.inr (va_up (va_up (va_up (va_up (fun _ => none) 0 (some h2)) 1 (some h3)) 2 (some h4)) 3 (some h5))))))), (h3, .inr (6, [.ref z6, .int 0])), (h4, .inr (6, [.ref z7, .int 0])), (h5, .inr (6, [.ref z8, .int 0]))]) (w1 := [(h2, .inr (6, [.ref z5, .int 0]))]) hP hD [2] [0, 1, 3, 4, 5] rfl rfl (by decide) (by decide) hk1 hFc hP1 hD1
  generalize H1 = H at hP hS ⊢
  have hP : va_P (dC, dI) vwCl [(h0, .inr (7, [.ref h1, .ref z0, .ref z1, .ref z2, .ref z3, .ref z4, .int 0, .int 0, .int 0])), (h1, .inl (k0, 4, .inr (.inr (.inr (.inr (va_up (va_up (va_up (va_up (fun _ => none) 0 (some h2)) 1 (some h3)) 2 (some h4)) 3 (some h5))))))), (h3, .inr (6, [.ref z6, .int 0])), (h4, .inr (6, [.ref z7, .int 0])), (h5, .inr (6, [.ref z8, .int 0])), (h2, .inr (6, [.ref z5, .int 0]))] H := hP
  have hD : va_D A [(h0, .inr (7, [.ref h1, .ref z0, .ref z1, .ref z2, .ref z3, .ref z4, .int 0, .int 0, .int 0])), (h1, .inl (k0, 4, .inr (.inr (.inr (.inr (va_up (va_up (va_up (va_up (fun _ => none) 0 (some h2)) 1 (some h3)) 2 (some h4)) 3 (some h5))))))), (h3, .inr (6, [.ref z6, .int 0])), (h4, .inr (6, [.ref z7, .int 0])), (h5, .inr (6, [.ref z8, .int 0])), (h2, .inr (6, [.ref z5, .int 0]))] := hD
  refine lv_aload_n hx hb dX3_turn_13 rfl (lv_at hl 0 rfl) ?_
  refine va_get (D := (dC, dI)) (ci := 7) (v := .ref h1) (C := RX3) (T := TX3) (N := 9) hx hb hts (by decide +kernel) hown hK hP 0 rfl rfl 0 (by decide) (hts (.fieldLink RX3 11 "Rewriterope" "ropes" "[LRewriterope$Text;") (by decide +kernel)) (fun _ h9 => h9) rfl dX3_turn_14 ?_
  refine lv_iload_n hx hb dX3_turn_17 rfl (lv_at hl 1 rfl) ?_
  refine va_aldq (D := (dC, dI)) hx hb hK hP 1 0 rfl rfl (by unfold vp_in; decide) dX3_turn_18 ?_
  refine W.eq (g2 := F0 m 19 ls [.ref h2]) rfl ?_
  refine va_get (D := (dC, dI)) (ci := 6) (v := .int 0) (C := RX2) (T := TX2) (N := 2) hx hb hts (by decide +kernel) hown hK hP 5 rfl rfl 1 (by decide) (hts (.fieldLink RX3 65 "Rewriterope$Text" "length" "I") (by decide +kernel)) (fun _ h9 => h9) rfl dX3_turn_19 ?_
  have hP := hP.sub (ws' := [(h0, .inr (7, [.ref h1, .ref z0, .ref z1, .ref z2, .ref z3, .ref z4, .int 0, .int 0, .int 0])), (h1, .inl (k0, 4, .inr (.inr (.inr (.inr (va_up (va_up (va_up (va_up (fun _ => none) 0 (some h2)) 1 (some h3)) 2 (some h4)) 3 (some h5))))))), (h2, .inr (6, [.ref z5, .int 0])), (h3, .inr (6, [.ref z6, .int 0])), (h4, .inr (6, [.ref z7, .int 0])), (h5, .inr (6, [.ref z8, .int 0]))]) [0, 1, 5, 2, 3, 4] rfl
  have hD := hD.sub (ws' := [(h0, .inr (7, [.ref h1, .ref z0, .ref z1, .ref z2, .ref z3, .ref z4, .int 0, .int 0, .int 0])), (h1, .inl (k0, 4, .inr (.inr (.inr (.inr (va_up (va_up (va_up (va_up (fun _ => none) 0 (some h2)) 1 (some h3)) 2 (some h4)) 3 (some h5))))))), (h2, .inr (6, [.ref z5, .int 0])), (h3, .inr (6, [.ref z6, .int 0])), (h4, .inr (6, [.ref z7, .int 0])), (h5, .inr (6, [.ref z8, .int 0]))]) [0, 1, 5, 2, 3, 4] (by decide) rfl
  exact W.iret (v := 0) hx hb hr (fun t ht hW => ⟨⟨0, (), rfl, rfl, by rw [ht]; exact hP, va_K.moved hW.alike hK, hD⟩, hS.F ht⟩) hS.2.2 dX3_turn_22
set_option maxHeartbeats 4000000 in
set_option maxRecDepth 100000 in
theorem kx_X3_turn_1 (l : Launch) (dC : Nat → ClassId) (dI : Nat → Nat → Nat) (h0 : Nat) (h1 : Nat) (h2 : Nat) (h3 : Nat) (h4 : Nat) (h5 : Nat) (z0 : Nat) (z1 : Nat) (z2 : Nat) (z3 : Nat) (z4 : Nat) (z5 : Nat) (z6 : Nat) (z7 : Nat) (z8 : Nat) (k0 : ClassId) (sz : Nat) : Met l yX3_turn wsX3_turn ({ frames := 1, cells := 0, slots := 0, locals := 23 }) (va_Pc [.ref h0, .int 1] (fun U => U.heap.size = sz ∧ va_P (dC, dI) vwCl [(h0, .inr (7, [.ref h1, .ref z0, .ref z1, .ref z2, .ref z3, .ref z4, .int 0, .int 0, .int 0])), (h1, .inl (k0, 4, .inr (.inr (.inr (.inr (va_up (va_up (va_up (va_up (fun _ => none) 0 (some h2)) 1 (some h3)) 2 (some h4)) 3 (some h5))))))), (h2, .inr (6, [.ref z5, .int 0])), (h3, .inr (6, [.ref z6, .int 0])), (h4, .inr (6, [.ref z7, .int 0])), (h5, .inr (6, [.ref z8, .int 0]))] U.heap ∧ va_K (dC, dI) vwCl [(k0, .object "Rewriterope$Text")] U ∧ va_D (fun _ => True) [(h0, .inr (7, [.ref h1, .ref z0, .ref z1, .ref z2, .ref z3, .ref z4, .int 0, .int 0, .int 0])), (h1, .inl (k0, 4, .inr (.inr (.inr (.inr (va_up (va_up (va_up (va_up (fun _ => none) 0 (some h2)) 1 (some h3)) 2 (some h4)) 3 (some h5))))))), (h2, .inr (6, [.ref z5, .int 0])), (h3, .inr (6, [.ref z6, .int 0])), (h4, .inr (6, [.ref z7, .int 0])), (h5, .inr (6, [.ref z8, .int 0]))])) (va_Qi (fun (r : Int32) (_ : Unit) => r = 0) (fun (_ : Unit) (t : State) => va_P (dC, dI) vwCl [(h0, .inr (7, [.ref h1, .ref z0, .ref z1, .ref z2, .ref z3, .ref z4, .int 0, .int 0, .int 0])), (h1, .inl (k0, 4, .inr (.inr (.inr (.inr (va_up (va_up (va_up (va_up (fun _ => none) 0 (some h2)) 1 (some h3)) 2 (some h4)) 3 (some h5))))))), (h2, .inr (6, [.ref z5, .int 0])), (h3, .inr (6, [.ref z6, .int 0])), (h4, .inr (6, [.ref z7, .int 0])), (h5, .inr (6, [.ref z8, .int 0]))] t.heap ∧ va_K (dC, dI) vwCl [(k0, .object "Rewriterope$Text")] t ∧ va_D (va_A [(h0, .inr (7, [.ref h1, .ref z0, .ref z1, .ref z2, .ref z3, .ref z4, .int 0, .int 0, .int 0])), (h1, .inl (k0, 4, .inr (.inr (.inr (.inr (va_up (va_up (va_up (va_up (fun _ => none) 0 (some h2)) 1 (some h3)) 2 (some h4)) 3 (some h5))))))), (h2, .inr (6, [.ref z5, .int 0])), (h3, .inr (6, [.ref z6, .int 0])), (h4, .inr (6, [.ref z7, .int 0])), (h5, .inr (6, [.ref z8, .int 0]))] sz) [(h0, .inr (7, [.ref h1, .ref z0, .ref z1, .ref z2, .ref z3, .ref z4, .int 0, .int 0, .int 0])), (h1, .inl (k0, 4, .inr (.inr (.inr (.inr (va_up (va_up (va_up (va_up (fun _ => none) 0 (some h2)) 1 (some h3)) 2 (some h4)) 3 (some h5))))))), (h2, .inr (6, [.ref z5, .int 0])), (h3, .inr (6, [.ref z6, .int 0])), (h4, .inr (6, [.ref z7, .int 0])), (h5, .inr (6, [.ref z8, .int 0]))]) (va_A [(h0, .inr (7, [.ref h1, .ref z0, .ref z1, .ref z2, .ref z3, .ref z4, .int 0, .int 0, .int 0])), (h1, .inl (k0, 4, .inr (.inr (.inr (.inr (va_up (va_up (va_up (va_up (fun _ => none) 0 (some h2)) 1 (some h3)) 2 (some h4)) 3 (some h5))))))), (h2, .inr (6, [.ref z5, .int 0])), (h3, .inr (6, [.ref z6, .int 0])), (h4, .inr (6, [.ref z7, .int 0])), (h5, .inr (6, [.ref z8, .int 0]))] sz)) 0 0 (va_A [(h0, .inr (7, [.ref h1, .ref z0, .ref z1, .ref z2, .ref z3, .ref z4, .int 0, .int 0, .int 0])), (h1, .inl (k0, 4, .inr (.inr (.inr (.inr (va_up (va_up (va_up (va_up (fun _ => none) 0 (some h2)) 1 (some h3)) 2 (some h4)) 3 (some h5))))))), (h2, .inr (6, [.ref z5, .int 0])), (h3, .inr (6, [.ref z6, .int 0])), (h4, .inr (6, [.ref z7, .int 0])), (h5, .inr (6, [.ref z8, .int 0]))] sz) := by
  refine Met.ofW (cc := cX3_turn) (maxL := 2) (ret := (some .int)) (by decide) rfl ?_
  intro p e s m args below meth c s₁ B hml hv
  obtain ⟨rfl, hsz, hP, hK, hD0⟩ := hv
  have hx := B.exec
  have hb := B.bytes
  have hr := B.returns
  have hts := atoms_spec (ws := wsX3_turn) B.pre
  have hown : s.vm.findClass RX3 = some m.cls := findClass_of_methodNamed B.named
  have hlocks := B.notSynchronized
  subst hsz
  have hD := hD0.self (sz := s.heap.size)
  generalize hAe : va_A [(h0, .inr (7, [.ref h1, .ref z0, .ref z1, .ref z2, .ref z3, .ref z4, .int 0, .int 0, .int 0])), (h1, .inl (k0, 4, .inr (.inr (.inr (.inr (va_up (va_up (va_up (va_up (fun _ => none) 0 (some h2)) 1 (some h3)) 2 (some h4)) 3 (some h5))))))), (h2, .inr (6, [.ref z5, .int 0])), (h3, .inr (6, [.ref z6, .int 0])), (h4, .inr (6, [.ref z7, .int 0])), (h5, .inr (6, [.ref z8, .int 0]))] s.heap.size = A at hD ⊢
  have hA : ∀ q : Nat, s.heap.size ≤ q → A q := fun q h => by rw [← hAe]; exact Or.inr h
  have hS : va_S A s.heap s.heap [] := va_S.rf
  have hP : va_P (dC, dI) vwCl [(h0, .inr (7, [.ref h1, .ref z0, .ref z1, .ref z2, .ref z3, .ref z4, .int 0, .int 0, .int 0])), (h1, .inl (k0, 4, .inr (.inr (.inr (.inr (va_up (va_up (va_up (va_up (fun _ => none) 0 (some h2)) 1 (some h3)) 2 (some h4)) 3 (some h5))))))), (h2, .inr (6, [.ref z5, .int 0])), (h3, .inr (6, [.ref z6, .int 0])), (h4, .inr (6, [.ref z7, .int 0])), (h5, .inr (6, [.ref z8, .int 0]))] s.heap := hP
  have hl := lv_entry ([.ref h0, .int 1]) (n := 2) (Nat.le_of_ble_eq_true rfl)
  rw [lg_entry_eq]
  generalize (lg_sl ([.ref h0, .int 1]) ++ List.replicate (2 - (lg_sl ([.ref h0, .int 1])).length) Slot.unset).toArray = ls at hl ⊢
  have hl : lv_has ls 2 [(0, .ref h0), (1, .int 1)] := hl
  refine lv_iload_n hx hb dX3_turn_0 rfl (lv_at hl 1 rfl) ?_
  have hPc := hP.sub (ws' := []) [] rfl
  have hDc := hD.sub (ws' := []) [] (by decide) rfl
  have hKc := hK.sub (tys' := []) [] rfl
  have hFc := va_free (wc := []) hD hS hA [] rfl
  refine va_callv (va_runS (As := [.int 1]) (rest := []) ⟨hx, hb, hml, hown, hts⟩ (kx_X3_needRope_1 l dC dI s.heap.size) (cwS 1 hts gX3_turn_X3_needRope rfl rfl rfl (by decide +kernel) ⟨Nat.le_of_ble_eq_true rfl, Nat.le_of_ble_eq_true rfl⟩) ⟨fun a U g mk q => by obtain ⟨q0, q1, qP, qK, qD⟩ := q; exact ⟨q0, q1, qP, va_K.moved (u := U) (U := U.calling g mk a) (Vm.Alike.refl U.vm) qK, qD⟩, fun U hU hW => ⟨rfl, by rw [hU], by rw [hU]; exact hPc, va_K.moved hW.alike hKc, hDc.weaken (fun _ _ _ _ => trivial)⟩⟩ rfl rfl hl.1 rfl (lv_room (Nat.le_of_ble_eq_true rfl)) dX3_turn_1 ⟨Nat.le_of_ble_eq_true rfl, Nat.le_of_ble_eq_true rfl⟩) hS (fun q _ h => hFc q h) hFc (fun u t H1 locs ht hvm hw hB hz1 hk1 hS => ?_)
  obtain ⟨hP1, hK1, hD1⟩ := hB
  rw [ht] at hP1
  have hK1 := va_K.moved hvm.symm hK1
  obtain ⟨hP, hD⟩ := va_join (wr := [(h0, .inr (7, [.ref h1, .ref z0, .ref z1, .ref z2, .ref z3, .ref z4, .int 0, .int 0, .int 0])), (h1, .inl (k0, 4, .inr (.inr (.inr (.inr (va_up (va_up (va_up (va_up (fun _ => none) 0 (some h2)) 1 (some h3)) 2 (some h4)) 3 (some h5))))))), (h2, .inr (6, [.ref z5, .int 0])), (h3, .inr (6, [.ref z6, .int 0])), (h4, .inr (6, [.ref z7, .int 0])), (h5, .inr (6, [.ref z8, .int 0]))]) (w1 := []) hP hD [] [0, 1, 2, 3, 4, 5] rfl rfl (by decide) (by decide) hk1 hFc hP1 hD1
  generalize H1 = H at hP hS ⊢
  have hP : va_P (dC, dI) vwCl [(h0, .inr (7, [.ref h1, .ref z0, .ref z1, .ref z2, .ref z3, .ref z4, .int 0, .int 0, .int 0])), (h1, .inl (k0, 4, .inr (.inr (.inr (.inr (va_up (va_up (va_up (va_up (fun _ => none) 0 (some h2)) 1 (some h3)) 2 (some h4)) 3 (some h5))))))), (h2, .inr (6, [.ref z5, .int 0])), (h3, .inr (6, [.ref z6, .int 0])), (h4, .inr (6, [.ref z7, .int 0])), (h5, .inr (6, [.ref z8, .int 0]))] H := hP
  have hD : va_D A [(h0, .inr (7, [.ref h1, .ref z0, .ref z1, .ref z2, .ref z3, .ref z4, .int 0, .int 0, .int 0])), (h1, .inl (k0, 4, .inr (.inr (.inr (.inr (va_up (va_up (va_up (va_up (fun _ => none) 0 (some h2)) 1 (some h3)) 2 (some h4)) 3 (some h5))))))), (h2, .inr (6, [.ref z5, .int 0])), (h3, .inr (6, [.ref z6, .int 0])), (h4, .inr (6, [.ref z7, .int 0])), (h5, .inr (6, [.ref z8, .int 0]))] := hD
  refine lv_aload_n hx hb dX3_turn_4 rfl (lv_at hl 0 rfl) ?_
  refine va_get (D := (dC, dI)) (ci := 7) (v := .ref h1) (C := RX3) (T := TX3) (N := 9) hx hb hts (by decide +kernel) hown hK hP 0 rfl rfl 0 (by decide) (hts (.fieldLink RX3 11 "Rewriterope" "ropes" "[LRewriterope$Text;") (by decide +kernel)) (fun _ h9 => h9) rfl dX3_turn_5 ?_
  refine lv_iload_n hx hb dX3_turn_8 rfl (lv_at hl 1 rfl) ?_
  refine va_aldq (D := (dC, dI)) hx hb hK hP 1 0 rfl rfl (by unfold vp_in; decide) dX3_turn_9 ?_
  refine W.eq (g2 := F0 m 10 ls [.ref h3]) rfl ?_
  have hPc := hP.sub (ws' := [(h3, .inr (6, [.ref z6, .int 0]))]) [3] rfl
  have hDc := hD.sub (ws' := [(h3, .inr (6, [.ref z6, .int 0]))]) [3] (by decide) rfl
  have hKc := hK.sub (tys' := []) [] rfl
  have hFc := va_free (wc := [(h3, .inr (6, [.ref z6, .int 0]))]) hD hS hA [3] rfl
  refine va_callv (va_runV (As := []) (rest := []) ⟨hx, hb, hml, hown, hts⟩ (kx_X2_turnRound_0 l dC dI h3 z6 H.size) (cwV 0 hts gX3_turn_X2_turnRound rfl rfl rfl (by decide +kernel) ⟨Nat.le_of_ble_eq_true rfl, Nat.le_of_ble_eq_true rfl⟩) ⟨fun a U g mk q => by obtain ⟨q0, q1, qP, qK, qD⟩ := q; exact ⟨q0, q1, qP, va_K.moved (u := U) (U := U.calling g mk a) (Vm.Alike.refl U.vm) qK, qD⟩, va_recv hKc hPc (ci := 6) (q0 := 0) rfl rfl, fun U hU hW => ⟨rfl, by rw [hU], by rw [hU]; exact hPc, va_K.moved hW.alike hKc, hDc.weaken (fun _ _ _ _ => trivial)⟩⟩ rfl rfl hl.1 rfl (lv_room (Nat.le_of_ble_eq_true rfl)) dX3_turn_10 ⟨Nat.le_of_ble_eq_true rfl, Nat.le_of_ble_eq_true rfl⟩) hS (fun q _ h => hFc q h) hFc (fun u t H1 locs ht hvm hw hB hz1 hk1 hS => ?_)
  obtain ⟨hP1, hK1, hD1⟩ := hB
  rw [ht] at hP1
  have hK1 := va_K.moved hvm.symm hK1
  obtain ⟨hP, hD⟩ := va_join (wr := [(h0, .inr (7, [.ref h1, .ref z0, .ref z1, .ref z2, .ref z3, .ref z4, .int 0, .int 0, .int 0])), (h1, .inl (k0, 4, .inr (.inr (.inr (.inr (va_up (va_up (va_up (va_up (fun _ => none) 0 (some h2)) 1 (some h3)) 2 (some h4)) 3 (some h5))))))), (h2, .inr (6, [.ref z5, .int 0])), (h4, .inr (6, [.ref z7, .int 0])), (h5, .inr (6, [.ref z8, .int 0]))]) (w1 := [(h3, .inr (6, [.ref z6, .int 0]))]) hP hD [3] [0, 1, 2, 4, 5] rfl rfl (by decide) (by decide) hk1 hFc hP1 hD1
  generalize H1 = H at hP hS ⊢
  have hP : va_P (dC, dI) vwCl [(h0, .inr (7, [.ref h1, .ref z0, .ref z1, .ref z2, .ref z3, .ref z4, .int 0, .int 0, .int 0])), (h1, .inl (k0, 4, .inr (.inr (.inr (.inr (va_up (va_up (va_up (va_up (fun _ => none) 0 (some h2)) 1 (some h3)) 2 (some h4)) 3 (some h5))))))), (h2, .inr (6, [.ref z5, .int 0])), (h4, .inr (6, [.ref z7, .int 0])), (h5, .inr (6, [.ref z8, .int 0])), (h3, .inr (6, [.ref z6, .int 0]))] H := hP
  have hD : va_D A [(h0, .inr (7, [.ref h1, .ref z0, .ref z1, .ref z2, .ref z3, .ref z4, .int 0, .int 0, .int 0])), (h1, .inl (k0, 4, .inr (.inr (.inr (.inr (va_up (va_up (va_up (va_up (fun _ => none) 0 (some h2)) 1 (some h3)) 2 (some h4)) 3 (some h5))))))), (h2, .inr (6, [.ref z5, .int 0])), (h4, .inr (6, [.ref z7, .int 0])), (h5, .inr (6, [.ref z8, .int 0])), (h3, .inr (6, [.ref z6, .int 0]))] := hD
  refine lv_aload_n hx hb dX3_turn_13 rfl (lv_at hl 0 rfl) ?_
  refine va_get (D := (dC, dI)) (ci := 7) (v := .ref h1) (C := RX3) (T := TX3) (N := 9) hx hb hts (by decide +kernel) hown hK hP 0 rfl rfl 0 (by decide) (hts (.fieldLink RX3 11 "Rewriterope" "ropes" "[LRewriterope$Text;") (by decide +kernel)) (fun _ h9 => h9) rfl dX3_turn_14 ?_
  refine lv_iload_n hx hb dX3_turn_17 rfl (lv_at hl 1 rfl) ?_
  refine va_aldq (D := (dC, dI)) hx hb hK hP 1 0 rfl rfl (by unfold vp_in; decide) dX3_turn_18 ?_
  refine W.eq (g2 := F0 m 19 ls [.ref h3]) rfl ?_
  refine va_get (D := (dC, dI)) (ci := 6) (v := .int 0) (C := RX2) (T := TX2) (N := 2) hx hb hts (by decide +kernel) hown hK hP 5 rfl rfl 1 (by decide) (hts (.fieldLink RX3 65 "Rewriterope$Text" "length" "I") (by decide +kernel)) (fun _ h9 => h9) rfl dX3_turn_19 ?_
  have hP := hP.sub (ws' := [(h0, .inr (7, [.ref h1, .ref z0, .ref z1, .ref z2, .ref z3, .ref z4, .int 0, .int 0, .int 0])), (h1, .inl (k0, 4, .inr (.inr (.inr (.inr (va_up (va_up (va_up (va_up (fun _ => none) 0 (some h2)) 1 (some h3)) 2 (some h4)) 3 (some h5))))))), (h2, .inr (6, [.ref z5, .int 0])), (h3, .inr (6, [.ref z6, .int 0])), (h4, .inr (6, [.ref z7, .int 0])), (h5, .inr (6, [.ref z8, .int 0]))]) [0, 1, 2, 5, 3, 4] rfl
  have hD := hD.sub (ws' := [(h0, .inr (7, [.ref h1, .ref z0, .ref z1, .ref z2, .ref z3, .ref z4, .int 0, .int 0, .int 0])), (h1, .inl (k0, 4, .inr (.inr (.inr (.inr (va_up (va_up (va_up (va_up (fun _ => none) 0 (some h2)) 1 (some h3)) 2 (some h4)) 3 (some h5))))))), (h2, .inr (6, [.ref z5, .int 0])), (h3, .inr (6, [.ref z6, .int 0])), (h4, .inr (6, [.ref z7, .int 0])), (h5, .inr (6, [.ref z8, .int 0]))]) [0, 1, 2, 5, 3, 4] (by decide) rfl
  exact W.iret (v := 0) hx hb hr (fun t ht hW => ⟨⟨0, (), rfl, rfl, by rw [ht]; exact hP, va_K.moved hW.alike hK, hD⟩, hS.F ht⟩) hS.2.2 dX3_turn_22
set_option maxHeartbeats 4000000 in
set_option maxRecDepth 100000 in
theorem kx_X3_turn_2 (l : Launch) (dC : Nat → ClassId) (dI : Nat → Nat → Nat) (h0 : Nat) (h1 : Nat) (h2 : Nat) (h3 : Nat) (h4 : Nat) (h5 : Nat) (z0 : Nat) (z1 : Nat) (z2 : Nat) (z3 : Nat) (z4 : Nat) (z5 : Nat) (z6 : Nat) (z7 : Nat) (z8 : Nat) (k0 : ClassId) (sz : Nat) : Met l yX3_turn wsX3_turn ({ frames := 1, cells := 0, slots := 0, locals := 23 }) (va_Pc [.ref h0, .int 2] (fun U => U.heap.size = sz ∧ va_P (dC, dI) vwCl [(h0, .inr (7, [.ref h1, .ref z0, .ref z1, .ref z2, .ref z3, .ref z4, .int 0, .int 0, .int 0])), (h1, .inl (k0, 4, .inr (.inr (.inr (.inr (va_up (va_up (va_up (va_up (fun _ => none) 0 (some h2)) 1 (some h3)) 2 (some h4)) 3 (some h5))))))), (h2, .inr (6, [.ref z5, .int 0])), (h3, .inr (6, [.ref z6, .int 0])), (h4, .inr (6, [.ref z7, .int 0])), (h5, .inr (6, [.ref z8, .int 0]))] U.heap ∧ va_K (dC, dI) vwCl [(k0, .object "Rewriterope$Text")] U ∧ va_D (fun _ => True) [(h0, .inr (7, [.ref h1, .ref z0, .ref z1, .ref z2, .ref z3, .ref z4, .int 0, .int 0, .int 0])), (h1, .inl (k0, 4, .inr (.inr (.inr (.inr (va_up (va_up (va_up (va_up (fun _ => none) 0 (some h2)) 1 (some h3)) 2 (some h4)) 3 (some h5))))))), (h2, .inr (6, [.ref z5, .int 0])), (h3, .inr (6, [.ref z6, .int 0])), (h4, .inr (6, [.ref z7, .int 0])), (h5, .inr (6, [.ref z8, .int 0]))])) (va_Qi (fun (r : Int32) (_ : Unit) => r = 0) (fun (_ : Unit) (t : State) => va_P (dC, dI) vwCl [(h0, .inr (7, [.ref h1, .ref z0, .ref z1, .ref z2, .ref z3, .ref z4, .int 0, .int 0, .int 0])), (h1, .inl (k0, 4, .inr (.inr (.inr (.inr (va_up (va_up (va_up (va_up (fun _ => none) 0 (some h2)) 1 (some h3)) 2 (some h4)) 3 (some h5))))))), (h2, .inr (6, [.ref z5, .int 0])), (h3, .inr (6, [.ref z6, .int 0])), (h4, .inr (6, [.ref z7, .int 0])), (h5, .inr (6, [.ref z8, .int 0]))] t.heap ∧ va_K (dC, dI) vwCl [(k0, .object "Rewriterope$Text")] t ∧ va_D (va_A [(h0, .inr (7, [.ref h1, .ref z0, .ref z1, .ref z2, .ref z3, .ref z4, .int 0, .int 0, .int 0])), (h1, .inl (k0, 4, .inr (.inr (.inr (.inr (va_up (va_up (va_up (va_up (fun _ => none) 0 (some h2)) 1 (some h3)) 2 (some h4)) 3 (some h5))))))), (h2, .inr (6, [.ref z5, .int 0])), (h3, .inr (6, [.ref z6, .int 0])), (h4, .inr (6, [.ref z7, .int 0])), (h5, .inr (6, [.ref z8, .int 0]))] sz) [(h0, .inr (7, [.ref h1, .ref z0, .ref z1, .ref z2, .ref z3, .ref z4, .int 0, .int 0, .int 0])), (h1, .inl (k0, 4, .inr (.inr (.inr (.inr (va_up (va_up (va_up (va_up (fun _ => none) 0 (some h2)) 1 (some h3)) 2 (some h4)) 3 (some h5))))))), (h2, .inr (6, [.ref z5, .int 0])), (h3, .inr (6, [.ref z6, .int 0])), (h4, .inr (6, [.ref z7, .int 0])), (h5, .inr (6, [.ref z8, .int 0]))]) (va_A [(h0, .inr (7, [.ref h1, .ref z0, .ref z1, .ref z2, .ref z3, .ref z4, .int 0, .int 0, .int 0])), (h1, .inl (k0, 4, .inr (.inr (.inr (.inr (va_up (va_up (va_up (va_up (fun _ => none) 0 (some h2)) 1 (some h3)) 2 (some h4)) 3 (some h5))))))), (h2, .inr (6, [.ref z5, .int 0])), (h3, .inr (6, [.ref z6, .int 0])), (h4, .inr (6, [.ref z7, .int 0])), (h5, .inr (6, [.ref z8, .int 0]))] sz)) 0 0 (va_A [(h0, .inr (7, [.ref h1, .ref z0, .ref z1, .ref z2, .ref z3, .ref z4, .int 0, .int 0, .int 0])), (h1, .inl (k0, 4, .inr (.inr (.inr (.inr (va_up (va_up (va_up (va_up (fun _ => none) 0 (some h2)) 1 (some h3)) 2 (some h4)) 3 (some h5))))))), (h2, .inr (6, [.ref z5, .int 0])), (h3, .inr (6, [.ref z6, .int 0])), (h4, .inr (6, [.ref z7, .int 0])), (h5, .inr (6, [.ref z8, .int 0]))] sz) := by
  refine Met.ofW (cc := cX3_turn) (maxL := 2) (ret := (some .int)) (by decide) rfl ?_
  intro p e s m args below meth c s₁ B hml hv
  obtain ⟨rfl, hsz, hP, hK, hD0⟩ := hv
  have hx := B.exec
  have hb := B.bytes
  have hr := B.returns
  have hts := atoms_spec (ws := wsX3_turn) B.pre
  have hown : s.vm.findClass RX3 = some m.cls := findClass_of_methodNamed B.named
  have hlocks := B.notSynchronized
  subst hsz
  have hD := hD0.self (sz := s.heap.size)
  generalize hAe : va_A [(h0, .inr (7, [.ref h1, .ref z0, .ref z1, .ref z2, .ref z3, .ref z4, .int 0, .int 0, .int 0])), (h1, .inl (k0, 4, .inr (.inr (.inr (.inr (va_up (va_up (va_up (va_up (fun _ => none) 0 (some h2)) 1 (some h3)) 2 (some h4)) 3 (some h5))))))), (h2, .inr (6, [.ref z5, .int 0])), (h3, .inr (6, [.ref z6, .int 0])), (h4, .inr (6, [.ref z7, .int 0])), (h5, .inr (6, [.ref z8, .int 0]))] s.heap.size = A at hD ⊢
  have hA : ∀ q : Nat, s.heap.size ≤ q → A q := fun q h => by rw [← hAe]; exact Or.inr h
  have hS : va_S A s.heap s.heap [] := va_S.rf
  have hP : va_P (dC, dI) vwCl [(h0, .inr (7, [.ref h1, .ref z0, .ref z1, .ref z2, .ref z3, .ref z4, .int 0, .int 0, .int 0])), (h1, .inl (k0, 4, .inr (.inr (.inr (.inr (va_up (va_up (va_up (va_up (fun _ => none) 0 (some h2)) 1 (some h3)) 2 (some h4)) 3 (some h5))))))), (h2, .inr (6, [.ref z5, .int 0])), (h3, .inr (6, [.ref z6, .int 0])), (h4, .inr (6, [.ref z7, .int 0])), (h5, .inr (6, [.ref z8, .int 0]))] s.heap := hP
  have hl := lv_entry ([.ref h0, .int 2]) (n := 2) (Nat.le_of_ble_eq_true rfl)
  rw [lg_entry_eq]
  generalize (lg_sl ([.ref h0, .int 2]) ++ List.replicate (2 - (lg_sl ([.ref h0, .int 2])).length) Slot.unset).toArray = ls at hl ⊢
  have hl : lv_has ls 2 [(0, .ref h0), (1, .int 2)] := hl
  refine lv_iload_n hx hb dX3_turn_0 rfl (lv_at hl 1 rfl) ?_
  have hPc := hP.sub (ws' := []) [] rfl
  have hDc := hD.sub (ws' := []) [] (by decide) rfl
  have hKc := hK.sub (tys' := []) [] rfl
  have hFc := va_free (wc := []) hD hS hA [] rfl
  refine va_callv (va_runS (As := [.int 2]) (rest := []) ⟨hx, hb, hml, hown, hts⟩ (kx_X3_needRope_2 l dC dI s.heap.size) (cwS 1 hts gX3_turn_X3_needRope rfl rfl rfl (by decide +kernel) ⟨Nat.le_of_ble_eq_true rfl, Nat.le_of_ble_eq_true rfl⟩) ⟨fun a U g mk q => by obtain ⟨q0, q1, qP, qK, qD⟩ := q; exact ⟨q0, q1, qP, va_K.moved (u := U) (U := U.calling g mk a) (Vm.Alike.refl U.vm) qK, qD⟩, fun U hU hW => ⟨rfl, by rw [hU], by rw [hU]; exact hPc, va_K.moved hW.alike hKc, hDc.weaken (fun _ _ _ _ => trivial)⟩⟩ rfl rfl hl.1 rfl (lv_room (Nat.le_of_ble_eq_true rfl)) dX3_turn_1 ⟨Nat.le_of_ble_eq_true rfl, Nat.le_of_ble_eq_true rfl⟩) hS (fun q _ h => hFc q h) hFc (fun u t H1 locs ht hvm hw hB hz1 hk1 hS => ?_)
  obtain ⟨hP1, hK1, hD1⟩ := hB
  rw [ht] at hP1
  have hK1 := va_K.moved hvm.symm hK1
  obtain ⟨hP, hD⟩ := va_join (wr := [(h0, .inr (7, [.ref h1, .ref z0, .ref z1, .ref z2, .ref z3, .ref z4, .int 0, .int 0, .int 0])), (h1, .inl (k0, 4, .inr (.inr (.inr (.inr (va_up (va_up (va_up (va_up (fun _ => none) 0 (some h2)) 1 (some h3)) 2 (some h4)) 3 (some h5))))))), (h2, .inr (6, [.ref z5, .int 0])), (h3, .inr (6, [.ref z6, .int 0])), (h4, .inr (6, [.ref z7, .int 0])), (h5, .inr (6, [.ref z8, .int 0]))]) (w1 := []) hP hD [] [0, 1, 2, 3, 4, 5] rfl rfl (by decide) (by decide) hk1 hFc hP1 hD1
  generalize H1 = H at hP hS ⊢
  have hP : va_P (dC, dI) vwCl [(h0, .inr (7, [.ref h1, .ref z0, .ref z1, .ref z2, .ref z3, .ref z4, .int 0, .int 0, .int 0])), (h1, .inl (k0, 4, .inr (.inr (.inr (.inr (va_up (va_up (va_up (va_up (fun _ => none) 0 (some h2)) 1 (some h3)) 2 (some h4)) 3 (some h5))))))), (h2, .inr (6, [.ref z5, .int 0])), (h3, .inr (6, [.ref z6, .int 0])), (h4, .inr (6, [.ref z7, .int 0])), (h5, .inr (6, [.ref z8, .int 0]))] H := hP
  have hD : va_D A [(h0, .inr (7, [.ref h1, .ref z0, .ref z1, .ref z2, .ref z3, .ref z4, .int 0, .int 0, .int 0])), (h1, .inl (k0, 4, .inr (.inr (.inr (.inr (va_up (va_up (va_up (va_up (fun _ => none) 0 (some h2)) 1 (some h3)) 2 (some h4)) 3 (some h5))))))), (h2, .inr (6, [.ref z5, .int 0])), (h3, .inr (6, [.ref z6, .int 0])), (h4, .inr (6, [.ref z7, .int 0])), (h5, .inr (6, [.ref z8, .int 0]))] := hD
  refine lv_aload_n hx hb dX3_turn_4 rfl (lv_at hl 0 rfl) ?_
  refine va_get (D := (dC, dI)) (ci := 7) (v := .ref h1) (C := RX3) (T := TX3) (N := 9) hx hb hts (by decide +kernel) hown hK hP 0 rfl rfl 0 (by decide) (hts (.fieldLink RX3 11 "Rewriterope" "ropes" "[LRewriterope$Text;") (by decide +kernel)) (fun _ h9 => h9) rfl dX3_turn_5 ?_
  refine lv_iload_n hx hb dX3_turn_8 rfl (lv_at hl 1 rfl) ?_
  refine va_aldq (D := (dC, dI)) hx hb hK hP 1 0 rfl rfl (by unfold vp_in; decide) dX3_turn_9 ?_
  refine W.eq (g2 := F0 m 10 ls [.ref h4]) rfl ?_
  have hPc := hP.sub (ws' := [(h4, .inr (6, [.ref z7, .int 0]))]) [4] rfl
  have hDc := hD.sub (ws' := [(h4, .inr (6, [.ref z7, .int 0]))]) [4] (by decide) rfl
  have hKc := hK.sub (tys' := []) [] rfl
  have hFc := va_free (wc := [(h4, .inr (6, [.ref z7, .int 0]))]) hD hS hA [4] rfl
  refine va_callv (va_runV (As := []) (rest := []) ⟨hx, hb, hml, hown, hts⟩ (kx_X2_turnRound_0 l dC dI h4 z7 H.size) (cwV 0 hts gX3_turn_X2_turnRound rfl rfl rfl (by decide +kernel) ⟨Nat.le_of_ble_eq_true rfl, Nat.le_of_ble_eq_true rfl⟩) ⟨fun a U g mk q => by obtain ⟨q0, q1, qP, qK, qD⟩ := q; exact ⟨q0, q1, qP, va_K.moved (u := U) (U := U.calling g mk a) (Vm.Alike.refl U.vm) qK, qD⟩, va_recv hKc hPc (ci := 6) (q0 := 0) rfl rfl, fun U hU hW => ⟨rfl, by rw [hU], by rw [hU]; exact hPc, va_K.moved hW.alike hKc, hDc.weaken (fun _ _ _ _ => trivial)⟩⟩ rfl rfl hl.1 rfl (lv_room (Nat.le_of_ble_eq_true rfl)) dX3_turn_10 ⟨Nat.le_of_ble_eq_true rfl, Nat.le_of_ble_eq_true rfl⟩) hS (fun q _ h => hFc q h) hFc (fun u t H1 locs ht hvm hw hB hz1 hk1 hS => ?_)
  obtain ⟨hP1, hK1, hD1⟩ := hB
  rw [ht] at hP1
  have hK1 := va_K.moved hvm.symm hK1
  obtain ⟨hP, hD⟩ := va_join (wr := [(h0, .inr (7, [.ref h1, .ref z0, .ref z1, .ref z2, .ref z3, .ref z4, .int 0, .int 0, .int 0])), (h1, .inl (k0, 4, .inr (.inr (.inr (.inr (va_up (va_up (va_up (va_up (fun _ => none) 0 (some h2)) 1 (some h3)) 2 (some h4)) 3 (some h5))))))), (h2, .inr (6, [.ref z5, .int 0])), (h3, .inr (6, [.ref z6, .int 0])), (h5, .inr (6, [.ref z8, .int 0]))]) (w1 := [(h4, .inr (6, [.ref z7, .int 0]))]) hP hD [4] [0, 1, 2, 3, 5] rfl rfl (by decide) (by decide) hk1 hFc hP1 hD1
  generalize H1 = H at hP hS ⊢
  have hP : va_P (dC, dI) vwCl [(h0, .inr (7, [.ref h1, .ref z0, .ref z1, .ref z2, .ref z3, .ref z4, .int 0, .int 0, .int 0])), (h1, .inl (k0, 4, .inr (.inr (.inr (.inr (va_up (va_up (va_up (va_up (fun _ => none) 0 (some h2)) 1 (some h3)) 2 (some h4)) 3 (some h5))))))), (h2, .inr (6, [.ref z5, .int 0])), (h3, .inr (6, [.ref z6, .int 0])), (h5, .inr (6, [.ref z8, .int 0])), (h4, .inr (6, [.ref z7, .int 0]))] H := hP
  have hD : va_D A [(h0, .inr (7, [.ref h1, .ref z0, .ref z1, .ref z2, .ref z3, .ref z4, .int 0, .int 0, .int 0])), (h1, .inl (k0, 4, .inr (.inr (.inr (.inr (va_up (va_up (va_up (va_up (fun _ => none) 0 (some h2)) 1 (some h3)) 2 (some h4)) 3 (some h5))))))), (h2, .inr (6, [.ref z5, .int 0])), (h3, .inr (6, [.ref z6, .int 0])), (h5, .inr (6, [.ref z8, .int 0])), (h4, .inr (6, [.ref z7, .int 0]))] := hD
  refine lv_aload_n hx hb dX3_turn_13 rfl (lv_at hl 0 rfl) ?_
  refine va_get (D := (dC, dI)) (ci := 7) (v := .ref h1) (C := RX3) (T := TX3) (N := 9) hx hb hts (by decide +kernel) hown hK hP 0 rfl rfl 0 (by decide) (hts (.fieldLink RX3 11 "Rewriterope" "ropes" "[LRewriterope$Text;") (by decide +kernel)) (fun _ h9 => h9) rfl dX3_turn_14 ?_
  refine lv_iload_n hx hb dX3_turn_17 rfl (lv_at hl 1 rfl) ?_
  refine va_aldq (D := (dC, dI)) hx hb hK hP 1 0 rfl rfl (by unfold vp_in; decide) dX3_turn_18 ?_
  refine W.eq (g2 := F0 m 19 ls [.ref h4]) rfl ?_
  refine va_get (D := (dC, dI)) (ci := 6) (v := .int 0) (C := RX2) (T := TX2) (N := 2) hx hb hts (by decide +kernel) hown hK hP 5 rfl rfl 1 (by decide) (hts (.fieldLink RX3 65 "Rewriterope$Text" "length" "I") (by decide +kernel)) (fun _ h9 => h9) rfl dX3_turn_19 ?_
  have hP := hP.sub (ws' := [(h0, .inr (7, [.ref h1, .ref z0, .ref z1, .ref z2, .ref z3, .ref z4, .int 0, .int 0, .int 0])), (h1, .inl (k0, 4, .inr (.inr (.inr (.inr (va_up (va_up (va_up (va_up (fun _ => none) 0 (some h2)) 1 (some h3)) 2 (some h4)) 3 (some h5))))))), (h2, .inr (6, [.ref z5, .int 0])), (h3, .inr (6, [.ref z6, .int 0])), (h4, .inr (6, [.ref z7, .int 0])), (h5, .inr (6, [.ref z8, .int 0]))]) [0, 1, 2, 3, 5, 4] rfl
  have hD := hD.sub (ws' := [(h0, .inr (7, [.ref h1, .ref z0, .ref z1, .ref z2, .ref z3, .ref z4, .int 0, .int 0, .int 0])), (h1, .inl (k0, 4, .inr (.inr (.inr (.inr (va_up (va_up (va_up (va_up (fun _ => none) 0 (some h2)) 1 (some h3)) 2 (some h4)) 3 (some h5))))))), (h2, .inr (6, [.ref z5, .int 0])), (h3, .inr (6, [.ref z6, .int 0])), (h4, .inr (6, [.ref z7, .int 0])), (h5, .inr (6, [.ref z8, .int 0]))]) [0, 1, 2, 3, 5, 4] (by decide) rfl
  exact W.iret (v := 0) hx hb hr (fun t ht hW => ⟨⟨0, (), rfl, rfl, by rw [ht]; exact hP, va_K.moved hW.alike hK, hD⟩, hS.F ht⟩) hS.2.2 dX3_turn_22
set_option maxHeartbeats 4000000 in
set_option maxRecDepth 100000 in
theorem kx_X3_turn_3 (l : Launch) (dC : Nat → ClassId) (dI : Nat → Nat → Nat) (h0 : Nat) (h1 : Nat) (h2 : Nat) (h3 : Nat) (h4 : Nat) (h5 : Nat) (z0 : Nat) (z1 : Nat) (z2 : Nat) (z3 : Nat) (z4 : Nat) (z5 : Nat) (z6 : Nat) (z7 : Nat) (z8 : Nat) (k0 : ClassId) (sz : Nat) : Met l yX3_turn wsX3_turn ({ frames := 1, cells := 0, slots := 0, locals := 23 }) (va_Pc [.ref h0, .int 3] (fun U => U.heap.size = sz ∧ va_P (dC, dI) vwCl [(h0, .inr (7, [.ref h1, .ref z0, .ref z1, .ref z2, .ref z3, .ref z4, .int 0, .int 0, .int 0])), (h1, .inl (k0, 4, .inr (.inr (.inr (.inr (va_up (va_up (va_up (va_up (fun _ => none) 0 (some h2)) 1 (some h3)) 2 (some h4)) 3 (some h5))))))), (h2, .inr (6, [.ref z5, .int 0])), (h3, .inr (6, [.ref z6, .int 0])), (h4, .inr (6, [.ref z7, .int 0])), (h5, .inr (6, [.ref z8, .int 0]))] U.heap ∧ va_K (dC, dI) vwCl [(k0, .object "Rewriterope$Text")] U ∧ va_D (fun _ => True) [(h0, .inr (7, [.ref h1, .ref z0, .ref z1, .ref z2, .ref z3, .ref z4, .int 0, .int 0, .int 0])), (h1, .inl (k0, 4, .inr (.inr (.inr (.inr (va_up (va_up (va_up (va_up (fun _ => none) 0 (some h2)) 1 (some h3)) 2 (some h4)) 3 (some h5))))))), (h2, .inr (6, [.ref z5, .int 0])), (h3, .inr (6, [.ref z6, .int 0])), (h4, .inr (6, [.ref z7, .int 0])), (h5, .inr (6, [.ref z8, .int 0]))])) (va_Qi (fun (r : Int32) (_ : Unit) => r = 0) (fun (_ : Unit) (t : State) => va_P (dC, dI) vwCl [(h0, .inr (7, [.ref h1, .ref z0, .ref z1, .ref z2, .ref z3, .ref z4, .int 0, .int 0, .int 0])), (h1, .inl (k0, 4, .inr (.inr (.inr (.inr (va_up (va_up (va_up (va_up (fun _ => none) 0 (some h2)) 1 (some h3)) 2 (some h4)) 3 (some h5))))))), (h2, .inr (6, [.ref z5, .int 0])), (h3, .inr (6, [.ref z6, .int 0])), (h4, .inr (6, [.ref z7, .int 0])), (h5, .inr (6, [.ref z8, .int 0]))] t.heap ∧ va_K (dC, dI) vwCl [(k0, .object "Rewriterope$Text")] t ∧ va_D (va_A [(h0, .inr (7, [.ref h1, .ref z0, .ref z1, .ref z2, .ref z3, .ref z4, .int 0, .int 0, .int 0])), (h1, .inl (k0, 4, .inr (.inr (.inr (.inr (va_up (va_up (va_up (va_up (fun _ => none) 0 (some h2)) 1 (some h3)) 2 (some h4)) 3 (some h5))))))), (h2, .inr (6, [.ref z5, .int 0])), (h3, .inr (6, [.ref z6, .int 0])), (h4, .inr (6, [.ref z7, .int 0])), (h5, .inr (6, [.ref z8, .int 0]))] sz) [(h0, .inr (7, [.ref h1, .ref z0, .ref z1, .ref z2, .ref z3, .ref z4, .int 0, .int 0, .int 0])), (h1, .inl (k0, 4, .inr (.inr (.inr (.inr (va_up (va_up (va_up (va_up (fun _ => none) 0 (some h2)) 1 (some h3)) 2 (some h4)) 3 (some h5))))))), (h2, .inr (6, [.ref z5, .int 0])), (h3, .inr (6, [.ref z6, .int 0])), (h4, .inr (6, [.ref z7, .int 0])), (h5, .inr (6, [.ref z8, .int 0]))]) (va_A [(h0, .inr (7, [.ref h1, .ref z0, .ref z1, .ref z2, .ref z3, .ref z4, .int 0, .int 0, .int 0])), (h1, .inl (k0, 4, .inr (.inr (.inr (.inr (va_up (va_up (va_up (va_up (fun _ => none) 0 (some h2)) 1 (some h3)) 2 (some h4)) 3 (some h5))))))), (h2, .inr (6, [.ref z5, .int 0])), (h3, .inr (6, [.ref z6, .int 0])), (h4, .inr (6, [.ref z7, .int 0])), (h5, .inr (6, [.ref z8, .int 0]))] sz)) 0 0 (va_A [(h0, .inr (7, [.ref h1, .ref z0, .ref z1, .ref z2, .ref z3, .ref z4, .int 0, .int 0, .int 0])), (h1, .inl (k0, 4, .inr (.inr (.inr (.inr (va_up (va_up (va_up (va_up (fun _ => none) 0 (some h2)) 1 (some h3)) 2 (some h4)) 3 (some h5))))))), (h2, .inr (6, [.ref z5, .int 0])), (h3, .inr (6, [.ref z6, .int 0])), (h4, .inr (6, [.ref z7, .int 0])), (h5, .inr (6, [.ref z8, .int 0]))] sz) := by
  refine Met.ofW (cc := cX3_turn) (maxL := 2) (ret := (some .int)) (by decide) rfl ?_
  intro p e s m args below meth c s₁ B hml hv
  obtain ⟨rfl, hsz, hP, hK, hD0⟩ := hv
  have hx := B.exec
  have hb := B.bytes
  have hr := B.returns
  have hts := atoms_spec (ws := wsX3_turn) B.pre
  have hown : s.vm.findClass RX3 = some m.cls := findClass_of_methodNamed B.named
  have hlocks := B.notSynchronized
  subst hsz
  have hD := hD0.self (sz := s.heap.size)
  generalize hAe : va_A [(h0, .inr (7, [.ref h1, .ref z0, .ref z1, .ref z2, .ref z3, .ref z4, .int 0, .int 0, .int 0])), (h1, .inl (k0, 4, .inr (.inr (.inr (.inr (va_up (va_up (va_up (va_up (fun _ => none) 0 (some h2)) 1 (some h3)) 2 (some h4)) 3 (some h5))))))), (h2, .inr (6, [.ref z5, .int 0])), (h3, .inr (6, [.ref z6, .int 0])), (h4, .inr (6, [.ref z7, .int 0])), (h5, .inr (6, [.ref z8, .int 0]))] s.heap.size = A at hD ⊢
  have hA : ∀ q : Nat, s.heap.size ≤ q → A q := fun q h => by rw [← hAe]; exact Or.inr h
  have hS : va_S A s.heap s.heap [] := va_S.rf
  have hP : va_P (dC, dI) vwCl [(h0, .inr (7, [.ref h1, .ref z0, .ref z1, .ref z2, .ref z3, .ref z4, .int 0, .int 0, .int 0])), (h1, .inl (k0, 4, .inr (.inr (.inr (.inr (va_up (va_up (va_up (va_up (fun _ => none) 0 (some h2)) 1 (some h3)) 2 (some h4)) 3 (some h5))))))), (h2, .inr (6, [.ref z5, .int 0])), (h3, .inr (6, [.ref z6, .int 0])), (h4, .inr (6, [.ref z7, .int 0])), (h5, .inr (6, [.ref z8, .int 0]))] s.heap := hP
  have hl := lv_entry ([.ref h0, .int 3]) (n := 2) (Nat.le_of_ble_eq_true rfl)
  rw [lg_entry_eq]
  generalize (lg_sl ([.ref h0, .int 3]) ++ List.replicate (2 - (lg_sl ([.ref h0, .int 3])).length) Slot.unset).toArray = ls at hl ⊢
  have hl : lv_has ls 2 [(0, .ref h0), (1, .int 3)] := hl
  refine lv_iload_n hx hb dX3_turn_0 rfl (lv_at hl 1 rfl) ?_
  have hPc := hP.sub (ws' := []) [] rfl
  have hDc := hD.sub (ws' := []) [] (by decide) rfl
  have hKc := hK.sub (tys' := []) [] rfl
  have hFc := va_free (wc := []) hD hS hA [] rfl
  refine va_callv (va_runS (As := [.int 3]) (rest := []) ⟨hx, hb, hml, hown, hts⟩ (kx_X3_needRope_3 l dC dI s.heap.size) (cwS 1 hts gX3_turn_X3_needRope rfl rfl rfl (by decide +kernel) ⟨Nat.le_of_ble_eq_true rfl, Nat.le_of_ble_eq_true rfl⟩) ⟨fun a U g mk q => by obtain ⟨q0, q1, qP, qK, qD⟩ := q; exact ⟨q0, q1, qP, va_K.moved (u := U) (U := U.calling g mk a) (Vm.Alike.refl U.vm) qK, qD⟩, fun U hU hW => ⟨rfl, by rw [hU], by rw [hU]; exact hPc, va_K.moved hW.alike hKc, hDc.weaken (fun _ _ _ _ => trivial)⟩⟩ rfl rfl hl.1 rfl (lv_room (Nat.le_of_ble_eq_true rfl)) dX3_turn_1 ⟨Nat.le_of_ble_eq_true rfl, Nat.le_of_ble_eq_true rfl⟩) hS (fun q _ h => hFc q h) hFc (fun u t H1 locs ht hvm hw hB hz1 hk1 hS => ?_)
  obtain ⟨hP1, hK1, hD1⟩ := hB
  rw [ht] at hP1
  have hK1 := va_K.moved hvm.symm hK1
  obtain ⟨hP, hD⟩ := va_join (wr := [(h0, .inr (7, [.ref h1, .ref z0, .ref z1, .ref z2, .ref z3, .ref z4, .int 0, .int 0, .int 0])), (h1, .inl (k0, 4, .inr (.inr (.inr (.inr (va_up (va_up (va_up (va_up (fun _ => none) 0 (some h2)) 1 (some h3)) 2 (some h4)) 3 (some h5))))))), (h2, .inr (6, [.ref z5, .int 0])), (h3, .inr (6, [.ref z6, .int 0])), (h4, .inr (6, [.ref z7, .int 0])), (h5, .inr (6, [.ref z8, .int 0]))]) (w1 := []) hP hD [] [0, 1, 2, 3, 4, 5] rfl rfl (by decide) (by decide) hk1 hFc hP1 hD1
  generalize H1 = H at hP hS ⊢
  have hP : va_P (dC, dI) vwCl [(h0, .inr (7, [.ref h1, .ref z0, .ref z1, .ref z2, .ref z3, .ref z4, .int 0, .int 0, .int 0])), (h1, .inl (k0, 4, .inr (.inr (.inr (.inr (va_up (va_up (va_up (va_up (fun _ => none) 0 (some h2)) 1 (some h3)) 2 (some h4)) 3 (some h5))))))), (h2, .inr (6, [.ref z5, .int 0])), (h3, .inr (6, [.ref z6, .int 0])), (h4, .inr (6, [.ref z7, .int 0])), (h5, .inr (6, [.ref z8, .int 0]))] H := hP
  have hD : va_D A [(h0, .inr (7, [.ref h1, .ref z0, .ref z1, .ref z2, .ref z3, .ref z4, .int 0, .int 0, .int 0])), (h1, .inl (k0, 4, .inr (.inr (.inr (.inr (va_up (va_up (va_up (va_up (fun _ => none) 0 (some h2)) 1 (some h3)) 2 (some h4)) 3 (some h5))))))), (h2, .inr (6, [.ref z5, .int 0])), (h3, .inr (6, [.ref z6, .int 0])), (h4, .inr (6, [.ref z7, .int 0])), (h5, .inr (6, [.ref z8, .int 0]))] := hD
  refine lv_aload_n hx hb dX3_turn_4 rfl (lv_at hl 0 rfl) ?_
  refine va_get (D := (dC, dI)) (ci := 7) (v := .ref h1) (C := RX3) (T := TX3) (N := 9) hx hb hts (by decide +kernel) hown hK hP 0 rfl rfl 0 (by decide) (hts (.fieldLink RX3 11 "Rewriterope" "ropes" "[LRewriterope$Text;") (by decide +kernel)) (fun _ h9 => h9) rfl dX3_turn_5 ?_
  refine lv_iload_n hx hb dX3_turn_8 rfl (lv_at hl 1 rfl) ?_
  refine va_aldq (D := (dC, dI)) hx hb hK hP 1 0 rfl rfl (by unfold vp_in; decide) dX3_turn_9 ?_
  refine W.eq (g2 := F0 m 10 ls [.ref h5]) rfl ?_
  have hPc := hP.sub (ws' := [(h5, .inr (6, [.ref z8, .int 0]))]) [5] rfl
  have hDc := hD.sub (ws' := [(h5, .inr (6, [.ref z8, .int 0]))]) [5] (by decide) rfl
  have hKc := hK.sub (tys' := []) [] rfl
  have hFc := va_free (wc := [(h5, .inr (6, [.ref z8, .int 0]))]) hD hS hA [5] rfl
  refine va_callv (va_runV (As := []) (rest := []) ⟨hx, hb, hml, hown, hts⟩ (kx_X2_turnRound_0 l dC dI h5 z8 H.size) (cwV 0 hts gX3_turn_X2_turnRound rfl rfl rfl (by decide +kernel) ⟨Nat.le_of_ble_eq_true rfl, Nat.le_of_ble_eq_true rfl⟩) ⟨fun a U g mk q => by obtain ⟨q0, q1, qP, qK, qD⟩ := q; exact ⟨q0, q1, qP, va_K.moved (u := U) (U := U.calling g mk a) (Vm.Alike.refl U.vm) qK, qD⟩, va_recv hKc hPc (ci := 6) (q0 := 0) rfl rfl, fun U hU hW => ⟨rfl, by rw [hU], by rw [hU]; exact hPc, va_K.moved hW.alike hKc, hDc.weaken (fun _ _ _ _ => trivial)⟩⟩ rfl rfl hl.1 rfl (lv_room (Nat.le_of_ble_eq_true rfl)) dX3_turn_10 ⟨Nat.le_of_ble_eq_true rfl, Nat.le_of_ble_eq_true rfl⟩) hS (fun q _ h => hFc q h) hFc (fun u t H1 locs ht hvm hw hB hz1 hk1 hS => ?_)
  obtain ⟨hP1, hK1, hD1⟩ := hB
  rw [ht] at hP1
  have hK1 := va_K.moved hvm.symm hK1
  obtain ⟨hP, hD⟩ := va_join (wr := [(h0, .inr (7, [.ref h1, .ref z0, .ref z1, .ref z2, .ref z3, .ref z4, .int 0, .int 0, .int 0])), (h1, .inl (k0, 4, .inr (.inr (.inr (.inr (va_up (va_up (va_up (va_up (fun _ => none) 0 (some h2)) 1 (some h3)) 2 (some h4)) 3 (some h5))))))), (h2, .inr (6, [.ref z5, .int 0])), (h3, .inr (6, [.ref z6, .int 0])), (h4, .inr (6, [.ref z7, .int 0]))]) (w1 := [(h5, .inr (6, [.ref z8, .int 0]))]) hP hD [5] [0, 1, 2, 3, 4] rfl rfl (by decide) (by decide) hk1 hFc hP1 hD1
  generalize H1 = H at hP hS ⊢
  have hP : va_P (dC, dI) vwCl [(h0, .inr (7, [.ref h1, .ref z0, .ref z1, .ref z2, .ref z3, .ref z4, .int 0, .int 0, .int 0])), (h1, .inl (k0, 4, .inr (.inr (.inr (.inr (va_up (va_up (va_up (va_up (fun _ => none) 0 (some h2)) 1 (some h3)) 2 (some h4)) 3 (some h5))))))), (h2, .inr (6, [.ref z5, .int 0])), (h3, .inr (6, [.ref z6, .int 0])), (h4, .inr (6, [.ref z7, .int 0])), (h5, .inr (6, [.ref z8, .int 0]))] H := hP
  have hD : va_D A [(h0, .inr (7, [.ref h1, .ref z0, .ref z1, .ref z2, .ref z3, .ref z4, .int 0, .int 0, .int 0])), (h1, .inl (k0, 4, .inr (.inr (.inr (.inr (va_up (va_up (va_up (va_up (fun _ => none) 0 (some h2)) 1 (some h3)) 2 (some h4)) 3 (some h5))))))), (h2, .inr (6, [.ref z5, .int 0])), (h3, .inr (6, [.ref z6, .int 0])), (h4, .inr (6, [.ref z7, .int 0])), (h5, .inr (6, [.ref z8, .int 0]))] := hD
  refine lv_aload_n hx hb dX3_turn_13 rfl (lv_at hl 0 rfl) ?_
  refine va_get (D := (dC, dI)) (ci := 7) (v := .ref h1) (C := RX3) (T := TX3) (N := 9) hx hb hts (by decide +kernel) hown hK hP 0 rfl rfl 0 (by decide) (hts (.fieldLink RX3 11 "Rewriterope" "ropes" "[LRewriterope$Text;") (by decide +kernel)) (fun _ h9 => h9) rfl dX3_turn_14 ?_
  refine lv_iload_n hx hb dX3_turn_17 rfl (lv_at hl 1 rfl) ?_
  refine va_aldq (D := (dC, dI)) hx hb hK hP 1 0 rfl rfl (by unfold vp_in; decide) dX3_turn_18 ?_
  refine W.eq (g2 := F0 m 19 ls [.ref h5]) rfl ?_
  refine va_get (D := (dC, dI)) (ci := 6) (v := .int 0) (C := RX2) (T := TX2) (N := 2) hx hb hts (by decide +kernel) hown hK hP 5 rfl rfl 1 (by decide) (hts (.fieldLink RX3 65 "Rewriterope$Text" "length" "I") (by decide +kernel)) (fun _ h9 => h9) rfl dX3_turn_19 ?_
  exact W.iret (v := 0) hx hb hr (fun t ht hW => ⟨⟨0, (), rfl, rfl, by rw [ht]; exact hP, va_K.moved hW.alike hK, hD⟩, hS.F ht⟩) hS.2.2 dX3_turn_22
set_option maxHeartbeats 4000000 in
set_option maxRecDepth 100000 in
theorem kx_X3_turn_s0 (l : Launch) (dC : Nat → ClassId) (dI : Nat → Nat → Nat) (h0 : Nat) (h1 : Nat) (h2 : Nat) (h3 : Nat) (h4 : Nat) (h5 : Nat) (z0 : Nat) (z1 : Nat) (z2 : Nat) (z3 : Nat) (z4 : Nat) (z5 : Nat) (z6 : Nat) (z7 : Nat) (z8 : Nat) (k0 : ClassId) (sz : Nat) (j0 : Int32) (j0_l : (0 : Int) ≤ j0.toInt) (j0_u : j0.toInt ≤ (3 : Int)) : Met l yX3_turn wsX3_turn ({ frames := 1, cells := 0, slots := 0, locals := 23 }) (va_Pc [.ref h0, .int j0] (fun U => U.heap.size = sz ∧ va_P (dC, dI) vwCl [(h0, .inr (7, [.ref h1, .ref z0, .ref z1, .ref z2, .ref z3, .ref z4, .int 0, .int 0, .int 0])), (h1, .inl (k0, 4, .inr (.inr (.inr (.inr (va_up (va_up (va_up (va_up (fun _ => none) 0 (some h2)) 1 (some h3)) 2 (some h4)) 3 (some h5))))))), (h2, .inr (6, [.ref z5, .int 0])), (h3, .inr (6, [.ref z6, .int 0])), (h4, .inr (6, [.ref z7, .int 0])), (h5, .inr (6, [.ref z8, .int 0]))] U.heap ∧ va_K (dC, dI) vwCl [(k0, .object "Rewriterope$Text")] U ∧ va_D (fun _ => True) [(h0, .inr (7, [.ref h1, .ref z0, .ref z1, .ref z2, .ref z3, .ref z4, .int 0, .int 0, .int 0])), (h1, .inl (k0, 4, .inr (.inr (.inr (.inr (va_up (va_up (va_up (va_up (fun _ => none) 0 (some h2)) 1 (some h3)) 2 (some h4)) 3 (some h5))))))), (h2, .inr (6, [.ref z5, .int 0])), (h3, .inr (6, [.ref z6, .int 0])), (h4, .inr (6, [.ref z7, .int 0])), (h5, .inr (6, [.ref z8, .int 0]))])) (va_Qi (fun (r : Int32) (_ : Unit) => r = 0) (fun (_ : Unit) (t : State) => va_P (dC, dI) vwCl [(h0, .inr (7, [.ref h1, .ref z0, .ref z1, .ref z2, .ref z3, .ref z4, .int 0, .int 0, .int 0])), (h1, .inl (k0, 4, .inr (.inr (.inr (.inr (va_up (va_up (va_up (va_up (fun _ => none) 0 (some h2)) 1 (some h3)) 2 (some h4)) 3 (some h5))))))), (h2, .inr (6, [.ref z5, .int 0])), (h3, .inr (6, [.ref z6, .int 0])), (h4, .inr (6, [.ref z7, .int 0])), (h5, .inr (6, [.ref z8, .int 0]))] t.heap ∧ va_K (dC, dI) vwCl [(k0, .object "Rewriterope$Text")] t ∧ va_D (va_A [(h0, .inr (7, [.ref h1, .ref z0, .ref z1, .ref z2, .ref z3, .ref z4, .int 0, .int 0, .int 0])), (h1, .inl (k0, 4, .inr (.inr (.inr (.inr (va_up (va_up (va_up (va_up (fun _ => none) 0 (some h2)) 1 (some h3)) 2 (some h4)) 3 (some h5))))))), (h2, .inr (6, [.ref z5, .int 0])), (h3, .inr (6, [.ref z6, .int 0])), (h4, .inr (6, [.ref z7, .int 0])), (h5, .inr (6, [.ref z8, .int 0]))] sz) [(h0, .inr (7, [.ref h1, .ref z0, .ref z1, .ref z2, .ref z3, .ref z4, .int 0, .int 0, .int 0])), (h1, .inl (k0, 4, .inr (.inr (.inr (.inr (va_up (va_up (va_up (va_up (fun _ => none) 0 (some h2)) 1 (some h3)) 2 (some h4)) 3 (some h5))))))), (h2, .inr (6, [.ref z5, .int 0])), (h3, .inr (6, [.ref z6, .int 0])), (h4, .inr (6, [.ref z7, .int 0])), (h5, .inr (6, [.ref z8, .int 0]))]) (va_A [(h0, .inr (7, [.ref h1, .ref z0, .ref z1, .ref z2, .ref z3, .ref z4, .int 0, .int 0, .int 0])), (h1, .inl (k0, 4, .inr (.inr (.inr (.inr (va_up (va_up (va_up (va_up (fun _ => none) 0 (some h2)) 1 (some h3)) 2 (some h4)) 3 (some h5))))))), (h2, .inr (6, [.ref z5, .int 0])), (h3, .inr (6, [.ref z6, .int 0])), (h4, .inr (6, [.ref z7, .int 0])), (h5, .inr (6, [.ref z8, .int 0]))] sz)) 0 0 (va_A [(h0, .inr (7, [.ref h1, .ref z0, .ref z1, .ref z2, .ref z3, .ref z4, .int 0, .int 0, .int 0])), (h1, .inl (k0, 4, .inr (.inr (.inr (.inr (va_up (va_up (va_up (va_up (fun _ => none) 0 (some h2)) 1 (some h3)) 2 (some h4)) 3 (some h5))))))), (h2, .inr (6, [.ref z5, .int 0])), (h3, .inr (6, [.ref z6, .int 0])), (h4, .inr (6, [.ref z7, .int 0])), (h5, .inr (6, [.ref z8, .int 0]))] sz) := by
  have e9 : j0 = 0 ∨ j0 = 1 ∨ j0 = 2 ∨ j0 = 3 := by
    have h9 : j0.toInt = 0 ∨ j0.toInt = 1 ∨ j0.toInt = 2 ∨ j0.toInt = 3 := by omega
    rcases h9 with h9 | h9 | h9 | h9
    · exact Or.inl (Int32.toInt_inj.mp (h9.trans (by decide)))
    · exact Or.inr (Or.inl (Int32.toInt_inj.mp (h9.trans (by decide))))
    · exact Or.inr (Or.inr (Or.inl (Int32.toInt_inj.mp (h9.trans (by decide)))))
    · exact Or.inr (Or.inr (Or.inr (Int32.toInt_inj.mp (h9.trans (by decide)))))
  rcases e9 with rfl | rfl | rfl | rfl
  · exact kx_X3_turn_0 l dC dI h0 h1 h2 h3 h4 h5 z0 z1 z2 z3 z4 z5 z6 z7 z8 k0 sz
  · exact kx_X3_turn_1 l dC dI h0 h1 h2 h3 h4 h5 z0 z1 z2 z3 z4 z5 z6 z7 z8 k0 sz
  · exact kx_X3_turn_2 l dC dI h0 h1 h2 h3 h4 h5 z0 z1 z2 z3 z4 z5 z6 z7 z8 k0 sz
  · exact kx_X3_turn_3 l dC dI h0 h1 h2 h3 h4 h5 z0 z1 z2 z3 z4 z5 z6 z7 z8 k0 sz
set_option maxHeartbeats 4000000 in
set_option maxRecDepth 100000 in
theorem kx_L_turn_0 (l : Launch) (dC : Nat → ClassId) (dI : Nat → Nat → Nat) (ge5 gea gv5 gva gde gic gi0 : Nat) (h0 : Nat) (h1 : Nat) (h2 : Nat) (h3 : Nat) (h4 : Nat) (h5 : Nat) (h6 : Nat) (z0 : Nat) (z1 : Nat) (z2 : Nat) (z3 : Nat) (z4 : Nat) (z5 : Nat) (z6 : Nat) (z7 : Nat) (z8 : Nat) (k0 : ClassId) (sz : Nat) (i0 : Int32) (i0_l : (0 : Int) ≤ i0.toInt) (i0_u : i0.toInt ≤ (3 : Int)) : Met l yL_turn wsL_turn ({ frames := 2, cells := 0, slots := 0, locals := 44 }) (va_Pc [.ref h0, .int i0, .ref h6] (fun U => U.heap.size = sz ∧ va_P (dC, dI) vwCl [(h0, .inr (7, [.ref h1, .ref z0, .ref z1, .ref z2, .ref z3, .ref z4, .int 0, .int 0, .int 0])), (h1, .inl (k0, 4, .inr (.inr (.inr (.inr (va_up (va_up (va_up (va_up (fun _ => none) 0 (some h2)) 1 (some h3)) 2 (some h4)) 3 (some h5))))))), (h2, .inr (6, [.ref z5, .int 0])), (h3, .inr (6, [.ref z6, .int 0])), (h4, .inr (6, [.ref z7, .int 0])), (h5, .inr (6, [.ref z8, .int 0])), (h6, .inr (8, [.long 0, .null]))] U.heap ∧ va_K (dC, dI) vwCl [(k0, .object "Rewriterope$Text")] U ∧ va_D (fun _ => True) [(h0, .inr (7, [.ref h1, .ref z0, .ref z1, .ref z2, .ref z3, .ref z4, .int 0, .int 0, .int 0])), (h1, .inl (k0, 4, .inr (.inr (.inr (.inr (va_up (va_up (va_up (va_up (fun _ => none) 0 (some h2)) 1 (some h3)) 2 (some h4)) 3 (some h5))))))), (h2, .inr (6, [.ref z5, .int 0])), (h3, .inr (6, [.ref z6, .int 0])), (h4, .inr (6, [.ref z7, .int 0])), (h5, .inr (6, [.ref z8, .int 0])), (h6, .inr (8, [.long 0, .null]))] ∧ gv ge5 gea gv5 gva gde gic gi0 (va_A [(h0, .inr (7, [.ref h1, .ref z0, .ref z1, .ref z2, .ref z3, .ref z4, .int 0, .int 0, .int 0])), (h1, .inl (k0, 4, .inr (.inr (.inr (.inr (va_up (va_up (va_up (va_up (fun _ => none) 0 (some h2)) 1 (some h3)) 2 (some h4)) 3 (some h5))))))), (h2, .inr (6, [.ref z5, .int 0])), (h3, .inr (6, [.ref z6, .int 0])), (h4, .inr (6, [.ref z7, .int 0])), (h5, .inr (6, [.ref z8, .int 0])), (h6, .inr (8, [.long 0, .null]))] sz) U U.heap)) (va_Qi (fun (r : Int32) (_ : Unit) => r = 0) (fun (_ : Unit) (t : State) => va_P (dC, dI) vwCl [(h0, .inr (7, [.ref h1, .ref z0, .ref z1, .ref z2, .ref z3, .ref z4, .int 0, .int 0, .int 0])), (h1, .inl (k0, 4, .inr (.inr (.inr (.inr (va_up (va_up (va_up (va_up (fun _ => none) 0 (some h2)) 1 (some h3)) 2 (some h4)) 3 (some h5))))))), (h2, .inr (6, [.ref z5, .int 0])), (h3, .inr (6, [.ref z6, .int 0])), (h4, .inr (6, [.ref z7, .int 0])), (h5, .inr (6, [.ref z8, .int 0])), (h6, .inr (8, [.long 0, .null]))] t.heap ∧ va_K (dC, dI) vwCl [(k0, .object "Rewriterope$Text")] t ∧ va_D (va_A [(h0, .inr (7, [.ref h1, .ref z0, .ref z1, .ref z2, .ref z3, .ref z4, .int 0, .int 0, .int 0])), (h1, .inl (k0, 4, .inr (.inr (.inr (.inr (va_up (va_up (va_up (va_up (fun _ => none) 0 (some h2)) 1 (some h3)) 2 (some h4)) 3 (some h5))))))), (h2, .inr (6, [.ref z5, .int 0])), (h3, .inr (6, [.ref z6, .int 0])), (h4, .inr (6, [.ref z7, .int 0])), (h5, .inr (6, [.ref z8, .int 0])), (h6, .inr (8, [.long 0, .null]))] sz) [(h0, .inr (7, [.ref h1, .ref z0, .ref z1, .ref z2, .ref z3, .ref z4, .int 0, .int 0, .int 0])), (h1, .inl (k0, 4, .inr (.inr (.inr (.inr (va_up (va_up (va_up (va_up (fun _ => none) 0 (some h2)) 1 (some h3)) 2 (some h4)) 3 (some h5))))))), (h2, .inr (6, [.ref z5, .int 0])), (h3, .inr (6, [.ref z6, .int 0])), (h4, .inr (6, [.ref z7, .int 0])), (h5, .inr (6, [.ref z8, .int 0])), (h6, .inr (8, [.long 0, .null]))]) (va_A [(h0, .inr (7, [.ref h1, .ref z0, .ref z1, .ref z2, .ref z3, .ref z4, .int 0, .int 0, .int 0])), (h1, .inl (k0, 4, .inr (.inr (.inr (.inr (va_up (va_up (va_up (va_up (fun _ => none) 0 (some h2)) 1 (some h3)) 2 (some h4)) 3 (some h5))))))), (h2, .inr (6, [.ref z5, .int 0])), (h3, .inr (6, [.ref z6, .int 0])), (h4, .inr (6, [.ref z7, .int 0])), (h5, .inr (6, [.ref z8, .int 0])), (h6, .inr (8, [.long 0, .null]))] sz)) 0 0 (va_A [(h0, .inr (7, [.ref h1, .ref z0, .ref z1, .ref z2, .ref z3, .ref z4, .int 0, .int 0, .int 0])), (h1, .inl (k0, 4, .inr (.inr (.inr (.inr (va_up (va_up (va_up (va_up (fun _ => none) 0 (some h2)) 1 (some h3)) 2 (some h4)) 3 (some h5))))))), (h2, .inr (6, [.ref z5, .int 0])), (h3, .inr (6, [.ref z6, .int 0])), (h4, .inr (6, [.ref z7, .int 0])), (h5, .inr (6, [.ref z8, .int 0])), (h6, .inr (8, [.long 0, .null]))] sz) := by
  refine kz_ofWH (cc := cL_turn) (maxL := 4) (ret := (some .int)) (hh := [(0, 10, 13, 19)]) (by decide) rfl ?_
  intro p e s m args below meth c s₁ B hml hv
  obtain ⟨rfl, hsz, hP, hK, hD0, hG⟩ := hv
  have hx := B.exec
  have hb := B.bytes
  have hr := B.returns
  have hts := atoms_spec (ws := wsL_turn) B.pre
  have hown : s.vm.findClass RL = some m.cls := findClass_of_methodNamed B.named
  have htab := vx_table (x := yL_turn) B (hts (.codeWith yL_turn cL_turn 4 (some .int) [(0, 10, 13, 19)]) (by decide +kernel))
  have hlocks := B.notSynchronized
  subst hsz
  have hD := hD0.self (sz := s.heap.size)
  generalize hAe : va_A [(h0, .inr (7, [.ref h1, .ref z0, .ref z1, .ref z2, .ref z3, .ref z4, .int 0, .int 0, .int 0])), (h1, .inl (k0, 4, .inr (.inr (.inr (.inr (va_up (va_up (va_up (va_up (fun _ => none) 0 (some h2)) 1 (some h3)) 2 (some h4)) 3 (some h5))))))), (h2, .inr (6, [.ref z5, .int 0])), (h3, .inr (6, [.ref z6, .int 0])), (h4, .inr (6, [.ref z7, .int 0])), (h5, .inr (6, [.ref z8, .int 0])), (h6, .inr (8, [.long 0, .null]))] s.heap.size = A at hD hG ⊢
  obtain ⟨⟨g_AO_Text, g_AO_String, g_AO_Object, g_nm_RX1_20, g_nm_RX0_17, g_nm_RX3_31, g_nm_RX2_44, g_nm_RL_121, g_nf_RL_13, g_nf_RL_47, g_ca_IO, g_ca_IA, g_ca_IS, g_ca_IntObj, g_ca_StrObj, g_de_RT, g_de_EX, g_de_TH, g_nc_IA_IO, g_nc_IS_IO, g_nc_IS_IA⟩, ⟨g_s3, g_s5, g_sa, g_x278, g_x280, g_x282, g_x284, g_x286, g_x180, g_x238, g_x250⟩, ⟨g_o5, g_c5, g_v5, g_t5, g_oa, g_ca, g_va, g_ta, g_zc, g_zd, g_td, g_zf, g_zU, g_zN, g_zh, g_zk, g_tk, g_oi, g_vi⟩⟩ := id hG
  have hA : ∀ q : Nat, s.heap.size ≤ q → A q := fun q h => by rw [← hAe]; exact Or.inr h
  have hS : va_S A s.heap s.heap [] := va_S.rf
  have hP : va_P (dC, dI) vwCl [(h0, .inr (7, [.ref h1, .ref z0, .ref z1, .ref z2, .ref z3, .ref z4, .int 0, .int 0, .int 0])), (h1, .inl (k0, 4, .inr (.inr (.inr (.inr (va_up (va_up (va_up (va_up (fun _ => none) 0 (some h2)) 1 (some h3)) 2 (some h4)) 3 (some h5))))))), (h2, .inr (6, [.ref z5, .int 0])), (h3, .inr (6, [.ref z6, .int 0])), (h4, .inr (6, [.ref z7, .int 0])), (h5, .inr (6, [.ref z8, .int 0])), (h6, .inr (8, [.long 0, .null]))] s.heap := hP
  have hl := lv_entry ([.ref h0, .int i0, .ref h6]) (n := 4) (Nat.le_of_ble_eq_true rfl)
  rw [lg_entry_eq]
  generalize (lg_sl ([.ref h0, .int i0, .ref h6]) ++ List.replicate (4 - (lg_sl ([.ref h0, .int i0, .ref h6])).length) Slot.unset).toArray = ls at hl ⊢
  have hl : lv_has ls 4 [(0, .ref h0), (1, .int i0), (2, .ref h6)] := hl
  refine lv_aload_n hx hb dL_turn_0 rfl (lv_at hl 2 rfl) ?_
  refine lv_aload_n hx hb dL_turn_1 rfl (lv_at hl 0 rfl) ?_
  refine lv_iload_n hx hb dL_turn_2 rfl (lv_at hl 1 rfl) ?_
  have hPc := hP.sub (ws' := [(h0, .inr (7, [.ref h1, .ref z0, .ref z1, .ref z2, .ref z3, .ref z4, .int 0, .int 0, .int 0])), (h1, .inl (k0, 4, .inr (.inr (.inr (.inr (va_up (va_up (va_up (va_up (fun _ => none) 0 (some h2)) 1 (some h3)) 2 (some h4)) 3 (some h5))))))), (h2, .inr (6, [.ref z5, .int 0])), (h3, .inr (6, [.ref z6, .int 0])), (h4, .inr (6, [.ref z7, .int 0])), (h5, .inr (6, [.ref z8, .int 0]))]) [0, 1, 2, 3, 4, 5] rfl
  have hDc := hD.sub (ws' := [(h0, .inr (7, [.ref h1, .ref z0, .ref z1, .ref z2, .ref z3, .ref z4, .int 0, .int 0, .int 0])), (h1, .inl (k0, 4, .inr (.inr (.inr (.inr (va_up (va_up (va_up (va_up (fun _ => none) 0 (some h2)) 1 (some h3)) 2 (some h4)) 3 (some h5))))))), (h2, .inr (6, [.ref z5, .int 0])), (h3, .inr (6, [.ref z6, .int 0])), (h4, .inr (6, [.ref z7, .int 0])), (h5, .inr (6, [.ref z8, .int 0]))]) [0, 1, 2, 3, 4, 5] (by decide) rfl
  have hKc := hK.sub (tys' := [(k0, .object "Rewriterope$Text")]) [0] rfl
  have hFc := va_free (wc := [(h0, .inr (7, [.ref h1, .ref z0, .ref z1, .ref z2, .ref z3, .ref z4, .int 0, .int 0, .int 0])), (h1, .inl (k0, 4, .inr (.inr (.inr (.inr (va_up (va_up (va_up (va_up (fun _ => none) 0 (some h2)) 1 (some h3)) 2 (some h4)) 3 (some h5))))))), (h2, .inr (6, [.ref z5, .int 0])), (h3, .inr (6, [.ref z6, .int 0])), (h4, .inr (6, [.ref z7, .int 0])), (h5, .inr (6, [.ref z8, .int 0]))]) hD hS hA [0, 1, 2, 3, 4, 5] rfl
  refine va_calli (va_runV (As := [.int i0]) (rest := [.ref h6]) ⟨hx, hb, hml, hown, hts⟩ (kx_X3_turn_s0 l dC dI h0 h1 h2 h3 h4 h5 z0 z1 z2 z3 z4 z5 z6 z7 z8 k0 s.heap.size i0 i0_l i0_u) (cwV 1 hts gL_turn_X3_turn rfl rfl rfl (by decide +kernel) ⟨Nat.le_of_ble_eq_true rfl, Nat.le_of_ble_eq_true rfl⟩) ⟨fun a U g mk q => by obtain ⟨q0, q1, qP, qK, qD⟩ := q; exact ⟨q0, q1, qP, va_K.moved (u := U) (U := U.calling g mk a) (Vm.Alike.refl U.vm) qK, qD⟩, va_recv hKc hPc (ci := 7) (q0 := 0) rfl rfl, fun U hU hW => ⟨rfl, by rw [hU], by rw [hU]; exact hPc, va_K.moved hW.alike hKc, hDc.weaken (fun _ _ _ _ => trivial)⟩⟩ rfl rfl hl.1 rfl (lv_room (Nat.le_of_ble_eq_true rfl)) dL_turn_3 ⟨Nat.le_of_ble_eq_true rfl, Nat.le_of_ble_eq_true rfl⟩) hS (fun q _ h => hFc q h) hFc (fun r9 u t H1 locs ht hvm hw hB hz1 hk1 hS => ?_)
  obtain rfl := hw
  obtain ⟨hP1, hK1, hD1⟩ := hB
  rw [ht] at hP1
  have hK1 := va_K.moved hvm.symm hK1
  obtain ⟨hP, hD⟩ := va_join (wr := [(h6, .inr (8, [.long 0, .null]))]) (w1 := [(h0, .inr (7, [.ref h1, .ref z0, .ref z1, .ref z2, .ref z3, .ref z4, .int 0, .int 0, .int 0])), (h1, .inl (k0, 4, .inr (.inr (.inr (.inr (va_up (va_up (va_up (va_up (fun _ => none) 0 (some h2)) 1 (some h3)) 2 (some h4)) 3 (some h5))))))), (h2, .inr (6, [.ref z5, .int 0])), (h3, .inr (6, [.ref z6, .int 0])), (h4, .inr (6, [.ref z7, .int 0])), (h5, .inr (6, [.ref z8, .int 0]))]) hP hD [0, 1, 2, 3, 4, 5] [6] rfl rfl (by decide) (by decide) hk1 hFc hP1 hD1
  generalize H1 = H at hP hS ⊢
  have hP : va_P (dC, dI) vwCl [(h6, .inr (8, [.long 0, .null])), (h0, .inr (7, [.ref h1, .ref z0, .ref z1, .ref z2, .ref z3, .ref z4, .int 0, .int 0, .int 0])), (h1, .inl (k0, 4, .inr (.inr (.inr (.inr (va_up (va_up (va_up (va_up (fun _ => none) 0 (some h2)) 1 (some h3)) 2 (some h4)) 3 (some h5))))))), (h2, .inr (6, [.ref z5, .int 0])), (h3, .inr (6, [.ref z6, .int 0])), (h4, .inr (6, [.ref z7, .int 0])), (h5, .inr (6, [.ref z8, .int 0]))] H := hP
  have hD : va_D A [(h6, .inr (8, [.long 0, .null])), (h0, .inr (7, [.ref h1, .ref z0, .ref z1, .ref z2, .ref z3, .ref z4, .int 0, .int 0, .int 0])), (h1, .inl (k0, 4, .inr (.inr (.inr (.inr (va_up (va_up (va_up (va_up (fun _ => none) 0 (some h2)) 1 (some h3)) 2 (some h4)) 3 (some h5))))))), (h2, .inr (6, [.ref z5, .int 0])), (h3, .inr (6, [.ref z6, .int 0])), (h4, .inr (6, [.ref z7, .int 0])), (h5, .inr (6, [.ref z8, .int 0]))] := hD
  refine lv_i2l (v := 0) hx hb dL_turn_6 (by decide) ?_
  refine va_putN (D := (dC, dI)) (ci := 8) (v := .long 0) (ty := .long) (C := RX4) (T := TX4) (N := 2) hx hb hts (by decide +kernel) tyX4 tyX4_ok nmX4 hown hK hP hD hS 0 rfl rfl 0 (by decide) (va_Nw.use rfl g_nf_RL_13) (fun _ h9 => h9) rfl (by decide +kernel) rfl rfl (Nat.le_of_ble_eq_true rfl) dL_turn_7 (fun H locs hP hD hS => ?_)
  have hP : va_P (dC, dI) vwCl [(h6, .inr (8, [.long 0, .null])), (h0, .inr (7, [.ref h1, .ref z0, .ref z1, .ref z2, .ref z3, .ref z4, .int 0, .int 0, .int 0])), (h1, .inl (k0, 4, .inr (.inr (.inr (.inr (va_up (va_up (va_up (va_up (fun _ => none) 0 (some h2)) 1 (some h3)) 2 (some h4)) 3 (some h5))))))), (h2, .inr (6, [.ref z5, .int 0])), (h3, .inr (6, [.ref z6, .int 0])), (h4, .inr (6, [.ref z7, .int 0])), (h5, .inr (6, [.ref z8, .int 0]))] H := hP
  have hD : va_D A [(h6, .inr (8, [.long 0, .null])), (h0, .inr (7, [.ref h1, .ref z0, .ref z1, .ref z2, .ref z3, .ref z4, .int 0, .int 0, .int 0])), (h1, .inl (k0, 4, .inr (.inr (.inr (.inr (va_up (va_up (va_up (va_up (fun _ => none) 0 (some h2)) 1 (some h3)) 2 (some h4)) 3 (some h5))))))), (h2, .inr (6, [.ref z5, .int 0])), (h3, .inr (6, [.ref z6, .int 0])), (h4, .inr (6, [.ref z7, .int 0])), (h5, .inr (6, [.ref z8, .int 0]))] := hD
  refine lv_goto (tgt := 16) hx hb dL_turn_10 (by decide) ?_
  refine lv_iconst (v := 0) hx hb dL_turn_16 (by decide) ?_
  have hP := hP.sub (ws' := [(h0, .inr (7, [.ref h1, .ref z0, .ref z1, .ref z2, .ref z3, .ref z4, .int 0, .int 0, .int 0])), (h1, .inl (k0, 4, .inr (.inr (.inr (.inr (va_up (va_up (va_up (va_up (fun _ => none) 0 (some h2)) 1 (some h3)) 2 (some h4)) 3 (some h5))))))), (h2, .inr (6, [.ref z5, .int 0])), (h3, .inr (6, [.ref z6, .int 0])), (h4, .inr (6, [.ref z7, .int 0])), (h5, .inr (6, [.ref z8, .int 0])), (h6, .inr (8, [.long 0, .null]))]) [1, 2, 3, 4, 5, 6, 0] rfl
  have hD := hD.sub (ws' := [(h0, .inr (7, [.ref h1, .ref z0, .ref z1, .ref z2, .ref z3, .ref z4, .int 0, .int 0, .int 0])), (h1, .inl (k0, 4, .inr (.inr (.inr (.inr (va_up (va_up (va_up (va_up (fun _ => none) 0 (some h2)) 1 (some h3)) 2 (some h4)) 3 (some h5))))))), (h2, .inr (6, [.ref z5, .int 0])), (h3, .inr (6, [.ref z6, .int 0])), (h4, .inr (6, [.ref z7, .int 0])), (h5, .inr (6, [.ref z8, .int 0])), (h6, .inr (8, [.long 0, .null]))]) [1, 2, 3, 4, 5, 6, 0] (by decide) rfl
  exact W.iret (v := 0) hx hb hr (fun t ht hW => ⟨⟨0, (), rfl, rfl, by rw [ht]; exact hP, va_K.moved hW.alike hK, hD⟩, hS.F ht⟩) hS.2.2 dL_turn_17
set_option maxHeartbeats 4000000 in
set_option maxRecDepth 100000 in
theorem kx_X5_turn_0 (l : Launch) (dC : Nat → ClassId) (dI : Nat → Nat → Nat) (ge5 gea gv5 gva gde gic gi0 : Nat) (h0 : Nat) (h1 : Nat) (z0 : Nat) (z1 : Nat) (k0 : ClassId) (sz : Nat) (i0 : Int32) (i0_l : (0 : Int) ≤ i0.toInt) (i0_u : i0.toInt ≤ (3 : Int)) : Met l yX5_turn wsX5_turn ({ frames := 2, cells := 0, slots := 0, locals := 42 }) (va_Pc [.ref h0, .int i0] (fun U => U.heap.size = sz ∧ va_P (dC, dI) vwCl [(h0, .inr (9, [.int 0, .ref h1, .ref z0, .ref z1, .int 0, .int 0, .int 0])), (h1, .inl (k0, 4, .inr (.inr (.inr (.inr (va_up (va_up (va_up (va_up (fun _ => none) 0 (some ge5)) 1 (some ge5)) 2 (some ge5)) 3 (some ge5)))))))] U.heap ∧ va_K (dC, dI) vwCl [(k0, .object "java/lang/String")] U ∧ va_D (fun _ => True) [(h0, .inr (9, [.int 0, .ref h1, .ref z0, .ref z1, .int 0, .int 0, .int 0])), (h1, .inl (k0, 4, .inr (.inr (.inr (.inr (va_up (va_up (va_up (va_up (fun _ => none) 0 (some ge5)) 1 (some ge5)) 2 (some ge5)) 3 (some ge5)))))))] ∧ gv ge5 gea gv5 gva gde gic gi0 (va_A [(h0, .inr (9, [.int 0, .ref h1, .ref z0, .ref z1, .int 0, .int 0, .int 0])), (h1, .inl (k0, 4, .inr (.inr (.inr (.inr (va_up (va_up (va_up (va_up (fun _ => none) 0 (some ge5)) 1 (some ge5)) 2 (some ge5)) 3 (some ge5)))))))] sz) U U.heap)) (va_Qi (fun (r : Int32) (_ : Unit) => r = 0) (fun (_ : Unit) (t : State) => va_P (dC, dI) vwCl [(h0, .inr (9, [.int 0, .ref h1, .ref z0, .ref z1, .int 0, .int 0, .int 0]))] t.heap ∧ va_K (dC, dI) vwCl [(k0, .object "java/lang/String")] t ∧ va_D (va_A [(h0, .inr (9, [.int 0, .ref h1, .ref z0, .ref z1, .int 0, .int 0, .int 0])), (h1, .inl (k0, 4, .inr (.inr (.inr (.inr (va_up (va_up (va_up (va_up (fun _ => none) 0 (some ge5)) 1 (some ge5)) 2 (some ge5)) 3 (some ge5)))))))] sz) [(h0, .inr (9, [.int 0, .ref h1, .ref z0, .ref z1, .int 0, .int 0, .int 0]))]) (va_A [(h0, .inr (9, [.int 0, .ref h1, .ref z0, .ref z1, .int 0, .int 0, .int 0])), (h1, .inl (k0, 4, .inr (.inr (.inr (.inr (va_up (va_up (va_up (va_up (fun _ => none) 0 (some ge5)) 1 (some ge5)) 2 (some ge5)) 3 (some ge5)))))))] sz)) 0 0 (va_A [(h0, .inr (9, [.int 0, .ref h1, .ref z0, .ref z1, .int 0, .int 0, .int 0])), (h1, .inl (k0, 4, .inr (.inr (.inr (.inr (va_up (va_up (va_up (va_up (fun _ => none) 0 (some ge5)) 1 (some ge5)) 2 (some ge5)) 3 (some ge5)))))))] sz) := by
  refine Met.ofW (cc := cX5_turn) (maxL := 4) (ret := (some .int)) (by decide) rfl ?_
  intro p e s m args below meth c s₁ B hml hv
  obtain ⟨rfl, hsz, hP, hK, hD0, hG⟩ := hv
  have hx := B.exec
  have hb := B.bytes
  have hr := B.returns
  have hts := atoms_spec (ws := wsX5_turn) B.pre
  have hown : s.vm.findClass RX5 = some m.cls := findClass_of_methodNamed B.named
  have hlocks := B.notSynchronized
  subst hsz
  have hD := hD0.self (sz := s.heap.size)
  generalize hAe : va_A [(h0, .inr (9, [.int 0, .ref h1, .ref z0, .ref z1, .int 0, .int 0, .int 0])), (h1, .inl (k0, 4, .inr (.inr (.inr (.inr (va_up (va_up (va_up (va_up (fun _ => none) 0 (some ge5)) 1 (some ge5)) 2 (some ge5)) 3 (some ge5)))))))] s.heap.size = A at hD hG ⊢
  obtain ⟨⟨g_AO_Text, g_AO_String, g_AO_Object, g_nm_RX1_20, g_nm_RX0_17, g_nm_RX3_31, g_nm_RX2_44, g_nm_RL_121, g_nf_RL_13, g_nf_RL_47, g_ca_IO, g_ca_IA, g_ca_IS, g_ca_IntObj, g_ca_StrObj, g_de_RT, g_de_EX, g_de_TH, g_nc_IA_IO, g_nc_IS_IO, g_nc_IS_IA⟩, ⟨g_s3, g_s5, g_sa, g_x278, g_x280, g_x282, g_x284, g_x286, g_x180, g_x238, g_x250⟩, ⟨g_o5, g_c5, g_v5, g_t5, g_oa, g_ca, g_va, g_ta, g_zc, g_zd, g_td, g_zf, g_zU, g_zN, g_zh, g_zk, g_tk, g_oi, g_vi⟩⟩ := id hG
  have hA : ∀ q : Nat, s.heap.size ≤ q → A q := fun q h => by rw [← hAe]; exact Or.inr h
  have hS : va_S A s.heap s.heap [] := va_S.rf
  have hP : va_P (dC, dI) vwCl [(h0, .inr (9, [.int 0, .ref h1, .ref z0, .ref z1, .int 0, .int 0, .int 0])), (h1, .inl (k0, 4, .inr (.inr (.inr (.inr (va_up (va_up (va_up (va_up (fun _ => none) 0 (some ge5)) 1 (some ge5)) 2 (some ge5)) 3 (some ge5)))))))] s.heap := hP
  have hl := lv_entry ([.ref h0, .int i0]) (n := 4) (Nat.le_of_ble_eq_true rfl)
  rw [lg_entry_eq]
  generalize (lg_sl ([.ref h0, .int i0]) ++ List.replicate (4 - (lg_sl ([.ref h0, .int i0])).length) Slot.unset).toArray = ls at hl ⊢
  have hl : lv_has ls 4 [(0, .ref h0), (1, .int i0)] := hl
  refine lv_aload_n hx hb dX5_turn_0 rfl (lv_at hl 0 rfl) ?_
  refine lv_iload_n hx hb dX5_turn_1 rfl (lv_at hl 1 rfl) ?_
  have hPc := hP.sub (ws' := []) [] rfl
  have hDc := hD.sub (ws' := []) [] (by decide) rfl
  have hKc := hK.sub (tys' := []) [] rfl
  have hFc := va_free (wc := []) hD hS hA [] rfl
  refine va_calli (va_runS (As := [.int i0]) (rest := [.ref h0]) ⟨hx, hb, hml, hown, hts⟩ (kx_X5_isNo_1 l dC dI s.heap.size i0 i0_l i0_u) (cwS 1 hts gX5_turn_X5_isNo rfl rfl rfl (by decide +kernel) ⟨Nat.le_of_ble_eq_true rfl, Nat.le_of_ble_eq_true rfl⟩) ⟨fun a U g mk q => by obtain ⟨q0, q1, qP, qK, qD⟩ := q; exact ⟨q0, q1, qP, va_K.moved (u := U) (U := U.calling g mk a) (Vm.Alike.refl U.vm) qK, qD⟩, fun U hU hW => ⟨rfl, by rw [hU], by rw [hU]; exact hPc, va_K.moved hW.alike hKc, hDc.weaken (fun _ _ _ _ => trivial)⟩⟩ rfl rfl hl.1 rfl (lv_room (Nat.le_of_ble_eq_true rfl)) dX5_turn_2 ⟨Nat.le_of_ble_eq_true rfl, Nat.le_of_ble_eq_true rfl⟩) hS (fun q _ h => hFc q h) hFc (fun r9 u t H1 locs ht hvm hw hB hz1 hk1 hS => ?_)
  obtain rfl := hw
  obtain ⟨hP1, hK1, hD1⟩ := hB
  rw [ht] at hP1
  have hK1 := va_K.moved hvm.symm hK1
  obtain ⟨hP, hD⟩ := va_join (wr := [(h0, .inr (9, [.int 0, .ref h1, .ref z0, .ref z1, .int 0, .int 0, .int 0])), (h1, .inl (k0, 4, .inr (.inr (.inr (.inr (va_up (va_up (va_up (va_up (fun _ => none) 0 (some ge5)) 1 (some ge5)) 2 (some ge5)) 3 (some ge5)))))))]) (w1 := []) hP hD [] [0, 1] rfl rfl (by decide) (by decide) hk1 hFc hP1 hD1
  generalize H1 = H at hP hS ⊢
  have hP : va_P (dC, dI) vwCl [(h0, .inr (9, [.int 0, .ref h1, .ref z0, .ref z1, .int 0, .int 0, .int 0])), (h1, .inl (k0, 4, .inr (.inr (.inr (.inr (va_up (va_up (va_up (va_up (fun _ => none) 0 (some ge5)) 1 (some ge5)) 2 (some ge5)) 3 (some ge5)))))))] H := hP
  have hD : va_D A [(h0, .inr (9, [.int 0, .ref h1, .ref z0, .ref z1, .int 0, .int 0, .int 0])), (h1, .inl (k0, 4, .inr (.inr (.inr (.inr (va_up (va_up (va_up (va_up (fun _ => none) 0 (some ge5)) 1 (some ge5)) 2 (some ge5)) 3 (some ge5)))))))] := hD
  refine lv_iconst (v := 0) hx hb dX5_turn_5 (by decide) ?_
  refine lv_iconst (v := 0) hx hb dX5_turn_6 (by decide) ?_
  have hPc := hP.sub (ws' := [(h0, .inr (9, [.int 0, .ref h1, .ref z0, .ref z1, .int 0, .int 0, .int 0]))]) [0] rfl
  have hDc := hD.sub (ws' := [(h0, .inr (9, [.int 0, .ref h1, .ref z0, .ref z1, .int 0, .int 0, .int 0]))]) [0] (by decide) rfl
  have hKc := hK.sub (tys' := []) [] rfl
  have hFc := va_free (wc := [(h0, .inr (9, [.int 0, .ref h1, .ref z0, .ref z1, .int 0, .int 0, .int 0]))]) hD hS hA [0] rfl
  refine va_calli (va_runV (As := [.int 0, .int 0, .int 0]) (rest := []) ⟨hx, hb, hml, hown, hts⟩ (kx_X5_fails_1 l dC dI h0 h1 z0 z1 H.size) (cwV 3 hts gX5_turn_X5_fails rfl rfl rfl (by decide +kernel) ⟨Nat.le_of_ble_eq_true rfl, Nat.le_of_ble_eq_true rfl⟩) ⟨fun a U g mk q => by obtain ⟨q0, q1, qP, qK, qD⟩ := q; exact ⟨q0, q1, qP, va_K.moved (u := U) (U := U.calling g mk a) (Vm.Alike.refl U.vm) qK, qD⟩, va_recv hKc hPc (ci := 9) (q0 := 0) rfl rfl, fun U hU hW => ⟨rfl, by rw [hU], by rw [hU]; exact hPc, va_K.moved hW.alike hKc, hDc.weaken (fun _ _ _ _ => trivial)⟩⟩ rfl rfl hl.1 rfl (lv_room (Nat.le_of_ble_eq_true rfl)) dX5_turn_7 ⟨Nat.le_of_ble_eq_true rfl, Nat.le_of_ble_eq_true rfl⟩) hS (fun q _ h => hFc q h) hFc (fun r9 u t H1 locs ht hvm hw hB hz1 hk1 hS => ?_)
  obtain rfl := hw
  obtain ⟨hP1, hK1, hD1⟩ := hB
  rw [ht] at hP1
  have hK1 := va_K.moved hvm.symm hK1
  obtain ⟨hP, hD⟩ := va_join (wr := [(h1, .inl (k0, 4, .inr (.inr (.inr (.inr (va_up (va_up (va_up (va_up (fun _ => none) 0 (some ge5)) 1 (some ge5)) 2 (some ge5)) 3 (some ge5)))))))]) (w1 := [(h0, .inr (9, [.int 0, .ref h1, .ref z0, .ref z1, .int 0, .int 0, .int 0]))]) hP hD [0] [1] rfl rfl (by decide) (by decide) hk1 hFc hP1 hD1
  generalize H1 = H at hP hS ⊢
  have hP : va_P (dC, dI) vwCl [(h1, .inl (k0, 4, .inr (.inr (.inr (.inr (va_up (va_up (va_up (va_up (fun _ => none) 0 (some ge5)) 1 (some ge5)) 2 (some ge5)) 3 (some ge5))))))), (h0, .inr (9, [.int 0, .ref h1, .ref z0, .ref z1, .int 0, .int 0, .int 0]))] H := hP
  have hD : va_D A [(h1, .inl (k0, 4, .inr (.inr (.inr (.inr (va_up (va_up (va_up (va_up (fun _ => none) 0 (some ge5)) 1 (some ge5)) 2 (some ge5)) 3 (some ge5))))))), (h0, .inr (9, [.int 0, .ref h1, .ref z0, .ref z1, .int 0, .int 0, .int 0]))] := hD
  refine lv_if_eq (tgt := 15) hx hb dX5_turn_10 (by decide) (fun _ => ?_) (fun c9 => absurd (by decide) c9)
  refine va_ldcS hx hb hown g_s5 dX5_turn_15 ?_
  refine lv_astore_n (lv' := [(2, .ref ge5), (0, .ref h0), (1, .int i0)]) hx hb dX5_turn_17 rfl hl (by decide) rfl (fun ls hl => ?_)
  refine lv_iconst (v := 0) hx hb dX5_turn_18 (by decide) ?_
  refine lv_istore_n (lv' := [(3, .int 0), (2, .ref ge5), (0, .ref h0), (1, .int i0)]) hx hb dX5_turn_19 rfl hl (by decide) rfl (fun ls hl => ?_)
  refine lv_iload_n hx hb dX5_turn_20 rfl (lv_at hl 0 rfl) ?_
  refine lv_aload_n hx hb dX5_turn_21 rfl (lv_at hl 2 rfl) ?_
  refine va_get (D := (dC, dI)) (ci := 9) (v := .ref h1) (C := RX5) (T := TX5) (N := 7) hx hb hts (by decide +kernel) hown hK hP 1 rfl rfl 1 (by decide) (hts (.fieldLink RX5 11 "RewriteropeModel" "ropes" "[Ljava/lang/String;") (by decide +kernel)) (fun _ h9 => h9) rfl dX5_turn_22 ?_
  refine lv_iload_n hx hb dX5_turn_25 rfl (lv_at hl 3 rfl) ?_
  refine va_aldq (D := (dC, dI)) hx hb hK hP 0 0 rfl rfl (kz_in4 i0_l i0_u) dX5_turn_26 ?_
  rw [show (va_up (va_up (va_up (va_up (fun _ => none) 0 (some ge5)) 1 (some ge5)) 2 (some ge5)) 3 (some ge5)) i0.toNatClampNeg = some ge5 from (kz_ix4 (P := fun z => (va_up (va_up (va_up (va_up (fun _ => none) 0 (some ge5)) 1 (some ge5)) 2 (some ge5)) 3 (some ge5)) z.toNatClampNeg = some ge5) rfl rfl rfl rfl i0_l i0_u)]
  refine W.eq (g2 := F0 m 27 ls [.ref ge5, .int 0]) rfl ?_
  have hPc := hP.sub (ws' := []) [] rfl
  have hDc := hD.sub (ws' := []) [] (by decide) rfl
  have hKc := hK.sub (tys' := []) [] rfl
  have hFc := va_free (wc := []) hD hS hA [] rfl
  refine va_calli (va_runV (As := []) (rest := [.int 0]) ⟨hx, hb, hml, hown, hts⟩ (kx_J0_length_8abf5_0 l dC dI ge5 gea gv5 gva gde gic gi0 H.size) (cwV 0 hts gX5_turn_J0_length_8abf5 rfl rfl rfl (by decide +kernel) ⟨Nat.le_of_ble_eq_true rfl, Nat.le_of_ble_eq_true rfl⟩) ⟨fun a U g mk q => by obtain ⟨q0, q1, qP, qK, qD, qG⟩ := q; exact ⟨q0, q1, qP, va_K.moved (u := U) (U := U.calling g mk a) (Vm.Alike.refl U.vm) qK, qD, gv.fb qG⟩, (by obtain ⟨cell, k1, k2, k3, -⟩ := g_o5.kept hS.2.1; exact ⟨cell, k1, k2, k3⟩), fun U hU hW => ⟨rfl, by rw [hU], by rw [hU]; exact hPc, va_K.moved hW.alike hKc, hDc.weaken (fun _ _ _ _ => trivial), gv.pass hW hU hS hFc hG⟩⟩ rfl rfl hl.1 rfl (lv_room (Nat.le_of_ble_eq_true rfl)) dX5_turn_27 ⟨Nat.le_of_ble_eq_true rfl, Nat.le_of_ble_eq_true rfl⟩) hS (fun q _ h => hFc q h) hFc (fun r9 u t H1 locs ht hvm hw hB hz1 hk1 hS => ?_)
  obtain rfl := hw
  obtain ⟨hP1, hK1, hD1⟩ := hB
  rw [ht] at hP1
  have hK1 := va_K.moved hvm.symm hK1
  obtain ⟨hP, hD⟩ := va_join (wr := [(h1, .inl (k0, 4, .inr (.inr (.inr (.inr (va_up (va_up (va_up (va_up (fun _ => none) 0 (some ge5)) 1 (some ge5)) 2 (some ge5)) 3 (some ge5))))))), (h0, .inr (9, [.int 0, .ref h1, .ref z0, .ref z1, .int 0, .int 0, .int 0]))]) (w1 := []) hP hD [] [0, 1] rfl rfl (by decide) (by decide) hk1 hFc hP1 hD1
  generalize H1 = H at hP hS ⊢
  have hP : va_P (dC, dI) vwCl [(h1, .inl (k0, 4, .inr (.inr (.inr (.inr (va_up (va_up (va_up (va_up (fun _ => none) 0 (some ge5)) 1 (some ge5)) 2 (some ge5)) 3 (some ge5))))))), (h0, .inr (9, [.int 0, .ref h1, .ref z0, .ref z1, .int 0, .int 0, .int 0]))] H := hP
  have hD : va_D A [(h1, .inl (k0, 4, .inr (.inr (.inr (.inr (va_up (va_up (va_up (va_up (fun _ => none) 0 (some ge5)) 1 (some ge5)) 2 (some ge5)) 3 (some ge5))))))), (h0, .inr (9, [.int 0, .ref h1, .ref z0, .ref z1, .int 0, .int 0, .int 0]))] := hD
  refine lv_icmp_ge (tgt := 67) hx hb dX5_turn_30 (by decide) (fun _ => ?_) (fun c9 => absurd (by decide) c9)
  refine lv_aload_n hx hb dX5_turn_67 rfl (lv_at hl 2 rfl) ?_
  refine va_get (D := (dC, dI)) (ci := 9) (v := .ref h1) (C := RX5) (T := TX5) (N := 7) hx hb hts (by decide +kernel) hown hK hP 1 rfl rfl 1 (by decide) (hts (.fieldLink RX5 11 "RewriteropeModel" "ropes" "[Ljava/lang/String;") (by decide +kernel)) (fun _ h9 => h9) rfl dX5_turn_68 ?_
  refine lv_iload_n hx hb dX5_turn_71 rfl (lv_at hl 3 rfl) ?_
  refine lv_aload_n hx hb dX5_turn_72 rfl (lv_at hl 1 rfl) ?_
  refine vb_astq (D := (dC, dI)) (C := "java/lang/String") hx hb hK hP hD hS 0 0 rfl rfl (by obtain ⟨cell, k1, k2, k3, -⟩ := g_o5.kept hS.2.1; exact ⟨cell, k1, k2, k3⟩) vb_asgS (kz_in4 i0_l i0_u) dX5_turn_73 (fun H locs hP hD hS => ?_)
  rw [kz_up (f := (va_up (va_up (va_up (va_up (fun _ => none) 0 (some ge5)) 1 (some ge5)) 2 (some ge5)) 3 (some ge5))) (k := i0.toNatClampNeg) (v := some ge5) (kz_ix4 (P := fun z => (va_up (va_up (va_up (va_up (fun _ => none) 0 (some ge5)) 1 (some ge5)) 2 (some ge5)) 3 (some ge5)) z.toNatClampNeg = some ge5) rfl rfl rfl rfl i0_l i0_u)] at hP hD
  have hP : va_P (dC, dI) vwCl [(h1, .inl (k0, 4, .inr (.inr (.inr (.inr (va_up (va_up (va_up (va_up (fun _ => none) 0 (some ge5)) 1 (some ge5)) 2 (some ge5)) 3 (some ge5))))))), (h0, .inr (9, [.int 0, .ref h1, .ref z0, .ref z1, .int 0, .int 0, .int 0]))] H := hP
  have hD : va_D A [(h1, .inl (k0, 4, .inr (.inr (.inr (.inr (va_up (va_up (va_up (va_up (fun _ => none) 0 (some ge5)) 1 (some ge5)) 2 (some ge5)) 3 (some ge5))))))), (h0, .inr (9, [.int 0, .ref h1, .ref z0, .ref z1, .int 0, .int 0, .int 0]))] := hD
  refine lv_aload_n hx hb dX5_turn_74 rfl (lv_at hl 1 rfl) ?_
  have hPc := hP.sub (ws' := []) [] rfl
  have hDc := hD.sub (ws' := []) [] (by decide) rfl
  have hKc := hK.sub (tys' := []) [] rfl
  have hFc := va_free (wc := []) hD hS hA [] rfl
  refine va_calli (va_runV (As := []) (rest := []) ⟨hx, hb, hml, hown, hts⟩ (kx_J0_length_8abf5_0 l dC dI ge5 gea gv5 gva gde gic gi0 H.size) (cwV 0 hts gX5_turn_J0_length_8abf5 rfl rfl rfl (by decide +kernel) ⟨Nat.le_of_ble_eq_true rfl, Nat.le_of_ble_eq_true rfl⟩) ⟨fun a U g mk q => by obtain ⟨q0, q1, qP, qK, qD, qG⟩ := q; exact ⟨q0, q1, qP, va_K.moved (u := U) (U := U.calling g mk a) (Vm.Alike.refl U.vm) qK, qD, gv.fb qG⟩, (by obtain ⟨cell, k1, k2, k3, -⟩ := g_o5.kept hS.2.1; exact ⟨cell, k1, k2, k3⟩), fun U hU hW => ⟨rfl, by rw [hU], by rw [hU]; exact hPc, va_K.moved hW.alike hKc, hDc.weaken (fun _ _ _ _ => trivial), gv.pass hW hU hS hFc hG⟩⟩ rfl rfl hl.1 rfl (lv_room (Nat.le_of_ble_eq_true rfl)) dX5_turn_75 ⟨Nat.le_of_ble_eq_true rfl, Nat.le_of_ble_eq_true rfl⟩) hS (fun q _ h => hFc q h) hFc (fun r9 u t H1 locs ht hvm hw hB hz1 hk1 hS => ?_)
  obtain rfl := hw
  obtain ⟨hP1, hK1, hD1⟩ := hB
  rw [ht] at hP1
  have hK1 := va_K.moved hvm.symm hK1
  obtain ⟨hP, hD⟩ := va_join (wr := [(h1, .inl (k0, 4, .inr (.inr (.inr (.inr (va_up (va_up (va_up (va_up (fun _ => none) 0 (some ge5)) 1 (some ge5)) 2 (some ge5)) 3 (some ge5))))))), (h0, .inr (9, [.int 0, .ref h1, .ref z0, .ref z1, .int 0, .int 0, .int 0]))]) (w1 := []) hP hD [] [0, 1] rfl rfl (by decide) (by decide) hk1 hFc hP1 hD1
  generalize H1 = H at hP hS ⊢
  have hP : va_P (dC, dI) vwCl [(h1, .inl (k0, 4, .inr (.inr (.inr (.inr (va_up (va_up (va_up (va_up (fun _ => none) 0 (some ge5)) 1 (some ge5)) 2 (some ge5)) 3 (some ge5))))))), (h0, .inr (9, [.int 0, .ref h1, .ref z0, .ref z1, .int 0, .int 0, .int 0]))] H := hP
  have hD : va_D A [(h1, .inl (k0, 4, .inr (.inr (.inr (.inr (va_up (va_up (va_up (va_up (fun _ => none) 0 (some ge5)) 1 (some ge5)) 2 (some ge5)) 3 (some ge5))))))), (h0, .inr (9, [.int 0, .ref h1, .ref z0, .ref z1, .int 0, .int 0, .int 0]))] := hD
  have hP := hP.sub (ws' := [(h0, .inr (9, [.int 0, .ref h1, .ref z0, .ref z1, .int 0, .int 0, .int 0])), (h1, .inl (k0, 4, .inr (.inr (.inr (.inr (va_up (va_up (va_up (va_up (fun _ => none) 0 (some ge5)) 1 (some ge5)) 2 (some ge5)) 3 (some ge5)))))))]) [1, 0] rfl
  have hD := hD.sub (ws' := [(h0, .inr (9, [.int 0, .ref h1, .ref z0, .ref z1, .int 0, .int 0, .int 0])), (h1, .inl (k0, 4, .inr (.inr (.inr (.inr (va_up (va_up (va_up (va_up (fun _ => none) 0 (some ge5)) 1 (some ge5)) 2 (some ge5)) 3 (some ge5)))))))]) [1, 0] (by decide) rfl
  have hP := hP.sub (ws' := [(h0, .inr (9, [.int 0, .ref h1, .ref z0, .ref z1, .int 0, .int 0, .int 0]))]) [0] rfl
  have hD := hD.sub (ws' := [(h0, .inr (9, [.int 0, .ref h1, .ref z0, .ref z1, .int 0, .int 0, .int 0]))]) [0] (by decide) rfl
  exact W.iret (v := 0) hx hb hr (fun t ht hW => ⟨⟨0, (), rfl, rfl, by rw [ht]; exact hP, va_K.moved hW.alike hK, hD⟩, hS.F ht⟩) hS.2.2 dX5_turn_78
set_option maxHeartbeats 4000000 in
set_option maxRecDepth 100000 in
theorem kx_X3_turn_4 (l : Launch) (hst : l.stackTraces = false) (dC : Nat → ClassId) (dI : Nat → Nat → Nat) (ge5 gea gv5 gva gde gic gi0 : Nat) (h0 : Nat) (z0 : Nat) (z1 : Nat) (z2 : Nat) (z3 : Nat) (z4 : Nat) (z5 : Nat) (sz : Nat) (i0 : Int32) (i0_l : ((-2147483648) : Int) ≤ i0.toInt) (i0_u : i0.toInt ≤ ((-1) : Int)) : vx_Met l yX3_turn wsX3_turn ({ frames := 7, cells := 1, slots := 6, locals := 140 }) (va_Pc [.ref h0, .int i0] (fun U => U.heap.size = sz ∧ va_P (dC, dI) vwCl [(h0, .inr (7, [.ref z0, .ref z1, .ref z2, .ref z3, .ref z4, .ref z5, .int 0, .int 0, .int 0]))] U.heap ∧ va_K (dC, dI) vwCl [] U ∧ va_D (fun _ => True) [(h0, .inr (7, [.ref z0, .ref z1, .ref z2, .ref z3, .ref z4, .ref z5, .int 0, .int 0, .int 0]))] ∧ gv ge5 gea gv5 gva gde gic gi0 (va_A [(h0, .inr (7, [.ref z0, .ref z1, .ref z2, .ref z3, .ref z4, .ref z5, .int 0, .int 0, .int 0]))] sz) U U.heap)) (va_Qi (fun (_ : Int32) (_ : Unit) => False) (fun _ _ => True) (va_A [(h0, .inr (7, [.ref z0, .ref z1, .ref z2, .ref z3, .ref z4, .ref z5, .int 0, .int 0, .int 0]))] sz)) (vx_X (fun _ : Unit => True) (fun (E : String) (_ : Unit) (t : State) => E = "java/lang/IndexOutOfBoundsException" ∧ va_P (dC, dI) vwCl [(h0, .inr (7, [.ref z0, .ref z1, .ref z2, .ref z3, .ref z4, .ref z5, .int 0, .int 0, .int 0]))] t.heap ∧ va_K (dC, dI) vwCl [] t ∧ va_D (va_A [(h0, .inr (7, [.ref z0, .ref z1, .ref z2, .ref z3, .ref z4, .ref z5, .int 0, .int 0, .int 0]))] sz) [(h0, .inr (7, [.ref z0, .ref z1, .ref z2, .ref z3, .ref z4, .ref z5, .int 0, .int 0, .int 0]))]) (va_A [(h0, .inr (7, [.ref z0, .ref z1, .ref z2, .ref z3, .ref z4, .ref z5, .int 0, .int 0, .int 0]))] sz)) 1 6 (va_A [(h0, .inr (7, [.ref z0, .ref z1, .ref z2, .ref z3, .ref z4, .ref z5, .int 0, .int 0, .int 0]))] sz) := by
  refine vx_ofW (cc := cX3_turn) (maxL := 2) (ret := (some .int)) (by decide) rfl ?_
  intro p e s m args below meth c s₁ B hml ht9 hv
  obtain ⟨rfl, hsz, hP, hK, hD0, hG⟩ := hv
  have hx := B.exec
  have hb := B.bytes
  have hr := B.returns
  have hts := atoms_spec (ws := wsX3_turn) B.pre
  have hown : s.vm.findClass RX3 = some m.cls := findClass_of_methodNamed B.named
  have hlocks := B.notSynchronized
  subst hsz
  have hD := hD0.self (sz := s.heap.size)
  generalize hAe : va_A [(h0, .inr (7, [.ref z0, .ref z1, .ref z2, .ref z3, .ref z4, .ref z5, .int 0, .int 0, .int 0]))] s.heap.size = A at hD hG ⊢
  obtain ⟨⟨g_AO_Text, g_AO_String, g_AO_Object, g_nm_RX1_20, g_nm_RX0_17, g_nm_RX3_31, g_nm_RX2_44, g_nm_RL_121, g_nf_RL_13, g_nf_RL_47, g_ca_IO, g_ca_IA, g_ca_IS, g_ca_IntObj, g_ca_StrObj, g_de_RT, g_de_EX, g_de_TH, g_nc_IA_IO, g_nc_IS_IO, g_nc_IS_IA⟩, ⟨g_s3, g_s5, g_sa, g_x278, g_x280, g_x282, g_x284, g_x286, g_x180, g_x238, g_x250⟩, ⟨g_o5, g_c5, g_v5, g_t5, g_oa, g_ca, g_va, g_ta, g_zc, g_zd, g_td, g_zf, g_zU, g_zN, g_zh, g_zk, g_tk, g_oi, g_vi⟩⟩ := id hG
  have hA : ∀ q : Nat, s.heap.size ≤ q → A q := fun q h => by rw [← hAe]; exact Or.inr h
  have hS : va_S A s.heap s.heap [] := va_S.rf
  have hP : va_P (dC, dI) vwCl [(h0, .inr (7, [.ref z0, .ref z1, .ref z2, .ref z3, .ref z4, .ref z5, .int 0, .int 0, .int 0]))] s.heap := hP
  have hl := lv_entry ([.ref h0, .int i0]) (n := 2) (Nat.le_of_ble_eq_true rfl)
  rw [lg_entry_eq]
  generalize (lg_sl ([.ref h0, .int i0]) ++ List.replicate (2 - (lg_sl ([.ref h0, .int i0])).length) Slot.unset).toArray = ls at hl ⊢
  have hl : lv_has ls 2 [(0, .ref h0), (1, .int i0)] := hl
  refine lv_iload_n hx hb dX3_turn_0 rfl (lv_at hl 1 rfl) ?_
  have hPc := hP.sub (ws' := []) [] rfl
  have hDc := hD.sub (ws' := []) [] (by decide) rfl
  have hKc := hK.sub (tys' := []) [] rfl
  have hFc := va_free (wc := []) hD hS hA [] rfl
  refine vx_callv (vx_runS (As := [.int i0]) (rest := []) ⟨hx, hb, hml, hown, hts⟩ (kx_X3_needRope_5 l hst dC dI ge5 gea gv5 gva gde gic gi0 s.heap.size i0 i0_l i0_u) (cwS 1 hts gX3_turn_X3_needRope rfl rfl rfl (by decide +kernel) ⟨Nat.le_of_ble_eq_true rfl, Nat.le_of_ble_eq_true rfl⟩) ⟨fun a U g mk q => by obtain ⟨q0, q1, qP, qK, qD, qG⟩ := q; exact ⟨q0, q1, qP, va_K.moved (u := U) (U := U.calling g mk a) (Vm.Alike.refl U.vm) qK, qD, gv.fb qG⟩, fun U hU hW => ⟨rfl, by rw [hU], by rw [hU]; exact hPc, va_K.moved hW.alike hKc, hDc.weaken (fun _ _ _ _ => trivial), gv.pass hW hU hS hFc hG⟩⟩ rfl rfl hl.1 rfl (lv_room (Nat.le_of_ble_eq_true rfl)) dX3_turn_1 ⟨Nat.le_of_ble_eq_true rfl, Nat.le_of_ble_eq_true rfl⟩) hS (fun q _ h => hFc q h) hFc (fun q _ h => hFc q h) (fun E ce q9 u t H1 locs ht hvm hpx hB hz1 hk1 hS hce hcv hcl => ?_) (fun u t H1 locs ht hvm hw hB hz1 hk1 hS => hw.elim)
  obtain ⟨rfl, hP1, hK1, hD1⟩ := hB
  rw [ht] at hP1
  have hK1 := va_K.moved hvm.symm hK1
  obtain ⟨hP, hD⟩ := va_join (wr := [(h0, .inr (7, [.ref z0, .ref z1, .ref z2, .ref z3, .ref z4, .ref z5, .int 0, .int 0, .int 0]))]) (w1 := []) hP hD [] [0] rfl rfl (by decide) (by decide) hk1 hFc hP1 hD1
  generalize H1 = H at hP hS hce ⊢
  have hP : va_P (dC, dI) vwCl [(h0, .inr (7, [.ref z0, .ref z1, .ref z2, .ref z3, .ref z4, .ref z5, .int 0, .int 0, .int 0]))] H := hP
  have hD : va_D A [(h0, .inr (7, [.ref z0, .ref z1, .ref z2, .ref z3, .ref z4, .ref z5, .int 0, .int 0, .int 0]))] := hD
  exact vx_out (fun x hx9 => (ht9 x hx9).elim) hlocks hce hcv hcl (fun t ht hW => ⟨(), trivial, ⟨rfl, by rw [ht]; exact hP, va_K.moved hW hK, hD⟩, hS.F ht⟩) hS.2.2 (by omega) (by omega)
set_option maxHeartbeats 4000000 in
set_option maxRecDepth 100000 in
theorem kx_L_turn_1 (l : Launch) (hst : l.stackTraces = false) (dC : Nat → ClassId) (dI : Nat → Nat → Nat) (ge5 gea gv5 gva gde gic gi0 : Nat) (h0 : Nat) (z0 : Nat) (z1 : Nat) (z2 : Nat) (z3 : Nat) (z4 : Nat) (z5 : Nat) (z6 : Nat) (sz : Nat) (i0 : Int32) (i0_l : ((-2147483648) : Int) ≤ i0.toInt) (i0_u : i0.toInt ≤ ((-1) : Int)) : Met l yL_turn wsL_turn ({ frames := 8, cells := 1, slots := 6, locals := 161 }) (va_Pc [.ref h0, .int i0, .ref z0] (fun U => U.heap.size = sz ∧ va_P (dC, dI) vwCl [(h0, .inr (7, [.ref z1, .ref z2, .ref z3, .ref z4, .ref z5, .ref z6, .int 0, .int 0, .int 0]))] U.heap ∧ va_K (dC, dI) vwCl [] U ∧ va_D (fun _ => True) [(h0, .inr (7, [.ref z1, .ref z2, .ref z3, .ref z4, .ref z5, .ref z6, .int 0, .int 0, .int 0]))] ∧ gv ge5 gea gv5 gva gde gic gi0 (va_A [(h0, .inr (7, [.ref z1, .ref z2, .ref z3, .ref z4, .ref z5, .ref z6, .int 0, .int 0, .int 0]))] sz) U U.heap)) (va_Qi (fun (r : Int32) (_ : Unit) => r = 1) (fun (_ : Unit) (t : State) => va_P (dC, dI) vwCl [(h0, .inr (7, [.ref z1, .ref z2, .ref z3, .ref z4, .ref z5, .ref z6, .int 0, .int 0, .int 0]))] t.heap ∧ va_K (dC, dI) vwCl [] t ∧ va_D (va_A [(h0, .inr (7, [.ref z1, .ref z2, .ref z3, .ref z4, .ref z5, .ref z6, .int 0, .int 0, .int 0]))] sz) [(h0, .inr (7, [.ref z1, .ref z2, .ref z3, .ref z4, .ref z5, .ref z6, .int 0, .int 0, .int 0]))]) (va_A [(h0, .inr (7, [.ref z1, .ref z2, .ref z3, .ref z4, .ref z5, .ref z6, .int 0, .int 0, .int 0]))] sz)) 1 6 (va_A [(h0, .inr (7, [.ref z1, .ref z2, .ref z3, .ref z4, .ref z5, .ref z6, .int 0, .int 0, .int 0]))] sz) := by
  refine kz_ofWH (cc := cL_turn) (maxL := 4) (ret := (some .int)) (hh := [(0, 10, 13, 19)]) (by decide) rfl ?_
  intro p e s m args below meth c s₁ B hml hv
  obtain ⟨rfl, hsz, hP, hK, hD0, hG⟩ := hv
  have hx := B.exec
  have hb := B.bytes
  have hr := B.returns
  have hts := atoms_spec (ws := wsL_turn) B.pre
  have hown : s.vm.findClass RL = some m.cls := findClass_of_methodNamed B.named
  have htab := vx_table (x := yL_turn) B (hts (.codeWith yL_turn cL_turn 4 (some .int) [(0, 10, 13, 19)]) (by decide +kernel))
  have hlocks := B.notSynchronized
  subst hsz
  have hD := hD0.self (sz := s.heap.size)
  generalize hAe : va_A [(h0, .inr (7, [.ref z1, .ref z2, .ref z3, .ref z4, .ref z5, .ref z6, .int 0, .int 0, .int 0]))] s.heap.size = A at hD hG ⊢
  obtain ⟨⟨g_AO_Text, g_AO_String, g_AO_Object, g_nm_RX1_20, g_nm_RX0_17, g_nm_RX3_31, g_nm_RX2_44, g_nm_RL_121, g_nf_RL_13, g_nf_RL_47, g_ca_IO, g_ca_IA, g_ca_IS, g_ca_IntObj, g_ca_StrObj, g_de_RT, g_de_EX, g_de_TH, g_nc_IA_IO, g_nc_IS_IO, g_nc_IS_IA⟩, ⟨g_s3, g_s5, g_sa, g_x278, g_x280, g_x282, g_x284, g_x286, g_x180, g_x238, g_x250⟩, ⟨g_o5, g_c5, g_v5, g_t5, g_oa, g_ca, g_va, g_ta, g_zc, g_zd, g_td, g_zf, g_zU, g_zN, g_zh, g_zk, g_tk, g_oi, g_vi⟩⟩ := id hG
  have hA : ∀ q : Nat, s.heap.size ≤ q → A q := fun q h => by rw [← hAe]; exact Or.inr h
  have hS : va_S A s.heap s.heap [] := va_S.rf
  have hP : va_P (dC, dI) vwCl [(h0, .inr (7, [.ref z1, .ref z2, .ref z3, .ref z4, .ref z5, .ref z6, .int 0, .int 0, .int 0]))] s.heap := hP
  have hl := lv_entry ([.ref h0, .int i0, .ref z0]) (n := 4) (Nat.le_of_ble_eq_true rfl)
  rw [lg_entry_eq]
  generalize (lg_sl ([.ref h0, .int i0, .ref z0]) ++ List.replicate (4 - (lg_sl ([.ref h0, .int i0, .ref z0])).length) Slot.unset).toArray = ls at hl ⊢
  have hl : lv_has ls 4 [(0, .ref h0), (1, .int i0), (2, .ref z0)] := hl
  refine lv_aload_n hx hb dL_turn_0 rfl (lv_at hl 2 rfl) ?_
  refine lv_aload_n hx hb dL_turn_1 rfl (lv_at hl 0 rfl) ?_
  refine lv_iload_n hx hb dL_turn_2 rfl (lv_at hl 1 rfl) ?_
  have hPc := hP.sub (ws' := [(h0, .inr (7, [.ref z1, .ref z2, .ref z3, .ref z4, .ref z5, .ref z6, .int 0, .int 0, .int 0]))]) [0] rfl
  have hDc := hD.sub (ws' := [(h0, .inr (7, [.ref z1, .ref z2, .ref z3, .ref z4, .ref z5, .ref z6, .int 0, .int 0, .int 0]))]) [0] (by decide) rfl
  have hKc := hK.sub (tys' := []) [] rfl
  have hFc := va_free (wc := [(h0, .inr (7, [.ref z1, .ref z2, .ref z3, .ref z4, .ref z5, .ref z6, .int 0, .int 0, .int 0]))]) hD hS hA [0] rfl
  refine vx_calli (vx_runV (As := [.int i0]) (rest := [.ref z0]) ⟨hx, hb, hml, hown, hts⟩ (kx_X3_turn_4 l hst dC dI ge5 gea gv5 gva gde gic gi0 h0 z1 z2 z3 z4 z5 z6 s.heap.size i0 i0_l i0_u) (cwV 1 hts gL_turn_X3_turn rfl rfl rfl (by decide +kernel) ⟨Nat.le_of_ble_eq_true rfl, Nat.le_of_ble_eq_true rfl⟩) ⟨fun a U g mk q => by obtain ⟨q0, q1, qP, qK, qD, qG⟩ := q; exact ⟨q0, q1, qP, va_K.moved (u := U) (U := U.calling g mk a) (Vm.Alike.refl U.vm) qK, qD, gv.fb qG⟩, va_recv hKc hPc (ci := 7) (q0 := 0) rfl rfl, fun U hU hW => ⟨rfl, by rw [hU], by rw [hU]; exact hPc, va_K.moved hW.alike hKc, hDc.weaken (fun _ _ _ _ => trivial), gv.pass hW hU hS hFc hG⟩⟩ rfl rfl hl.1 rfl (lv_room (Nat.le_of_ble_eq_true rfl)) dL_turn_3 ⟨Nat.le_of_ble_eq_true rfl, Nat.le_of_ble_eq_true rfl⟩) hS (fun q _ h => hFc q h) hFc (fun q _ h => hFc q h) (fun E ce q9 u t H1 locs ht hvm hpx hB hz1 hk1 hS hce hcv hcl => ?_) (fun r9 u t H1 locs ht hvm hw hB hz1 hk1 hS => hw.elim)
  obtain ⟨rfl, hP1, hK1, hD1⟩ := hB
  rw [ht] at hP1
  have hK1 := va_K.moved hvm.symm hK1
  obtain ⟨hP, hD⟩ := va_join (wr := []) (w1 := [(h0, .inr (7, [.ref z1, .ref z2, .ref z3, .ref z4, .ref z5, .ref z6, .int 0, .int 0, .int 0]))]) hP hD [0] [] rfl rfl (by decide) (by decide) hk1 hFc hP1 hD1
  generalize H1 = H at hP hS hce ⊢
  have hP : va_P (dC, dI) vwCl [(h0, .inr (7, [.ref z1, .ref z2, .ref z3, .ref z4, .ref z5, .ref z6, .int 0, .int 0, .int 0]))] H := hP
  have hD : va_D A [(h0, .inr (7, [.ref z1, .ref z2, .ref z3, .ref z4, .ref z5, .ref z6, .int 0, .int 0, .int 0]))] := hD
  refine vx_catch (own := RL) (name := "java/lang/IndexOutOfBoundsException") hown (tableOf []) ⟨0, 10, 13, 19⟩ (tableOf []) (by rw [htab]; rfl) (fun z hz => nomatch hz) (by decide +kernel) (by decide) (hts (.classLink RL 19 "java/lang/IndexOutOfBoundsException") (by decide +kernel)) (va_Nw.use rfl g_ca_IO) hce hcv hcl ?_
  refine W.eq (g2 := F0 m 13 ls [.ref q9]) rfl ?_
  refine lv_astore_n (lv' := [(3, .ref q9), (0, .ref h0), (1, .int i0), (2, .ref z0)]) hx hb dL_turn_13 rfl hl (by decide) rfl (fun ls hl => ?_)
  refine lv_iconst (v := 1) hx hb dL_turn_14 (by decide) ?_
  exact W.iret (v := 1) hx hb hr (fun t ht hW => ⟨⟨1, (), rfl, rfl, by rw [ht]; exact hP, va_K.moved hW.alike hK, hD⟩, hS.F ht⟩) hS.2.2 dL_turn_15
set_option maxHeartbeats 4000000 in
set_option maxRecDepth 100000 in
theorem kx_X5_turn_1 (l : Launch) (dC : Nat → ClassId) (dI : Nat → Nat → Nat) (h0 : Nat) (z0 : Nat) (z1 : Nat) (z2 : Nat) (sz : Nat) (i0 : Int32) (i0_l : ((-2147483648) : Int) ≤ i0.toInt) (i0_u : i0.toInt ≤ ((-1) : Int)) : Met l yX5_turn wsX5_turn ({ frames := 2, cells := 0, slots := 0, locals := 42 }) (va_Pc [.ref h0, .int i0] (fun U => U.heap.size = sz ∧ va_P (dC, dI) vwCl [(h0, .inr (9, [.int 0, .ref z0, .ref z1, .ref z2, .int 0, .int 0, .int 0]))] U.heap ∧ va_K (dC, dI) vwCl [] U ∧ va_D (fun _ => True) [(h0, .inr (9, [.int 0, .ref z0, .ref z1, .ref z2, .int 0, .int 0, .int 0]))])) (va_Qi (fun (r : Int32) (_ : Unit) => r = 0) (fun (_ : Unit) (t : State) => va_P (dC, dI) vwCl [(h0, .inr (9, [.int 1, .ref z0, .ref z1, .ref z2, .int 0, .int 0, .int 0]))] t.heap ∧ va_K (dC, dI) vwCl [] t ∧ va_D (va_A [(h0, .inr (9, [.int 0, .ref z0, .ref z1, .ref z2, .int 0, .int 0, .int 0]))] sz) [(h0, .inr (9, [.int 1, .ref z0, .ref z1, .ref z2, .int 0, .int 0, .int 0]))]) (va_A [(h0, .inr (9, [.int 0, .ref z0, .ref z1, .ref z2, .int 0, .int 0, .int 0]))] sz)) 0 0 (va_A [(h0, .inr (9, [.int 0, .ref z0, .ref z1, .ref z2, .int 0, .int 0, .int 0]))] sz) := by
  refine Met.ofW (cc := cX5_turn) (maxL := 4) (ret := (some .int)) (by decide) rfl ?_
  intro p e s m args below meth c s₁ B hml hv
  obtain ⟨rfl, hsz, hP, hK, hD0⟩ := hv
  have hx := B.exec
  have hb := B.bytes
  have hr := B.returns
  have hts := atoms_spec (ws := wsX5_turn) B.pre
  have hown : s.vm.findClass RX5 = some m.cls := findClass_of_methodNamed B.named
  have hlocks := B.notSynchronized
  subst hsz
  have hD := hD0.self (sz := s.heap.size)
  generalize hAe : va_A [(h0, .inr (9, [.int 0, .ref z0, .ref z1, .ref z2, .int 0, .int 0, .int 0]))] s.heap.size = A at hD ⊢
  have hA : ∀ q : Nat, s.heap.size ≤ q → A q := fun q h => by rw [← hAe]; exact Or.inr h
  have hS : va_S A s.heap s.heap [] := va_S.rf
  have hP : va_P (dC, dI) vwCl [(h0, .inr (9, [.int 0, .ref z0, .ref z1, .ref z2, .int 0, .int 0, .int 0]))] s.heap := hP
  have hl := lv_entry ([.ref h0, .int i0]) (n := 4) (Nat.le_of_ble_eq_true rfl)
  rw [lg_entry_eq]
  generalize (lg_sl ([.ref h0, .int i0]) ++ List.replicate (4 - (lg_sl ([.ref h0, .int i0])).length) Slot.unset).toArray = ls at hl ⊢
  have hl : lv_has ls 4 [(0, .ref h0), (1, .int i0)] := hl
  refine lv_aload_n hx hb dX5_turn_0 rfl (lv_at hl 0 rfl) ?_
  refine lv_iload_n hx hb dX5_turn_1 rfl (lv_at hl 1 rfl) ?_
  have hPc := hP.sub (ws' := []) [] rfl
  have hDc := hD.sub (ws' := []) [] (by decide) rfl
  have hKc := hK.sub (tys' := []) [] rfl
  have hFc := va_free (wc := []) hD hS hA [] rfl
  refine va_calli (va_runS (As := [.int i0]) (rest := [.ref h0]) ⟨hx, hb, hml, hown, hts⟩ (kx_X5_isNo_0 l dC dI s.heap.size i0 i0_l i0_u) (cwS 1 hts gX5_turn_X5_isNo rfl rfl rfl (by decide +kernel) ⟨Nat.le_of_ble_eq_true rfl, Nat.le_of_ble_eq_true rfl⟩) ⟨fun a U g mk q => by obtain ⟨q0, q1, qP, qK, qD⟩ := q; exact ⟨q0, q1, qP, va_K.moved (u := U) (U := U.calling g mk a) (Vm.Alike.refl U.vm) qK, qD⟩, fun U hU hW => ⟨rfl, by rw [hU], by rw [hU]; exact hPc, va_K.moved hW.alike hKc, hDc.weaken (fun _ _ _ _ => trivial)⟩⟩ rfl rfl hl.1 rfl (lv_room (Nat.le_of_ble_eq_true rfl)) dX5_turn_2 ⟨Nat.le_of_ble_eq_true rfl, Nat.le_of_ble_eq_true rfl⟩) hS (fun q _ h => hFc q h) hFc (fun r9 u t H1 locs ht hvm hw hB hz1 hk1 hS => ?_)
  obtain rfl := hw
  obtain ⟨hP1, hK1, hD1⟩ := hB
  rw [ht] at hP1
  have hK1 := va_K.moved hvm.symm hK1
  obtain ⟨hP, hD⟩ := va_join (wr := [(h0, .inr (9, [.int 0, .ref z0, .ref z1, .ref z2, .int 0, .int 0, .int 0]))]) (w1 := []) hP hD [] [0] rfl rfl (by decide) (by decide) hk1 hFc hP1 hD1
  generalize H1 = H at hP hS ⊢
  have hP : va_P (dC, dI) vwCl [(h0, .inr (9, [.int 0, .ref z0, .ref z1, .ref z2, .int 0, .int 0, .int 0]))] H := hP
  have hD : va_D A [(h0, .inr (9, [.int 0, .ref z0, .ref z1, .ref z2, .int 0, .int 0, .int 0]))] := hD
  refine lv_iconst (v := 0) hx hb dX5_turn_5 (by decide) ?_
  refine lv_iconst (v := 0) hx hb dX5_turn_6 (by decide) ?_
  have hPc := hP.sub (ws' := [(h0, .inr (9, [.int 0, .ref z0, .ref z1, .ref z2, .int 0, .int 0, .int 0]))]) [0] rfl
  have hDc := hD.sub (ws' := [(h0, .inr (9, [.int 0, .ref z0, .ref z1, .ref z2, .int 0, .int 0, .int 0]))]) [0] (by decide) rfl
  have hKc := hK.sub (tys' := []) [] rfl
  have hFc := va_free (wc := [(h0, .inr (9, [.int 0, .ref z0, .ref z1, .ref z2, .int 0, .int 0, .int 0]))]) hD hS hA [0] rfl
  refine va_calli (va_runV (As := [.int 1, .int 0, .int 0]) (rest := []) ⟨hx, hb, hml, hown, hts⟩ (kx_X5_fails_0 l dC dI h0 z0 z1 z2 H.size) (cwV 3 hts gX5_turn_X5_fails rfl rfl rfl (by decide +kernel) ⟨Nat.le_of_ble_eq_true rfl, Nat.le_of_ble_eq_true rfl⟩) ⟨fun a U g mk q => by obtain ⟨q0, q1, qP, qK, qD⟩ := q; exact ⟨q0, q1, qP, va_K.moved (u := U) (U := U.calling g mk a) (Vm.Alike.refl U.vm) qK, qD⟩, va_recv hKc hPc (ci := 9) (q0 := 0) rfl rfl, fun U hU hW => ⟨rfl, by rw [hU], by rw [hU]; exact hPc, va_K.moved hW.alike hKc, hDc.weaken (fun _ _ _ _ => trivial)⟩⟩ rfl rfl hl.1 rfl (lv_room (Nat.le_of_ble_eq_true rfl)) dX5_turn_7 ⟨Nat.le_of_ble_eq_true rfl, Nat.le_of_ble_eq_true rfl⟩) hS (fun q _ h => hFc q h) hFc (fun r9 u t H1 locs ht hvm hw hB hz1 hk1 hS => ?_)
  obtain rfl := hw
  obtain ⟨hP1, hK1, hD1⟩ := hB
  rw [ht] at hP1
  have hK1 := va_K.moved hvm.symm hK1
  obtain ⟨hP, hD⟩ := va_join (wr := []) (w1 := [(h0, .inr (9, [.int 1, .ref z0, .ref z1, .ref z2, .int 0, .int 0, .int 0]))]) hP hD [0] [] rfl rfl (by decide) (by decide) hk1 hFc hP1 hD1
  generalize H1 = H at hP hS ⊢
  have hP : va_P (dC, dI) vwCl [(h0, .inr (9, [.int 1, .ref z0, .ref z1, .ref z2, .int 0, .int 0, .int 0]))] H := hP
  have hD : va_D A [(h0, .inr (9, [.int 1, .ref z0, .ref z1, .ref z2, .int 0, .int 0, .int 0]))] := hD
  refine lv_if_eq (tgt := 15) hx hb dX5_turn_10 (by decide) (fun c9 => absurd c9 (by decide)) (fun _ => ?_)
  refine lv_iconst (v := 0) hx hb dX5_turn_13 (by decide) ?_
  exact W.iret (v := 0) hx hb hr (fun t ht hW => ⟨⟨0, (), rfl, rfl, by rw [ht]; exact hP, va_K.moved hW.alike hK, hD⟩, hS.F ht⟩) hS.2.2 dX5_turn_14
set_option maxHeartbeats 4000000 in
set_option maxRecDepth 100000 in
theorem kx_X3_turn_5 (l : Launch) (hst : l.stackTraces = false) (dC : Nat → ClassId) (dI : Nat → Nat → Nat) (ge5 gea gv5 gva gde gic gi0 : Nat) (h0 : Nat) (z0 : Nat) (z1 : Nat) (z2 : Nat) (z3 : Nat) (z4 : Nat) (z5 : Nat) (sz : Nat) (i0 : Int32) (i0_l : (4 : Int) ≤ i0.toInt) (i0_u : i0.toInt ≤ (2147483647 : Int)) : vx_Met l yX3_turn wsX3_turn ({ frames := 7, cells := 1, slots := 6, locals := 140 }) (va_Pc [.ref h0, .int i0] (fun U => U.heap.size = sz ∧ va_P (dC, dI) vwCl [(h0, .inr (7, [.ref z0, .ref z1, .ref z2, .ref z3, .ref z4, .ref z5, .int 0, .int 0, .int 0]))] U.heap ∧ va_K (dC, dI) vwCl [] U ∧ va_D (fun _ => True) [(h0, .inr (7, [.ref z0, .ref z1, .ref z2, .ref z3, .ref z4, .ref z5, .int 0, .int 0, .int 0]))] ∧ gv ge5 gea gv5 gva gde gic gi0 (va_A [(h0, .inr (7, [.ref z0, .ref z1, .ref z2, .ref z3, .ref z4, .ref z5, .int 0, .int 0, .int 0]))] sz) U U.heap)) (va_Qi (fun (_ : Int32) (_ : Unit) => False) (fun _ _ => True) (va_A [(h0, .inr (7, [.ref z0, .ref z1, .ref z2, .ref z3, .ref z4, .ref z5, .int 0, .int 0, .int 0]))] sz)) (vx_X (fun _ : Unit => True) (fun (E : String) (_ : Unit) (t : State) => E = "java/lang/IndexOutOfBoundsException" ∧ va_P (dC, dI) vwCl [(h0, .inr (7, [.ref z0, .ref z1, .ref z2, .ref z3, .ref z4, .ref z5, .int 0, .int 0, .int 0]))] t.heap ∧ va_K (dC, dI) vwCl [] t ∧ va_D (va_A [(h0, .inr (7, [.ref z0, .ref z1, .ref z2, .ref z3, .ref z4, .ref z5, .int 0, .int 0, .int 0]))] sz) [(h0, .inr (7, [.ref z0, .ref z1, .ref z2, .ref z3, .ref z4, .ref z5, .int 0, .int 0, .int 0]))]) (va_A [(h0, .inr (7, [.ref z0, .ref z1, .ref z2, .ref z3, .ref z4, .ref z5, .int 0, .int 0, .int 0]))] sz)) 1 6 (va_A [(h0, .inr (7, [.ref z0, .ref z1, .ref z2, .ref z3, .ref z4, .ref z5, .int 0, .int 0, .int 0]))] sz) := by
  refine vx_ofW (cc := cX3_turn) (maxL := 2) (ret := (some .int)) (by decide) rfl ?_
  intro p e s m args below meth c s₁ B hml ht9 hv
  obtain ⟨rfl, hsz, hP, hK, hD0, hG⟩ := hv
  have hx := B.exec
  have hb := B.bytes
  have hr := B.returns
  have hts := atoms_spec (ws := wsX3_turn) B.pre
  have hown : s.vm.findClass RX3 = some m.cls := findClass_of_methodNamed B.named
  have hlocks := B.notSynchronized
  subst hsz
  have hD := hD0.self (sz := s.heap.size)
  generalize hAe : va_A [(h0, .inr (7, [.ref z0, .ref z1, .ref z2, .ref z3, .ref z4, .ref z5, .int 0, .int 0, .int 0]))] s.heap.size = A at hD hG ⊢
  obtain ⟨⟨g_AO_Text, g_AO_String, g_AO_Object, g_nm_RX1_20, g_nm_RX0_17, g_nm_RX3_31, g_nm_RX2_44, g_nm_RL_121, g_nf_RL_13, g_nf_RL_47, g_ca_IO, g_ca_IA, g_ca_IS, g_ca_IntObj, g_ca_StrObj, g_de_RT, g_de_EX, g_de_TH, g_nc_IA_IO, g_nc_IS_IO, g_nc_IS_IA⟩, ⟨g_s3, g_s5, g_sa, g_x278, g_x280, g_x282, g_x284, g_x286, g_x180, g_x238, g_x250⟩, ⟨g_o5, g_c5, g_v5, g_t5, g_oa, g_ca, g_va, g_ta, g_zc, g_zd, g_td, g_zf, g_zU, g_zN, g_zh, g_zk, g_tk, g_oi, g_vi⟩⟩ := id hG
  have hA : ∀ q : Nat, s.heap.size ≤ q → A q := fun q h => by rw [← hAe]; exact Or.inr h
  have hS : va_S A s.heap s.heap [] := va_S.rf
  have hP : va_P (dC, dI) vwCl [(h0, .inr (7, [.ref z0, .ref z1, .ref z2, .ref z3, .ref z4, .ref z5, .int 0, .int 0, .int 0]))] s.heap := hP
  have hl := lv_entry ([.ref h0, .int i0]) (n := 2) (Nat.le_of_ble_eq_true rfl)
  rw [lg_entry_eq]
  generalize (lg_sl ([.ref h0, .int i0]) ++ List.replicate (2 - (lg_sl ([.ref h0, .int i0])).length) Slot.unset).toArray = ls at hl ⊢
  have hl : lv_has ls 2 [(0, .ref h0), (1, .int i0)] := hl
  refine lv_iload_n hx hb dX3_turn_0 rfl (lv_at hl 1 rfl) ?_
  have hPc := hP.sub (ws' := []) [] rfl
  have hDc := hD.sub (ws' := []) [] (by decide) rfl
  have hKc := hK.sub (tys' := []) [] rfl
  have hFc := va_free (wc := []) hD hS hA [] rfl
  refine vx_callv (vx_runS (As := [.int i0]) (rest := []) ⟨hx, hb, hml, hown, hts⟩ (kx_X3_needRope_6 l hst dC dI ge5 gea gv5 gva gde gic gi0 s.heap.size i0 i0_l i0_u) (cwS 1 hts gX3_turn_X3_needRope rfl rfl rfl (by decide +kernel) ⟨Nat.le_of_ble_eq_true rfl, Nat.le_of_ble_eq_true rfl⟩) ⟨fun a U g mk q => by obtain ⟨q0, q1, qP, qK, qD, qG⟩ := q; exact ⟨q0, q1, qP, va_K.moved (u := U) (U := U.calling g mk a) (Vm.Alike.refl U.vm) qK, qD, gv.fb qG⟩, fun U hU hW => ⟨rfl, by rw [hU], by rw [hU]; exact hPc, va_K.moved hW.alike hKc, hDc.weaken (fun _ _ _ _ => trivial), gv.pass hW hU hS hFc hG⟩⟩ rfl rfl hl.1 rfl (lv_room (Nat.le_of_ble_eq_true rfl)) dX3_turn_1 ⟨Nat.le_of_ble_eq_true rfl, Nat.le_of_ble_eq_true rfl⟩) hS (fun q _ h => hFc q h) hFc (fun q _ h => hFc q h) (fun E ce q9 u t H1 locs ht hvm hpx hB hz1 hk1 hS hce hcv hcl => ?_) (fun u t H1 locs ht hvm hw hB hz1 hk1 hS => hw.elim)
  obtain ⟨rfl, hP1, hK1, hD1⟩ := hB
  rw [ht] at hP1
  have hK1 := va_K.moved hvm.symm hK1
  obtain ⟨hP, hD⟩ := va_join (wr := [(h0, .inr (7, [.ref z0, .ref z1, .ref z2, .ref z3, .ref z4, .ref z5, .int 0, .int 0, .int 0]))]) (w1 := []) hP hD [] [0] rfl rfl (by decide) (by decide) hk1 hFc hP1 hD1
  generalize H1 = H at hP hS hce ⊢
  have hP : va_P (dC, dI) vwCl [(h0, .inr (7, [.ref z0, .ref z1, .ref z2, .ref z3, .ref z4, .ref z5, .int 0, .int 0, .int 0]))] H := hP
  have hD : va_D A [(h0, .inr (7, [.ref z0, .ref z1, .ref z2, .ref z3, .ref z4, .ref z5, .int 0, .int 0, .int 0]))] := hD
  exact vx_out (fun x hx9 => (ht9 x hx9).elim) hlocks hce hcv hcl (fun t ht hW => ⟨(), trivial, ⟨rfl, by rw [ht]; exact hP, va_K.moved hW hK, hD⟩, hS.F ht⟩) hS.2.2 (by omega) (by omega)
set_option maxHeartbeats 4000000 in
set_option maxRecDepth 100000 in
theorem kx_L_turn_2 (l : Launch) (hst : l.stackTraces = false) (dC : Nat → ClassId) (dI : Nat → Nat → Nat) (ge5 gea gv5 gva gde gic gi0 : Nat) (h0 : Nat) (z0 : Nat) (z1 : Nat) (z2 : Nat) (z3 : Nat) (z4 : Nat) (z5 : Nat) (z6 : Nat) (sz : Nat) (i0 : Int32) (i0_l : (4 : Int) ≤ i0.toInt) (i0_u : i0.toInt ≤ (2147483647 : Int)) : Met l yL_turn wsL_turn ({ frames := 8, cells := 1, slots := 6, locals := 161 }) (va_Pc [.ref h0, .int i0, .ref z0] (fun U => U.heap.size = sz ∧ va_P (dC, dI) vwCl [(h0, .inr (7, [.ref z1, .ref z2, .ref z3, .ref z4, .ref z5, .ref z6, .int 0, .int 0, .int 0]))] U.heap ∧ va_K (dC, dI) vwCl [] U ∧ va_D (fun _ => True) [(h0, .inr (7, [.ref z1, .ref z2, .ref z3, .ref z4, .ref z5, .ref z6, .int 0, .int 0, .int 0]))] ∧ gv ge5 gea gv5 gva gde gic gi0 (va_A [(h0, .inr (7, [.ref z1, .ref z2, .ref z3, .ref z4, .ref z5, .ref z6, .int 0, .int 0, .int 0]))] sz) U U.heap)) (va_Qi (fun (r : Int32) (_ : Unit) => r = 1) (fun (_ : Unit) (t : State) => va_P (dC, dI) vwCl [(h0, .inr (7, [.ref z1, .ref z2, .ref z3, .ref z4, .ref z5, .ref z6, .int 0, .int 0, .int 0]))] t.heap ∧ va_K (dC, dI) vwCl [] t ∧ va_D (va_A [(h0, .inr (7, [.ref z1, .ref z2, .ref z3, .ref z4, .ref z5, .ref z6, .int 0, .int 0, .int 0]))] sz) [(h0, .inr (7, [.ref z1, .ref z2, .ref z3, .ref z4, .ref z5, .ref z6, .int 0, .int 0, .int 0]))]) (va_A [(h0, .inr (7, [.ref z1, .ref z2, .ref z3, .ref z4, .ref z5, .ref z6, .int 0, .int 0, .int 0]))] sz)) 1 6 (va_A [(h0, .inr (7, [.ref z1, .ref z2, .ref z3, .ref z4, .ref z5, .ref z6, .int 0, .int 0, .int 0]))] sz) := by
  refine kz_ofWH (cc := cL_turn) (maxL := 4) (ret := (some .int)) (hh := [(0, 10, 13, 19)]) (by decide) rfl ?_
  intro p e s m args below meth c s₁ B hml hv
  obtain ⟨rfl, hsz, hP, hK, hD0, hG⟩ := hv
  have hx := B.exec
  have hb := B.bytes
  have hr := B.returns
  have hts := atoms_spec (ws := wsL_turn) B.pre
  have hown : s.vm.findClass RL = some m.cls := findClass_of_methodNamed B.named
  have htab := vx_table (x := yL_turn) B (hts (.codeWith yL_turn cL_turn 4 (some .int) [(0, 10, 13, 19)]) (by decide +kernel))
  have hlocks := B.notSynchronized
  subst hsz
  have hD := hD0.self (sz := s.heap.size)
  generalize hAe : va_A [(h0, .inr (7, [.ref z1, .ref z2, .ref z3, .ref z4, .ref z5, .ref z6, .int 0, .int 0, .int 0]))] s.heap.size = A at hD hG ⊢
  obtain ⟨⟨g_AO_Text, g_AO_String, g_AO_Object, g_nm_RX1_20, g_nm_RX0_17, g_nm_RX3_31, g_nm_RX2_44, g_nm_RL_121, g_nf_RL_13, g_nf_RL_47, g_ca_IO, g_ca_IA, g_ca_IS, g_ca_IntObj, g_ca_StrObj, g_de_RT, g_de_EX, g_de_TH, g_nc_IA_IO, g_nc_IS_IO, g_nc_IS_IA⟩, ⟨g_s3, g_s5, g_sa, g_x278, g_x280, g_x282, g_x284, g_x286, g_x180, g_x238, g_x250⟩, ⟨g_o5, g_c5, g_v5, g_t5, g_oa, g_ca, g_va, g_ta, g_zc, g_zd, g_td, g_zf, g_zU, g_zN, g_zh, g_zk, g_tk, g_oi, g_vi⟩⟩ := id hG
  have hA : ∀ q : Nat, s.heap.size ≤ q → A q := fun q h => by rw [← hAe]; exact Or.inr h
  have hS : va_S A s.heap s.heap [] := va_S.rf
  have hP : va_P (dC, dI) vwCl [(h0, .inr (7, [.ref z1, .ref z2, .ref z3, .ref z4, .ref z5, .ref z6, .int 0, .int 0, .int 0]))] s.heap := hP
  have hl := lv_entry ([.ref h0, .int i0, .ref z0]) (n := 4) (Nat.le_of_ble_eq_true rfl)
  rw [lg_entry_eq]
  generalize (lg_sl ([.ref h0, .int i0, .ref z0]) ++ List.replicate (4 - (lg_sl ([.ref h0, .int i0, .ref z0])).length) Slot.unset).toArray = ls at hl ⊢
  have hl : lv_has ls 4 [(0, .ref h0), (1, .int i0), (2, .ref z0)] := hl
  refine lv_aload_n hx hb dL_turn_0 rfl (lv_at hl 2 rfl) ?_
  refine lv_aload_n hx hb dL_turn_1 rfl (lv_at hl 0 rfl) ?_
  refine lv_iload_n hx hb dL_turn_2 rfl (lv_at hl 1 rfl) ?_
  have hPc := hP.sub (ws' := [(h0, .inr (7, [.ref z1, .ref z2, .ref z3, .ref z4, .ref z5, .ref z6, .int 0, .int 0, .int 0]))]) [0] rfl
  have hDc := hD.sub (ws' := [(h0, .inr (7, [.ref z1, .ref z2, .ref z3, .ref z4, .ref z5, .ref z6, .int 0, .int 0, .int 0]))]) [0] (by decide) rfl
  have hKc := hK.sub (tys' := []) [] rfl
  have hFc := va_free (wc := [(h0, .inr (7, [.ref z1, .ref z2, .ref z3, .ref z4, .ref z5, .ref z6, .int 0, .int 0, .int 0]))]) hD hS hA [0] rfl
  refine vx_calli (vx_runV (As := [.int i0]) (rest := [.ref z0]) ⟨hx, hb, hml, hown, hts⟩ (kx_X3_turn_5 l hst dC dI ge5 gea gv5 gva gde gic gi0 h0 z1 z2 z3 z4 z5 z6 s.heap.size i0 i0_l i0_u) (cwV 1 hts gL_turn_X3_turn rfl rfl rfl (by decide +kernel) ⟨Nat.le_of_ble_eq_true rfl, Nat.le_of_ble_eq_true rfl⟩) ⟨fun a U g mk q => by obtain ⟨q0, q1, qP, qK, qD, qG⟩ := q; exact ⟨q0, q1, qP, va_K.moved (u := U) (U := U.calling g mk a) (Vm.Alike.refl U.vm) qK, qD, gv.fb qG⟩, va_recv hKc hPc (ci := 7) (q0 := 0) rfl rfl, fun U hU hW => ⟨rfl, by rw [hU], by rw [hU]; exact hPc, va_K.moved hW.alike hKc, hDc.weaken (fun _ _ _ _ => trivial), gv.pass hW hU hS hFc hG⟩⟩ rfl rfl hl.1 rfl (lv_room (Nat.le_of_ble_eq_true rfl)) dL_turn_3 ⟨Nat.le_of_ble_eq_true rfl, Nat.le_of_ble_eq_true rfl⟩) hS (fun q _ h => hFc q h) hFc (fun q _ h => hFc q h) (fun E ce q9 u t H1 locs ht hvm hpx hB hz1 hk1 hS hce hcv hcl => ?_) (fun r9 u t H1 locs ht hvm hw hB hz1 hk1 hS => hw.elim)
  obtain ⟨rfl, hP1, hK1, hD1⟩ := hB
  rw [ht] at hP1
  have hK1 := va_K.moved hvm.symm hK1
  obtain ⟨hP, hD⟩ := va_join (wr := []) (w1 := [(h0, .inr (7, [.ref z1, .ref z2, .ref z3, .ref z4, .ref z5, .ref z6, .int 0, .int 0, .int 0]))]) hP hD [0] [] rfl rfl (by decide) (by decide) hk1 hFc hP1 hD1
  generalize H1 = H at hP hS hce ⊢
  have hP : va_P (dC, dI) vwCl [(h0, .inr (7, [.ref z1, .ref z2, .ref z3, .ref z4, .ref z5, .ref z6, .int 0, .int 0, .int 0]))] H := hP
  have hD : va_D A [(h0, .inr (7, [.ref z1, .ref z2, .ref z3, .ref z4, .ref z5, .ref z6, .int 0, .int 0, .int 0]))] := hD
  refine vx_catch (own := RL) (name := "java/lang/IndexOutOfBoundsException") hown (tableOf []) ⟨0, 10, 13, 19⟩ (tableOf []) (by rw [htab]; rfl) (fun z hz => nomatch hz) (by decide +kernel) (by decide) (hts (.classLink RL 19 "java/lang/IndexOutOfBoundsException") (by decide +kernel)) (va_Nw.use rfl g_ca_IO) hce hcv hcl ?_
  refine W.eq (g2 := F0 m 13 ls [.ref q9]) rfl ?_
  refine lv_astore_n (lv' := [(3, .ref q9), (0, .ref h0), (1, .int i0), (2, .ref z0)]) hx hb dL_turn_13 rfl hl (by decide) rfl (fun ls hl => ?_)
  refine lv_iconst (v := 1) hx hb dL_turn_14 (by decide) ?_
  exact W.iret (v := 1) hx hb hr (fun t ht hW => ⟨⟨1, (), rfl, rfl, by rw [ht]; exact hP, va_K.moved hW.alike hK, hD⟩, hS.F ht⟩) hS.2.2 dL_turn_15
set_option maxHeartbeats 4000000 in
set_option maxRecDepth 100000 in
theorem kx_X5_turn_2 (l : Launch) (dC : Nat → ClassId) (dI : Nat → Nat → Nat) (h0 : Nat) (z0 : Nat) (z1 : Nat) (z2 : Nat) (sz : Nat) (i0 : Int32) (i0_l : (4 : Int) ≤ i0.toInt) (i0_u : i0.toInt ≤ (2147483647 : Int)) : Met l yX5_turn wsX5_turn ({ frames := 2, cells := 0, slots := 0, locals := 42 }) (va_Pc [.ref h0, .int i0] (fun U => U.heap.size = sz ∧ va_P (dC, dI) vwCl [(h0, .inr (9, [.int 0, .ref z0, .ref z1, .ref z2, .int 0, .int 0, .int 0]))] U.heap ∧ va_K (dC, dI) vwCl [] U ∧ va_D (fun _ => True) [(h0, .inr (9, [.int 0, .ref z0, .ref z1, .ref z2, .int 0, .int 0, .int 0]))])) (va_Qi (fun (r : Int32) (_ : Unit) => r = 0) (fun (_ : Unit) (t : State) => va_P (dC, dI) vwCl [(h0, .inr (9, [.int 1, .ref z0, .ref z1, .ref z2, .int 0, .int 0, .int 0]))] t.heap ∧ va_K (dC, dI) vwCl [] t ∧ va_D (va_A [(h0, .inr (9, [.int 0, .ref z0, .ref z1, .ref z2, .int 0, .int 0, .int 0]))] sz) [(h0, .inr (9, [.int 1, .ref z0, .ref z1, .ref z2, .int 0, .int 0, .int 0]))]) (va_A [(h0, .inr (9, [.int 0, .ref z0, .ref z1, .ref z2, .int 0, .int 0, .int 0]))] sz)) 0 0 (va_A [(h0, .inr (9, [.int 0, .ref z0, .ref z1, .ref z2, .int 0, .int 0, .int 0]))] sz) := by
  refine Met.ofW (cc := cX5_turn) (maxL := 4) (ret := (some .int)) (by decide) rfl ?_
  intro p e s m args below meth c s₁ B hml hv
  obtain ⟨rfl, hsz, hP, hK, hD0⟩ := hv
  have hx := B.exec
  have hb := B.bytes
  have hr := B.returns
  have hts := atoms_spec (ws := wsX5_turn) B.pre
  have hown : s.vm.findClass RX5 = some m.cls := findClass_of_methodNamed B.named
  have hlocks := B.notSynchronized
  subst hsz
  have hD := hD0.self (sz := s.heap.size)
  generalize hAe : va_A [(h0, .inr (9, [.int 0, .ref z0, .ref z1, .ref z2, .int 0, .int 0, .int 0]))] s.heap.size = A at hD ⊢
  have hA : ∀ q : Nat, s.heap.size ≤ q → A q := fun q h => by rw [← hAe]; exact Or.inr h
  have hS : va_S A s.heap s.heap [] := va_S.rf
  have hP : va_P (dC, dI) vwCl [(h0, .inr (9, [.int 0, .ref z0, .ref z1, .ref z2, .int 0, .int 0, .int 0]))] s.heap := hP
  have hl := lv_entry ([.ref h0, .int i0]) (n := 4) (Nat.le_of_ble_eq_true rfl)
  rw [lg_entry_eq]
  generalize (lg_sl ([.ref h0, .int i0]) ++ List.replicate (4 - (lg_sl ([.ref h0, .int i0])).length) Slot.unset).toArray = ls at hl ⊢
  have hl : lv_has ls 4 [(0, .ref h0), (1, .int i0)] := hl
  refine lv_aload_n hx hb dX5_turn_0 rfl (lv_at hl 0 rfl) ?_
  refine lv_iload_n hx hb dX5_turn_1 rfl (lv_at hl 1 rfl) ?_
  have hPc := hP.sub (ws' := []) [] rfl
  have hDc := hD.sub (ws' := []) [] (by decide) rfl
  have hKc := hK.sub (tys' := []) [] rfl
  have hFc := va_free (wc := []) hD hS hA [] rfl
  refine va_calli (va_runS (As := [.int i0]) (rest := [.ref h0]) ⟨hx, hb, hml, hown, hts⟩ (kx_X5_isNo_2 l dC dI s.heap.size i0 i0_l i0_u) (cwS 1 hts gX5_turn_X5_isNo rfl rfl rfl (by decide +kernel) ⟨Nat.le_of_ble_eq_true rfl, Nat.le_of_ble_eq_true rfl⟩) ⟨fun a U g mk q => by obtain ⟨q0, q1, qP, qK, qD⟩ := q; exact ⟨q0, q1, qP, va_K.moved (u := U) (U := U.calling g mk a) (Vm.Alike.refl U.vm) qK, qD⟩, fun U hU hW => ⟨rfl, by rw [hU], by rw [hU]; exact hPc, va_K.moved hW.alike hKc, hDc.weaken (fun _ _ _ _ => trivial)⟩⟩ rfl rfl hl.1 rfl (lv_room (Nat.le_of_ble_eq_true rfl)) dX5_turn_2 ⟨Nat.le_of_ble_eq_true rfl, Nat.le_of_ble_eq_true rfl⟩) hS (fun q _ h => hFc q h) hFc (fun r9 u t H1 locs ht hvm hw hB hz1 hk1 hS => ?_)
  obtain rfl := hw
  obtain ⟨hP1, hK1, hD1⟩ := hB
  rw [ht] at hP1
  have hK1 := va_K.moved hvm.symm hK1
  obtain ⟨hP, hD⟩ := va_join (wr := [(h0, .inr (9, [.int 0, .ref z0, .ref z1, .ref z2, .int 0, .int 0, .int 0]))]) (w1 := []) hP hD [] [0] rfl rfl (by decide) (by decide) hk1 hFc hP1 hD1
  generalize H1 = H at hP hS ⊢
  have hP : va_P (dC, dI) vwCl [(h0, .inr (9, [.int 0, .ref z0, .ref z1, .ref z2, .int 0, .int 0, .int 0]))] H := hP
  have hD : va_D A [(h0, .inr (9, [.int 0, .ref z0, .ref z1, .ref z2, .int 0, .int 0, .int 0]))] := hD
  refine lv_iconst (v := 0) hx hb dX5_turn_5 (by decide) ?_
  refine lv_iconst (v := 0) hx hb dX5_turn_6 (by decide) ?_
  have hPc := hP.sub (ws' := [(h0, .inr (9, [.int 0, .ref z0, .ref z1, .ref z2, .int 0, .int 0, .int 0]))]) [0] rfl
  have hDc := hD.sub (ws' := [(h0, .inr (9, [.int 0, .ref z0, .ref z1, .ref z2, .int 0, .int 0, .int 0]))]) [0] (by decide) rfl
  have hKc := hK.sub (tys' := []) [] rfl
  have hFc := va_free (wc := [(h0, .inr (9, [.int 0, .ref z0, .ref z1, .ref z2, .int 0, .int 0, .int 0]))]) hD hS hA [0] rfl
  refine va_calli (va_runV (As := [.int 1, .int 0, .int 0]) (rest := []) ⟨hx, hb, hml, hown, hts⟩ (kx_X5_fails_0 l dC dI h0 z0 z1 z2 H.size) (cwV 3 hts gX5_turn_X5_fails rfl rfl rfl (by decide +kernel) ⟨Nat.le_of_ble_eq_true rfl, Nat.le_of_ble_eq_true rfl⟩) ⟨fun a U g mk q => by obtain ⟨q0, q1, qP, qK, qD⟩ := q; exact ⟨q0, q1, qP, va_K.moved (u := U) (U := U.calling g mk a) (Vm.Alike.refl U.vm) qK, qD⟩, va_recv hKc hPc (ci := 9) (q0 := 0) rfl rfl, fun U hU hW => ⟨rfl, by rw [hU], by rw [hU]; exact hPc, va_K.moved hW.alike hKc, hDc.weaken (fun _ _ _ _ => trivial)⟩⟩ rfl rfl hl.1 rfl (lv_room (Nat.le_of_ble_eq_true rfl)) dX5_turn_7 ⟨Nat.le_of_ble_eq_true rfl, Nat.le_of_ble_eq_true rfl⟩) hS (fun q _ h => hFc q h) hFc (fun r9 u t H1 locs ht hvm hw hB hz1 hk1 hS => ?_)
  obtain rfl := hw
  obtain ⟨hP1, hK1, hD1⟩ := hB
  rw [ht] at hP1
  have hK1 := va_K.moved hvm.symm hK1
  obtain ⟨hP, hD⟩ := va_join (wr := []) (w1 := [(h0, .inr (9, [.int 1, .ref z0, .ref z1, .ref z2, .int 0, .int 0, .int 0]))]) hP hD [0] [] rfl rfl (by decide) (by decide) hk1 hFc hP1 hD1
  generalize H1 = H at hP hS ⊢
  have hP : va_P (dC, dI) vwCl [(h0, .inr (9, [.int 1, .ref z0, .ref z1, .ref z2, .int 0, .int 0, .int 0]))] H := hP
  have hD : va_D A [(h0, .inr (9, [.int 1, .ref z0, .ref z1, .ref z2, .int 0, .int 0, .int 0]))] := hD
  refine lv_if_eq (tgt := 15) hx hb dX5_turn_10 (by decide) (fun c9 => absurd c9 (by decide)) (fun _ => ?_)
  refine lv_iconst (v := 0) hx hb dX5_turn_13 (by decide) ?_
  exact W.iret (v := 0) hx hb hr (fun t ht hW => ⟨⟨0, (), rfl, rfl, by rw [ht]; exact hP, va_K.moved hW.alike hK, hD⟩, hS.F ht⟩) hS.2.2 dX5_turn_14
set_option maxHeartbeats 4000000 in
set_option maxRecDepth 100000 in
theorem kx_X2_appendTo_0 (l : Launch) (dC : Nat → ClassId) (dI : Nat → Nat → Nat) (h0 : Nat) (z0 : Nat) (z1 : Nat) (sz : Nat) : Met l yX2_appendTo wsX2_appendTo ({ frames := 0, cells := 0, slots := 0, locals := 0 }) (va_Pc [.ref h0, .ref z0] (fun U => U.heap.size = sz ∧ va_P (dC, dI) vwCl [(h0, .inr (6, [.ref z1, .int 0]))] U.heap ∧ va_K (dC, dI) vwCl [] U ∧ va_D (fun _ => True) [(h0, .inr (6, [.ref z1, .int 0]))])) (va_Qv (fun _ : Unit => True) (fun (_ : Unit) (t : State) => va_P (dC, dI) vwCl [(h0, .inr (6, [.ref z1, .int 0]))] t.heap ∧ va_K (dC, dI) vwCl [] t ∧ va_D (va_A [(h0, .inr (6, [.ref z1, .int 0]))] sz) [(h0, .inr (6, [.ref z1, .int 0]))]) (va_A [(h0, .inr (6, [.ref z1, .int 0]))] sz)) 0 0 (va_A [(h0, .inr (6, [.ref z1, .int 0]))] sz) := by
  refine Met.ofW (cc := cX2_appendTo) (maxL := 3) (ret := none) (by decide) rfl ?_
  intro p e s m args below meth c s₁ B hml hv
  obtain ⟨rfl, hsz, hP, hK, hD0⟩ := hv
  have hx := B.exec
  have hb := B.bytes
  have hr := B.returns
  have hts := atoms_spec (ws := wsX2_appendTo) B.pre
  have hown : s.vm.findClass RX2 = some m.cls := findClass_of_methodNamed B.named
  have hlocks := B.notSynchronized
  subst hsz
  have hD := hD0.self (sz := s.heap.size)
  generalize hAe : va_A [(h0, .inr (6, [.ref z1, .int 0]))] s.heap.size = A at hD ⊢
  have hA : ∀ q : Nat, s.heap.size ≤ q → A q := fun q h => by rw [← hAe]; exact Or.inr h
  have hS : va_S A s.heap s.heap [] := va_S.rf
  have hP : va_P (dC, dI) vwCl [(h0, .inr (6, [.ref z1, .int 0]))] s.heap := hP
  have hl := lv_entry ([.ref h0, .ref z0]) (n := 3) (Nat.le_of_ble_eq_true rfl)
  rw [lg_entry_eq]
  generalize (lg_sl ([.ref h0, .ref z0]) ++ List.replicate (3 - (lg_sl ([.ref h0, .ref z0])).length) Slot.unset).toArray = ls at hl ⊢
  have hl : lv_has ls 3 [(0, .ref h0), (1, .ref z0)] := hl
  refine lv_iconst (v := 0) hx hb dX2_appendTo_0 (by decide) ?_
  refine lv_istore_n (lv' := [(2, .int 0), (0, .ref h0), (1, .ref z0)]) hx hb dX2_appendTo_1 rfl hl (by decide) rfl (fun ls hl => ?_)
  refine lv_iload_n hx hb dX2_appendTo_2 rfl (lv_at hl 0 rfl) ?_
  refine lv_aload_n hx hb dX2_appendTo_3 rfl (lv_at hl 1 rfl) ?_
  refine va_get (D := (dC, dI)) (ci := 6) (v := .int 0) (C := RX2) (T := TX2) (N := 2) hx hb hts (by decide +kernel) hown hK hP 0 rfl rfl 1 (by decide) (hts (.fieldLink RX2 15 "Rewriterope$Text" "length" "I") (by decide +kernel)) (fun _ h9 => h9) rfl dX2_appendTo_4 ?_
  refine lv_icmp_ge (tgt := 31) hx hb dX2_appendTo_7 (by decide) (fun _ => ?_) (fun c9 => absurd (by decide) c9)
  exact W.vret hx hb hr (fun t ht hW => ⟨⟨(), rfl, trivial, by rw [ht]; exact hP, va_K.moved hW.alike hK, hD⟩, hS.F ht⟩) hS.2.2 dX2_appendTo_31
set_option maxHeartbeats 4000000 in
set_option maxRecDepth 100000 in
theorem kx_X2_asString_0 (l : Launch) (dC : Nat → ClassId) (dI : Nat → Nat → Nat) (ge5 gea gv5 gva gde gic gi0 : Nat) (h0 : Nat) (z0 : Nat) (sz : Nat) : Met l yX2_asString wsX2_asString ({ frames := 6, cells := 4, slots := 24, locals := 171 }) (va_Pc [.ref h0] (fun U => U.heap.size = sz ∧ va_P (dC, dI) vwCl [(h0, .inr (6, [.ref z0, .int 0]))] U.heap ∧ va_K (dC, dI) vwCl [] U ∧ va_D (fun _ => True) [(h0, .inr (6, [.ref z0, .int 0]))] ∧ gv ge5 gea gv5 gva gde gic gi0 (va_A [(h0, .inr (6, [.ref z0, .int 0]))] sz) U U.heap)) (va_Qr (fun _ : Unit => True) (fun (_ : Unit) (ra : Nat) (t : State) => ∃ q1 : Nat, ∃ q2 : Nat, ∃ q4 : Nat, ∃ q5 : Nat, ∃ cq3 : ClassId, ∃ cq6 : ClassId, ra = q4 ∧ va_P (dC, dI) vwCl [(h0, .inr (6, [.ref z0, .int 0])), (q1, .inr (1, [.ref q2, .int 0, .int 0, .int 0])), (q2, .inl (cq3, 16, .inl (fun _ => 0))), (q4, .inr (0, [.ref q5, .int 0, .int 0, .int 0])), (q5, .inl (cq6, 0, .inl (fun _ => 0)))] t.heap ∧ va_K (dC, dI) vwCl [(cq3, .byte), (cq6, .byte)] t ∧ va_D (va_A [(h0, .inr (6, [.ref z0, .int 0]))] sz) [(h0, .inr (6, [.ref z0, .int 0])), (q1, .inr (1, [.ref q2, .int 0, .int 0, .int 0])), (q2, .inl (cq3, 16, .inl (fun _ => 0))), (q4, .inr (0, [.ref q5, .int 0, .int 0, .int 0])), (q5, .inl (cq6, 0, .inl (fun _ => 0)))]) (va_A [(h0, .inr (6, [.ref z0, .int 0]))] sz)) 4 24 (va_A [(h0, .inr (6, [.ref z0, .int 0]))] sz) := by
  refine Met.ofW (cc := cX2_asString) (maxL := 2) (ret := (some (.object "java/lang/String"))) (by decide) rfl ?_
  intro p e s m args below meth c s₁ B hml hv
  obtain ⟨rfl, hsz, hP, hK, hD0, hG⟩ := hv
  have hx := B.exec
  have hb := B.bytes
  have hr := B.returns
  have hts := atoms_spec (ws := wsX2_asString) B.pre
  have hown : s.vm.findClass RX2 = some m.cls := findClass_of_methodNamed B.named
  have hlocks := B.notSynchronized
  subst hsz
  have hD := hD0.self (sz := s.heap.size)
  generalize hAe : va_A [(h0, .inr (6, [.ref z0, .int 0]))] s.heap.size = A at hD hG ⊢
  obtain ⟨⟨g_AO_Text, g_AO_String, g_AO_Object, g_nm_RX1_20, g_nm_RX0_17, g_nm_RX3_31, g_nm_RX2_44, g_nm_RL_121, g_nf_RL_13, g_nf_RL_47, g_ca_IO, g_ca_IA, g_ca_IS, g_ca_IntObj, g_ca_StrObj, g_de_RT, g_de_EX, g_de_TH, g_nc_IA_IO, g_nc_IS_IO, g_nc_IS_IA⟩, ⟨g_s3, g_s5, g_sa, g_x278, g_x280, g_x282, g_x284, g_x286, g_x180, g_x238, g_x250⟩, ⟨g_o5, g_c5, g_v5, g_t5, g_oa, g_ca, g_va, g_ta, g_zc, g_zd, g_td, g_zf, g_zU, g_zN, g_zh, g_zk, g_tk, g_oi, g_vi⟩⟩ := id hG
  have hA : ∀ q : Nat, s.heap.size ≤ q → A q := fun q h => by rw [← hAe]; exact Or.inr h
  have hS : va_S A s.heap s.heap [] := va_S.rf
  have hP : va_P (dC, dI) vwCl [(h0, .inr (6, [.ref z0, .int 0]))] s.heap := hP
  have hl := lv_entry ([.ref h0]) (n := 2) (Nat.le_of_ble_eq_true rfl)
  rw [lg_entry_eq]
  generalize (lg_sl ([.ref h0]) ++ List.replicate (2 - (lg_sl ([.ref h0])).length) Slot.unset).toArray = ls at hl ⊢
  have hl : lv_has ls 2 [(0, .ref h0)] := hl
  refine va_new (ci := 1) (fs := [.null, .int 0, .int 0, .int 0]) (C := RJ4) (T := TJ4) (N := 4) hx hb hts (by decide +kernel) tyJ4 tyJ4_ok hown (hts (.classLink RX2 30 RJ4) (by decide +kernel)) (hts (.instantiable RJ4 4) (by decide +kernel)) (hts (.initialized RJ4) (by decide +kernel)) hK hP hD hS hA rfl (fun j hj => by rcases (show j = 0 ∨ j = 1 ∨ j = 2 ∨ j = 3 by omega) with rfl | rfl | rfl | rfl <;> rfl) (Nat.le_of_ble_eq_true rfl) (Nat.le_of_ble_eq_true rfl) dX2_asString_0 (fun q1 H hP hD hS => ?_)
  have hP : va_P (dC, dI) vwCl [(h0, .inr (6, [.ref z0, .int 0])), (q1, .inr (1, [.null, .int 0, .int 0, .int 0]))] H := hP
  have hD : va_D A [(h0, .inr (6, [.ref z0, .int 0])), (q1, .inr (1, [.null, .int 0, .int 0, .int 0]))] := hD
  refine W.widen (k := 1) (n := 4) (by omega) (by omega) ?_
  refine lv_dup hx hb dX2_asString_3 rfl ?_
  have hPc := hP.sub (ws' := [(q1, .inr (1, [.null, .int 0, .int 0, .int 0]))]) [1] rfl
  have hDc := hD.sub (ws' := [(q1, .inr (1, [.null, .int 0, .int 0, .int 0]))]) [1] (by decide) rfl
  have hKc := hK.sub (tys' := []) [] rfl
  have hFc := va_free (wc := [(q1, .inr (1, [.null, .int 0, .int 0, .int 0]))]) hD hS hA [1] rfl
  refine va_callv (va_runI (As := []) (rest := [.ref q1]) ⟨hx, hb, hml, hown, hts⟩ (kx_J4_init_da8c8_0 l dC dI ge5 gea gv5 gva gde gic gi0 q1 H.size) (cwI 0 hts gX2_asString_J4_init_da8c8 rfl rfl rfl (hts (.initialized RJ4) (by decide +kernel)) (hts (.methodLink RX2 35 yJ4_init_da8c8) (by decide +kernel)) (hts (.instanceMethod yJ4_init_da8c8) (by decide +kernel)) rfl (by decide +kernel) ⟨Nat.le_of_ble_eq_true rfl, Nat.le_of_ble_eq_true rfl⟩) ⟨fun a U g mk q => by obtain ⟨q0, q1, qP, qK, qD, qG⟩ := q; exact ⟨q0, q1, qP, va_K.moved (u := U) (U := U.calling g mk a) (Vm.Alike.refl U.vm) qK, qD, gv.fb qG⟩, fun U hU hW => ⟨rfl, by rw [hU], by rw [hU]; exact hPc, va_K.moved hW.alike hKc, hDc.weaken (fun _ _ _ _ => trivial), gv.pass hW hU hS hFc hG⟩⟩ rfl rfl hl.1 rfl (lv_room (Nat.le_of_ble_eq_true rfl)) dX2_asString_4 ⟨Nat.le_of_ble_eq_true rfl, Nat.le_of_ble_eq_true rfl⟩) hS (fun q _ h => hFc q h) hFc (fun u t H1 locs ht hvm hw hB hz1 hk1 hS => ?_)
  obtain ⟨q2, cq3, hP1, hK1, hD1⟩ := hB
  rw [ht] at hP1
  have hK1 := va_K.moved hvm.symm hK1
  obtain ⟨hP, hD⟩ := va_join (wr := [(h0, .inr (6, [.ref z0, .int 0]))]) (w1 := [(q1, .inr (1, [.ref q2, .int 0, .int 0, .int 0])), (q2, .inl (cq3, 16, .inl (fun _ => 0)))]) hP hD [1] [0] rfl rfl (by decide) (by decide) hk1 hFc hP1 hD1
  have hK := hK.app (hK1.sub (tys' := [(cq3, .byte)]) [0] rfl)
  generalize H1 = H at hP hS ⊢
  have hK : va_K (dC, dI) vwCl [(cq3, .byte)] s := hK
  have hP : va_P (dC, dI) vwCl [(h0, .inr (6, [.ref z0, .int 0])), (q1, .inr (1, [.ref q2, .int 0, .int 0, .int 0])), (q2, .inl (cq3, 16, .inl (fun _ => 0)))] H := hP
  have hD : va_D A [(h0, .inr (6, [.ref z0, .int 0])), (q1, .inr (1, [.ref q2, .int 0, .int 0, .int 0])), (q2, .inl (cq3, 16, .inl (fun _ => 0)))] := hD
  refine W.widen (k := 2) (n := 20) (by omega) (by omega) ?_
  refine lv_astore_n (lv' := [(1, .ref q1), (0, .ref h0)]) hx hb dX2_asString_7 rfl hl (by decide) rfl (fun ls hl => ?_)
  refine lv_aload_n hx hb dX2_asString_8 rfl (lv_at hl 1 rfl) ?_
  refine lv_aload_n hx hb dX2_asString_9 rfl (lv_at hl 0 rfl) ?_
  have hPc := hP.sub (ws' := [(h0, .inr (6, [.ref z0, .int 0]))]) [0] rfl
  have hDc := hD.sub (ws' := [(h0, .inr (6, [.ref z0, .int 0]))]) [0] (by decide) rfl
  have hKc := hK.sub (tys' := []) [] rfl
  have hFc := va_free (wc := [(h0, .inr (6, [.ref z0, .int 0]))]) hD hS hA [0] rfl
  refine va_callv (va_runV (As := [.ref q1]) (rest := []) ⟨hx, hb, hml, hown, hts⟩ (kx_X2_appendTo_0 l dC dI h0 q1 z0 H.size) (cwV 1 hts gX2_asString_X2_appendTo rfl rfl rfl (by decide +kernel) ⟨Nat.le_of_ble_eq_true rfl, Nat.le_of_ble_eq_true rfl⟩) ⟨fun a U g mk q => by obtain ⟨q0, q1, qP, qK, qD⟩ := q; exact ⟨q0, q1, qP, va_K.moved (u := U) (U := U.calling g mk a) (Vm.Alike.refl U.vm) qK, qD⟩, va_recv hKc hPc (ci := 6) (q0 := 0) rfl rfl, fun U hU hW => ⟨rfl, by rw [hU], by rw [hU]; exact hPc, va_K.moved hW.alike hKc, hDc.weaken (fun _ _ _ _ => trivial)⟩⟩ rfl rfl hl.1 rfl (lv_room (Nat.le_of_ble_eq_true rfl)) dX2_asString_10 ⟨Nat.le_of_ble_eq_true rfl, Nat.le_of_ble_eq_true rfl⟩) hS (fun q _ h => hFc q h) hFc (fun u t H1 locs ht hvm hw hB hz1 hk1 hS => ?_)
  obtain ⟨hP1, hK1, hD1⟩ := hB
  rw [ht] at hP1
  have hK1 := va_K.moved hvm.symm hK1
  obtain ⟨hP, hD⟩ := va_join (wr := [(q1, .inr (1, [.ref q2, .int 0, .int 0, .int 0])), (q2, .inl (cq3, 16, .inl (fun _ => 0)))]) (w1 := [(h0, .inr (6, [.ref z0, .int 0]))]) hP hD [0] [1, 2] rfl rfl (by decide) (by decide) hk1 hFc hP1 hD1
  generalize H1 = H at hP hS ⊢
  have hP : va_P (dC, dI) vwCl [(q1, .inr (1, [.ref q2, .int 0, .int 0, .int 0])), (q2, .inl (cq3, 16, .inl (fun _ => 0))), (h0, .inr (6, [.ref z0, .int 0]))] H := hP
  have hD : va_D A [(q1, .inr (1, [.ref q2, .int 0, .int 0, .int 0])), (q2, .inl (cq3, 16, .inl (fun _ => 0))), (h0, .inr (6, [.ref z0, .int 0]))] := hD
  refine lv_aload_n hx hb dX2_asString_13 rfl (lv_at hl 0 rfl) ?_
  have hPc := hP.sub (ws' := [(q1, .inr (1, [.ref q2, .int 0, .int 0, .int 0])), (q2, .inl (cq3, 16, .inl (fun _ => 0)))]) [0, 1] rfl
  have hDc := hD.sub (ws' := [(q1, .inr (1, [.ref q2, .int 0, .int 0, .int 0])), (q2, .inl (cq3, 16, .inl (fun _ => 0)))]) [0, 1] (by decide) rfl
  have hKc := hK.sub (tys' := [(cq3, .byte)]) [0] rfl
  have hFc := va_free (wc := [(q1, .inr (1, [.ref q2, .int 0, .int 0, .int 0])), (q2, .inl (cq3, 16, .inl (fun _ => 0)))]) hD hS hA [0, 1] rfl
  refine va_callr (va_runV (As := []) (rest := []) ⟨hx, hb, hml, hown, hts⟩ (kx_J4_toString_0e30d_0 l dC dI ge5 gea gv5 gva gde gic gi0 q1 q2 cq3 H.size) (cwV 0 hts gX2_asString_J4_toString_0e30d rfl rfl rfl (by decide +kernel) ⟨Nat.le_of_ble_eq_true rfl, Nat.le_of_ble_eq_true rfl⟩) ⟨fun a U g mk q => by obtain ⟨q0, q1, qP, qK, qD, qG⟩ := q; exact ⟨q0, q1, qP, va_K.moved (u := U) (U := U.calling g mk a) (Vm.Alike.refl U.vm) qK, qD, gv.fb qG⟩, va_recv hKc hPc (ci := 1) (q0 := 0) rfl rfl, fun U hU hW => ⟨rfl, by rw [hU], by rw [hU]; exact hPc, va_K.moved hW.alike hKc, hDc.weaken (fun _ _ _ _ => trivial), gv.pass hW hU hS hFc hG⟩⟩ rfl rfl hl.1 rfl (lv_room (Nat.le_of_ble_eq_true rfl)) dX2_asString_14 ⟨Nat.le_of_ble_eq_true rfl, Nat.le_of_ble_eq_true rfl⟩) hS (fun q _ h => hFc q h) hFc (fun u ra t H1 locs ht hvm hw hB hz1 hk1 hS => ?_)
  obtain ⟨q4, q5, cq6, hra, hP1, hK1, hD1⟩ := hB
  rw [hra]
  rw [ht] at hP1
  have hK1 := va_K.moved hvm.symm hK1
  obtain ⟨hP, hD⟩ := va_join (wr := [(h0, .inr (6, [.ref z0, .int 0]))]) (w1 := [(q1, .inr (1, [.ref q2, .int 0, .int 0, .int 0])), (q2, .inl (cq3, 16, .inl (fun _ => 0))), (q4, .inr (0, [.ref q5, .int 0, .int 0, .int 0])), (q5, .inl (cq6, 0, .inl (fun _ => 0)))]) hP hD [0, 1] [2] rfl rfl (by decide) (by decide) hk1 hFc hP1 hD1
  have hK := hK.app (hK1.sub (tys' := [(cq6, .byte)]) [1] rfl)
  generalize H1 = H at hP hS ⊢
  have hK : va_K (dC, dI) vwCl [(cq3, .byte), (cq6, .byte)] s := hK
  have hP : va_P (dC, dI) vwCl [(h0, .inr (6, [.ref z0, .int 0])), (q1, .inr (1, [.ref q2, .int 0, .int 0, .int 0])), (q2, .inl (cq3, 16, .inl (fun _ => 0))), (q4, .inr (0, [.ref q5, .int 0, .int 0, .int 0])), (q5, .inl (cq6, 0, .inl (fun _ => 0)))] H := hP
  have hD : va_D A [(h0, .inr (6, [.ref z0, .int 0])), (q1, .inr (1, [.ref q2, .int 0, .int 0, .int 0])), (q2, .inl (cq3, 16, .inl (fun _ => 0))), (q4, .inr (0, [.ref q5, .int 0, .int 0, .int 0])), (q5, .inl (cq6, 0, .inl (fun _ => 0)))] := hD
  refine W.widen (k := 4) (n := 24) (by omega) (by omega) ?_
  exact W.aret (v := .ref q4) hx hb hr (Or.inl ⟨_, rfl⟩) (Or.inr ⟨_, rfl⟩) (fun t ht hW => ⟨⟨(), q4, rfl, trivial, q1, q2, q4, q5, cq3, cq6, rfl, by rw [ht]; exact hP, va_K.moved hW.alike hK, hD⟩, hS.F ht⟩) hS.2.2 dX2_asString_17
set_option maxHeartbeats 4000000 in
set_option maxRecDepth 100000 in
theorem kx_X3_text_0 (l : Launch) (dC : Nat → ClassId) (dI : Nat → Nat → Nat) (ge5 gea gv5 gva gde gic gi0 : Nat) (h0 : Nat) (h1 : Nat) (h2 : Nat) (h3 : Nat) (h4 : Nat) (h5 : Nat) (z0 : Nat) (z1 : Nat) (z2 : Nat) (z3 : Nat) (z4 : Nat) (z5 : Nat) (z6 : Nat) (z7 : Nat) (z8 : Nat) (k0 : ClassId) (sz : Nat) : Met l yX3_text wsX3_text ({ frames := 7, cells := 4, slots := 24, locals := 192 }) (va_Pc [.ref h0, .int 0] (fun U => U.heap.size = sz ∧ va_P (dC, dI) vwCl [(h0, .inr (7, [.ref h1, .ref z0, .ref z1, .ref z2, .ref z3, .ref z4, .int 0, .int 0, .int 0])), (h1, .inl (k0, 4, .inr (.inr (.inr (.inr (va_up (va_up (va_up (va_up (fun _ => none) 0 (some h2)) 1 (some h3)) 2 (some h4)) 3 (some h5))))))), (h2, .inr (6, [.ref z5, .int 0])), (h3, .inr (6, [.ref z6, .int 0])), (h4, .inr (6, [.ref z7, .int 0])), (h5, .inr (6, [.ref z8, .int 0]))] U.heap ∧ va_K (dC, dI) vwCl [(k0, .object "Rewriterope$Text")] U ∧ va_D (fun _ => True) [(h0, .inr (7, [.ref h1, .ref z0, .ref z1, .ref z2, .ref z3, .ref z4, .int 0, .int 0, .int 0])), (h1, .inl (k0, 4, .inr (.inr (.inr (.inr (va_up (va_up (va_up (va_up (fun _ => none) 0 (some h2)) 1 (some h3)) 2 (some h4)) 3 (some h5))))))), (h2, .inr (6, [.ref z5, .int 0])), (h3, .inr (6, [.ref z6, .int 0])), (h4, .inr (6, [.ref z7, .int 0])), (h5, .inr (6, [.ref z8, .int 0]))] ∧ gv ge5 gea gv5 gva gde gic gi0 (va_A [(h0, .inr (7, [.ref h1, .ref z0, .ref z1, .ref z2, .ref z3, .ref z4, .int 0, .int 0, .int 0])), (h1, .inl (k0, 4, .inr (.inr (.inr (.inr (va_up (va_up (va_up (va_up (fun _ => none) 0 (some h2)) 1 (some h3)) 2 (some h4)) 3 (some h5))))))), (h2, .inr (6, [.ref z5, .int 0])), (h3, .inr (6, [.ref z6, .int 0])), (h4, .inr (6, [.ref z7, .int 0])), (h5, .inr (6, [.ref z8, .int 0]))] sz) U U.heap)) (va_Qr (fun _ : Unit => True) (fun (_ : Unit) (ra : Nat) (t : State) => ∃ q1 : Nat, ∃ q2 : Nat, ∃ q3 : Nat, ∃ q4 : Nat, ∃ cq5 : ClassId, ∃ cq6 : ClassId, ra = q3 ∧ va_P (dC, dI) vwCl [(h0, .inr (7, [.ref h1, .ref z0, .ref z1, .ref z2, .ref z3, .ref z4, .int 0, .int 0, .int 0])), (h1, .inl (k0, 4, .inr (.inr (.inr (.inr (va_up (va_up (va_up (va_up (fun _ => none) 0 (some h2)) 1 (some h3)) 2 (some h4)) 3 (some h5))))))), (h2, .inr (6, [.ref z5, .int 0])), (h3, .inr (6, [.ref z6, .int 0])), (h4, .inr (6, [.ref z7, .int 0])), (h5, .inr (6, [.ref z8, .int 0])), (q1, .inr (1, [.ref q2, .int 0, .int 0, .int 0])), (q2, .inl (cq5, 16, .inl (fun _ => 0))), (q3, .inr (0, [.ref q4, .int 0, .int 0, .int 0])), (q4, .inl (cq6, 0, .inl (fun _ => 0)))] t.heap ∧ va_K (dC, dI) vwCl [(k0, .object "Rewriterope$Text"), (cq5, .byte), (cq6, .byte)] t ∧ va_D (va_A [(h0, .inr (7, [.ref h1, .ref z0, .ref z1, .ref z2, .ref z3, .ref z4, .int 0, .int 0, .int 0])), (h1, .inl (k0, 4, .inr (.inr (.inr (.inr (va_up (va_up (va_up (va_up (fun _ => none) 0 (some h2)) 1 (some h3)) 2 (some h4)) 3 (some h5))))))), (h2, .inr (6, [.ref z5, .int 0])), (h3, .inr (6, [.ref z6, .int 0])), (h4, .inr (6, [.ref z7, .int 0])), (h5, .inr (6, [.ref z8, .int 0]))] sz) [(h0, .inr (7, [.ref h1, .ref z0, .ref z1, .ref z2, .ref z3, .ref z4, .int 0, .int 0, .int 0])), (h1, .inl (k0, 4, .inr (.inr (.inr (.inr (va_up (va_up (va_up (va_up (fun _ => none) 0 (some h2)) 1 (some h3)) 2 (some h4)) 3 (some h5))))))), (h2, .inr (6, [.ref z5, .int 0])), (h3, .inr (6, [.ref z6, .int 0])), (h4, .inr (6, [.ref z7, .int 0])), (h5, .inr (6, [.ref z8, .int 0])), (q1, .inr (1, [.ref q2, .int 0, .int 0, .int 0])), (q2, .inl (cq5, 16, .inl (fun _ => 0))), (q3, .inr (0, [.ref q4, .int 0, .int 0, .int 0])), (q4, .inl (cq6, 0, .inl (fun _ => 0)))]) (va_A [(h0, .inr (7, [.ref h1, .ref z0, .ref z1, .ref z2, .ref z3, .ref z4, .int 0, .int 0, .int 0])), (h1, .inl (k0, 4, .inr (.inr (.inr (.inr (va_up (va_up (va_up (va_up (fun _ => none) 0 (some h2)) 1 (some h3)) 2 (some h4)) 3 (some h5))))))), (h2, .inr (6, [.ref z5, .int 0])), (h3, .inr (6, [.ref z6, .int 0])), (h4, .inr (6, [.ref z7, .int 0])), (h5, .inr (6, [.ref z8, .int 0]))] sz)) 4 24 (va_A [(h0, .inr (7, [.ref h1, .ref z0, .ref z1, .ref z2, .ref z3, .ref z4, .int 0, .int 0, .int 0])), (h1, .inl (k0, 4, .inr (.inr (.inr (.inr (va_up (va_up (va_up (va_up (fun _ => none) 0 (some h2)) 1 (some h3)) 2 (some h4)) 3 (some h5))))))), (h2, .inr (6, [.ref z5, .int 0])), (h3, .inr (6, [.ref z6, .int 0])), (h4, .inr (6, [.ref z7, .int 0])), (h5, .inr (6, [.ref z8, .int 0]))] sz) := by
  refine Met.ofW (cc := cX3_text) (maxL := 2) (ret := (some (.object "java/lang/String"))) (by decide) rfl ?_
  intro p e s m args below meth c s₁ B hml hv
  obtain ⟨rfl, hsz, hP, hK, hD0, hG⟩ := hv
  have hx := B.exec
  have hb := B.bytes
  have hr := B.returns
  have hts := atoms_spec (ws := wsX3_text) B.pre
  have hown : s.vm.findClass RX3 = some m.cls := findClass_of_methodNamed B.named
  have hlocks := B.notSynchronized
  subst hsz
  have hD := hD0.self (sz := s.heap.size)
  generalize hAe : va_A [(h0, .inr (7, [.ref h1, .ref z0, .ref z1, .ref z2, .ref z3, .ref z4, .int 0, .int 0, .int 0])), (h1, .inl (k0, 4, .inr (.inr (.inr (.inr (va_up (va_up (va_up (va_up (fun _ => none) 0 (some h2)) 1 (some h3)) 2 (some h4)) 3 (some h5))))))), (h2, .inr (6, [.ref z5, .int 0])), (h3, .inr (6, [.ref z6, .int 0])), (h4, .inr (6, [.ref z7, .int 0])), (h5, .inr (6, [.ref z8, .int 0]))] s.heap.size = A at hD hG ⊢
  obtain ⟨⟨g_AO_Text, g_AO_String, g_AO_Object, g_nm_RX1_20, g_nm_RX0_17, g_nm_RX3_31, g_nm_RX2_44, g_nm_RL_121, g_nf_RL_13, g_nf_RL_47, g_ca_IO, g_ca_IA, g_ca_IS, g_ca_IntObj, g_ca_StrObj, g_de_RT, g_de_EX, g_de_TH, g_nc_IA_IO, g_nc_IS_IO, g_nc_IS_IA⟩, ⟨g_s3, g_s5, g_sa, g_x278, g_x280, g_x282, g_x284, g_x286, g_x180, g_x238, g_x250⟩, ⟨g_o5, g_c5, g_v5, g_t5, g_oa, g_ca, g_va, g_ta, g_zc, g_zd, g_td, g_zf, g_zU, g_zN, g_zh, g_zk, g_tk, g_oi, g_vi⟩⟩ := id hG
  have hA : ∀ q : Nat, s.heap.size ≤ q → A q := fun q h => by rw [← hAe]; exact Or.inr h
  have hS : va_S A s.heap s.heap [] := va_S.rf
  have hP : va_P (dC, dI) vwCl [(h0, .inr (7, [.ref h1, .ref z0, .ref z1, .ref z2, .ref z3, .ref z4, .int 0, .int 0, .int 0])), (h1, .inl (k0, 4, .inr (.inr (.inr (.inr (va_up (va_up (va_up (va_up (fun _ => none) 0 (some h2)) 1 (some h3)) 2 (some h4)) 3 (some h5))))))), (h2, .inr (6, [.ref z5, .int 0])), (h3, .inr (6, [.ref z6, .int 0])), (h4, .inr (6, [.ref z7, .int 0])), (h5, .inr (6, [.ref z8, .int 0]))] s.heap := hP
  have hl := lv_entry ([.ref h0, .int 0]) (n := 2) (Nat.le_of_ble_eq_true rfl)
  rw [lg_entry_eq]
  generalize (lg_sl ([.ref h0, .int 0]) ++ List.replicate (2 - (lg_sl ([.ref h0, .int 0])).length) Slot.unset).toArray = ls at hl ⊢
  have hl : lv_has ls 2 [(0, .ref h0), (1, .int 0)] := hl
  refine lv_iload_n hx hb dX3_text_0 rfl (lv_at hl 1 rfl) ?_
  have hPc := hP.sub (ws' := []) [] rfl
  have hDc := hD.sub (ws' := []) [] (by decide) rfl
  have hKc := hK.sub (tys' := []) [] rfl
  have hFc := va_free (wc := []) hD hS hA [] rfl
  refine va_callv (va_runS (As := [.int 0]) (rest := []) ⟨hx, hb, hml, hown, hts⟩ (kx_X3_needRope_0 l dC dI s.heap.size) (cwS 1 hts gX3_text_X3_needRope rfl rfl rfl (by decide +kernel) ⟨Nat.le_of_ble_eq_true rfl, Nat.le_of_ble_eq_true rfl⟩) ⟨fun a U g mk q => by obtain ⟨q0, q1, qP, qK, qD⟩ := q; exact ⟨q0, q1, qP, va_K.moved (u := U) (U := U.calling g mk a) (Vm.Alike.refl U.vm) qK, qD⟩, fun U hU hW => ⟨rfl, by rw [hU], by rw [hU]; exact hPc, va_K.moved hW.alike hKc, hDc.weaken (fun _ _ _ _ => trivial)⟩⟩ rfl rfl hl.1 rfl (lv_room (Nat.le_of_ble_eq_true rfl)) dX3_text_1 ⟨Nat.le_of_ble_eq_true rfl, Nat.le_of_ble_eq_true rfl⟩) hS (fun q _ h => hFc q h) hFc (fun u t H1 locs ht hvm hw hB hz1 hk1 hS => ?_)
  obtain ⟨hP1, hK1, hD1⟩ := hB
  rw [ht] at hP1
  have hK1 := va_K.moved hvm.symm hK1
  obtain ⟨hP, hD⟩ := va_join (wr := [(h0, .inr (7, [.ref h1, .ref z0, .ref z1, .ref z2, .ref z3, .ref z4, .int 0, .int 0, .int 0])), (h1, .inl (k0, 4, .inr (.inr (.inr (.inr (va_up (va_up (va_up (va_up (fun _ => none) 0 (some h2)) 1 (some h3)) 2 (some h4)) 3 (some h5))))))), (h2, .inr (6, [.ref z5, .int 0])), (h3, .inr (6, [.ref z6, .int 0])), (h4, .inr (6, [.ref z7, .int 0])), (h5, .inr (6, [.ref z8, .int 0]))]) (w1 := []) hP hD [] [0, 1, 2, 3, 4, 5] rfl rfl (by decide) (by decide) hk1 hFc hP1 hD1
  generalize H1 = H at hP hS ⊢
  have hP : va_P (dC, dI) vwCl [(h0, .inr (7, [.ref h1, .ref z0, .ref z1, .ref z2, .ref z3, .ref z4, .int 0, .int 0, .int 0])), (h1, .inl (k0, 4, .inr (.inr (.inr (.inr (va_up (va_up (va_up (va_up (fun _ => none) 0 (some h2)) 1 (some h3)) 2 (some h4)) 3 (some h5))))))), (h2, .inr (6, [.ref z5, .int 0])), (h3, .inr (6, [.ref z6, .int 0])), (h4, .inr (6, [.ref z7, .int 0])), (h5, .inr (6, [.ref z8, .int 0]))] H := hP
  have hD : va_D A [(h0, .inr (7, [.ref h1, .ref z0, .ref z1, .ref z2, .ref z3, .ref z4, .int 0, .int 0, .int 0])), (h1, .inl (k0, 4, .inr (.inr (.inr (.inr (va_up (va_up (va_up (va_up (fun _ => none) 0 (some h2)) 1 (some h3)) 2 (some h4)) 3 (some h5))))))), (h2, .inr (6, [.ref z5, .int 0])), (h3, .inr (6, [.ref z6, .int 0])), (h4, .inr (6, [.ref z7, .int 0])), (h5, .inr (6, [.ref z8, .int 0]))] := hD
  refine lv_aload_n hx hb dX3_text_4 rfl (lv_at hl 0 rfl) ?_
  refine va_get (D := (dC, dI)) (ci := 7) (v := .ref h1) (C := RX3) (T := TX3) (N := 9) hx hb hts (by decide +kernel) hown hK hP 0 rfl rfl 0 (by decide) (hts (.fieldLink RX3 11 "Rewriterope" "ropes" "[LRewriterope$Text;") (by decide +kernel)) (fun _ h9 => h9) rfl dX3_text_5 ?_
  refine lv_iload_n hx hb dX3_text_8 rfl (lv_at hl 1 rfl) ?_
  refine va_aldq (D := (dC, dI)) hx hb hK hP 1 0 rfl rfl (by unfold vp_in; decide) dX3_text_9 ?_
  refine W.eq (g2 := F0 m 10 ls [.ref h2]) rfl ?_
  have hPc := hP.sub (ws' := [(h2, .inr (6, [.ref z5, .int 0]))]) [2] rfl
  have hDc := hD.sub (ws' := [(h2, .inr (6, [.ref z5, .int 0]))]) [2] (by decide) rfl
  have hKc := hK.sub (tys' := []) [] rfl
  have hFc := va_free (wc := [(h2, .inr (6, [.ref z5, .int 0]))]) hD hS hA [2] rfl
  refine va_callr (va_runV (As := []) (rest := []) ⟨hx, hb, hml, hown, hts⟩ (kx_X2_asString_0 l dC dI ge5 gea gv5 gva gde gic gi0 h2 z5 H.size) (cwV 0 hts gX3_text_X2_asString rfl rfl rfl (by decide +kernel) ⟨Nat.le_of_ble_eq_true rfl, Nat.le_of_ble_eq_true rfl⟩) ⟨fun a U g mk q => by obtain ⟨q0, q1, qP, qK, qD, qG⟩ := q; exact ⟨q0, q1, qP, va_K.moved (u := U) (U := U.calling g mk a) (Vm.Alike.refl U.vm) qK, qD, gv.fb qG⟩, va_recv hKc hPc (ci := 6) (q0 := 0) rfl rfl, fun U hU hW => ⟨rfl, by rw [hU], by rw [hU]; exact hPc, va_K.moved hW.alike hKc, hDc.weaken (fun _ _ _ _ => trivial), gv.pass hW hU hS hFc hG⟩⟩ rfl rfl hl.1 rfl (lv_room (Nat.le_of_ble_eq_true rfl)) dX3_text_10 ⟨Nat.le_of_ble_eq_true rfl, Nat.le_of_ble_eq_true rfl⟩) hS (fun q _ h => hFc q h) hFc (fun u ra t H1 locs ht hvm hw hB hz1 hk1 hS => ?_)
  obtain ⟨q1, q2, q3, q4, cq5, cq6, hra, hP1, hK1, hD1⟩ := hB
  rw [hra]
  rw [ht] at hP1
  have hK1 := va_K.moved hvm.symm hK1
  obtain ⟨hP, hD⟩ := va_join (wr := [(h0, .inr (7, [.ref h1, .ref z0, .ref z1, .ref z2, .ref z3, .ref z4, .int 0, .int 0, .int 0])), (h1, .inl (k0, 4, .inr (.inr (.inr (.inr (va_up (va_up (va_up (va_up (fun _ => none) 0 (some h2)) 1 (some h3)) 2 (some h4)) 3 (some h5))))))), (h3, .inr (6, [.ref z6, .int 0])), (h4, .inr (6, [.ref z7, .int 0])), (h5, .inr (6, [.ref z8, .int 0]))]) (w1 := [(h2, .inr (6, [.ref z5, .int 0])), (q1, .inr (1, [.ref q2, .int 0, .int 0, .int 0])), (q2, .inl (cq5, 16, .inl (fun _ => 0))), (q3, .inr (0, [.ref q4, .int 0, .int 0, .int 0])), (q4, .inl (cq6, 0, .inl (fun _ => 0)))]) hP hD [2] [0, 1, 3, 4, 5] rfl rfl (by decide) (by decide) hk1 hFc hP1 hD1
  have hK := hK.app (hK1.sub (tys' := [(cq5, .byte), (cq6, .byte)]) [0, 1] rfl)
  generalize H1 = H at hP hS ⊢
  have hK : va_K (dC, dI) vwCl [(k0, .object "Rewriterope$Text"), (cq5, .byte), (cq6, .byte)] s := hK
  have hP : va_P (dC, dI) vwCl [(h0, .inr (7, [.ref h1, .ref z0, .ref z1, .ref z2, .ref z3, .ref z4, .int 0, .int 0, .int 0])), (h1, .inl (k0, 4, .inr (.inr (.inr (.inr (va_up (va_up (va_up (va_up (fun _ => none) 0 (some h2)) 1 (some h3)) 2 (some h4)) 3 (some h5))))))), (h3, .inr (6, [.ref z6, .int 0])), (h4, .inr (6, [.ref z7, .int 0])), (h5, .inr (6, [.ref z8, .int 0])), (h2, .inr (6, [.ref z5, .int 0])), (q1, .inr (1, [.ref q2, .int 0, .int 0, .int 0])), (q2, .inl (cq5, 16, .inl (fun _ => 0))), (q3, .inr (0, [.ref q4, .int 0, .int 0, .int 0])), (q4, .inl (cq6, 0, .inl (fun _ => 0)))] H := hP
  have hD : va_D A [(h0, .inr (7, [.ref h1, .ref z0, .ref z1, .ref z2, .ref z3, .ref z4, .int 0, .int 0, .int 0])), (h1, .inl (k0, 4, .inr (.inr (.inr (.inr (va_up (va_up (va_up (va_up (fun _ => none) 0 (some h2)) 1 (some h3)) 2 (some h4)) 3 (some h5))))))), (h3, .inr (6, [.ref z6, .int 0])), (h4, .inr (6, [.ref z7, .int 0])), (h5, .inr (6, [.ref z8, .int 0])), (h2, .inr (6, [.ref z5, .int 0])), (q1, .inr (1, [.ref q2, .int 0, .int 0, .int 0])), (q2, .inl (cq5, 16, .inl (fun _ => 0))), (q3, .inr (0, [.ref q4, .int 0, .int 0, .int 0])), (q4, .inl (cq6, 0, .inl (fun _ => 0)))] := hD
  refine W.widen (k := 4) (n := 24) (by omega) (by omega) ?_
  have hP := hP.sub (ws' := [(h0, .inr (7, [.ref h1, .ref z0, .ref z1, .ref z2, .ref z3, .ref z4, .int 0, .int 0, .int 0])), (h1, .inl (k0, 4, .inr (.inr (.inr (.inr (va_up (va_up (va_up (va_up (fun _ => none) 0 (some h2)) 1 (some h3)) 2 (some h4)) 3 (some h5))))))), (h2, .inr (6, [.ref z5, .int 0])), (h3, .inr (6, [.ref z6, .int 0])), (h4, .inr (6, [.ref z7, .int 0])), (h5, .inr (6, [.ref z8, .int 0])), (q1, .inr (1, [.ref q2, .int 0, .int 0, .int 0])), (q2, .inl (cq5, 16, .inl (fun _ => 0))), (q3, .inr (0, [.ref q4, .int 0, .int 0, .int 0])), (q4, .inl (cq6, 0, .inl (fun _ => 0)))]) [0, 1, 5, 2, 3, 4, 6, 7, 8, 9] rfl
  have hD := hD.sub (ws' := [(h0, .inr (7, [.ref h1, .ref z0, .ref z1, .ref z2, .ref z3, .ref z4, .int 0, .int 0, .int 0])), (h1, .inl (k0, 4, .inr (.inr (.inr (.inr (va_up (va_up (va_up (va_up (fun _ => none) 0 (some h2)) 1 (some h3)) 2 (some h4)) 3 (some h5))))))), (h2, .inr (6, [.ref z5, .int 0])), (h3, .inr (6, [.ref z6, .int 0])), (h4, .inr (6, [.ref z7, .int 0])), (h5, .inr (6, [.ref z8, .int 0])), (q1, .inr (1, [.ref q2, .int 0, .int 0, .int 0])), (q2, .inl (cq5, 16, .inl (fun _ => 0))), (q3, .inr (0, [.ref q4, .int 0, .int 0, .int 0])), (q4, .inl (cq6, 0, .inl (fun _ => 0)))]) [0, 1, 5, 2, 3, 4, 6, 7, 8, 9] (by decide) rfl
  exact W.aret (v := .ref q3) hx hb hr (Or.inl ⟨_, rfl⟩) (Or.inr ⟨_, rfl⟩) (fun t ht hW => ⟨⟨(), q3, rfl, trivial, q1, q2, q3, q4, cq5, cq6, rfl, by rw [ht]; exact hP, va_K.moved hW.alike hK, hD⟩, hS.F ht⟩) hS.2.2 dX3_text_13
set_option maxHeartbeats 4000000 in
set_option maxRecDepth 100000 in
theorem kx_X3_text_1 (l : Launch) (dC : Nat → ClassId) (dI : Nat → Nat → Nat) (ge5 gea gv5 gva gde gic gi0 : Nat) (h0 : Nat) (h1 : Nat) (h2 : Nat) (h3 : Nat) (h4 : Nat) (h5 : Nat) (z0 : Nat) (z1 : Nat) (z2 : Nat) (z3 : Nat) (z4 : Nat) (z5 : Nat) (z6 : Nat) (z7 : Nat) (z8 : Nat) (k0 : ClassId) (sz : Nat) : Met l yX3_text wsX3_text ({ frames := 7, cells := 4, slots := 24, locals := 192 }) (va_Pc [.ref h0, .int 1] (fun U => U.heap.size = sz ∧ va_P (dC, dI) vwCl [(h0, .inr (7, [.ref h1, .ref z0, .ref z1, .ref z2, .ref z3, .ref z4, .int 0, .int 0, .int 0])), (h1, .inl (k0, 4, .inr (.inr (.inr (.inr (va_up (va_up (va_up (va_up (fun _ => none) 0 (some h2)) 1 (some h3)) 2 (some h4)) 3 (some h5))))))), (h2, .inr (6, [.ref z5, .int 0])), (h3, .inr (6, [.ref z6, .int 0])), (h4, .inr (6, [.ref z7, .int 0])), (h5, .inr (6, [.ref z8, .int 0]))] U.heap ∧ va_K (dC, dI) vwCl [(k0, .object "Rewriterope$Text")] U ∧ va_D (fun _ => True) [(h0, .inr (7, [.ref h1, .ref z0, .ref z1, .ref z2, .ref z3, .ref z4, .int 0, .int 0, .int 0])), (h1, .inl (k0, 4, .inr (.inr (.inr (.inr (va_up (va_up (va_up (va_up (fun _ => none) 0 (some h2)) 1 (some h3)) 2 (some h4)) 3 (some h5))))))), (h2, .inr (6, [.ref z5, .int 0])), (h3, .inr (6, [.ref z6, .int 0])), (h4, .inr (6, [.ref z7, .int 0])), (h5, .inr (6, [.ref z8, .int 0]))] ∧ gv ge5 gea gv5 gva gde gic gi0 (va_A [(h0, .inr (7, [.ref h1, .ref z0, .ref z1, .ref z2, .ref z3, .ref z4, .int 0, .int 0, .int 0])), (h1, .inl (k0, 4, .inr (.inr (.inr (.inr (va_up (va_up (va_up (va_up (fun _ => none) 0 (some h2)) 1 (some h3)) 2 (some h4)) 3 (some h5))))))), (h2, .inr (6, [.ref z5, .int 0])), (h3, .inr (6, [.ref z6, .int 0])), (h4, .inr (6, [.ref z7, .int 0])), (h5, .inr (6, [.ref z8, .int 0]))] sz) U U.heap)) (va_Qr (fun _ : Unit => True) (fun (_ : Unit) (ra : Nat) (t : State) => ∃ q1 : Nat, ∃ q2 : Nat, ∃ q3 : Nat, ∃ q4 : Nat, ∃ cq5 : ClassId, ∃ cq6 : ClassId, ra = q3 ∧ va_P (dC, dI) vwCl [(h0, .inr (7, [.ref h1, .ref z0, .ref z1, .ref z2, .ref z3, .ref z4, .int 0, .int 0, .int 0])), (h1, .inl (k0, 4, .inr (.inr (.inr (.inr (va_up (va_up (va_up (va_up (fun _ => none) 0 (some h2)) 1 (some h3)) 2 (some h4)) 3 (some h5))))))), (h2, .inr (6, [.ref z5, .int 0])), (h3, .inr (6, [.ref z6, .int 0])), (h4, .inr (6, [.ref z7, .int 0])), (h5, .inr (6, [.ref z8, .int 0])), (q1, .inr (1, [.ref q2, .int 0, .int 0, .int 0])), (q2, .inl (cq5, 16, .inl (fun _ => 0))), (q3, .inr (0, [.ref q4, .int 0, .int 0, .int 0])), (q4, .inl (cq6, 0, .inl (fun _ => 0)))] t.heap ∧ va_K (dC, dI) vwCl [(k0, .object "Rewriterope$Text"), (cq5, .byte), (cq6, .byte)] t ∧ va_D (va_A [(h0, .inr (7, [.ref h1, .ref z0, .ref z1, .ref z2, .ref z3, .ref z4, .int 0, .int 0, .int 0])), (h1, .inl (k0, 4, .inr (.inr (.inr (.inr (va_up (va_up (va_up (va_up (fun _ => none) 0 (some h2)) 1 (some h3)) 2 (some h4)) 3 (some h5))))))), (h2, .inr (6, [.ref z5, .int 0])), (h3, .inr (6, [.ref z6, .int 0])), (h4, .inr (6, [.ref z7, .int 0])), (h5, .inr (6, [.ref z8, .int 0]))] sz) [(h0, .inr (7, [.ref h1, .ref z0, .ref z1, .ref z2, .ref z3, .ref z4, .int 0, .int 0, .int 0])), (h1, .inl (k0, 4, .inr (.inr (.inr (.inr (va_up (va_up (va_up (va_up (fun _ => none) 0 (some h2)) 1 (some h3)) 2 (some h4)) 3 (some h5))))))), (h2, .inr (6, [.ref z5, .int 0])), (h3, .inr (6, [.ref z6, .int 0])), (h4, .inr (6, [.ref z7, .int 0])), (h5, .inr (6, [.ref z8, .int 0])), (q1, .inr (1, [.ref q2, .int 0, .int 0, .int 0])), (q2, .inl (cq5, 16, .inl (fun _ => 0))), (q3, .inr (0, [.ref q4, .int 0, .int 0, .int 0])), (q4, .inl (cq6, 0, .inl (fun _ => 0)))]) (va_A [(h0, .inr (7, [.ref h1, .ref z0, .ref z1, .ref z2, .ref z3, .ref z4, .int 0, .int 0, .int 0])), (h1, .inl (k0, 4, .inr (.inr (.inr (.inr (va_up (va_up (va_up (va_up (fun _ => none) 0 (some h2)) 1 (some h3)) 2 (some h4)) 3 (some h5))))))), (h2, .inr (6, [.ref z5, .int 0])), (h3, .inr (6, [.ref z6, .int 0])), (h4, .inr (6, [.ref z7, .int 0])), (h5, .inr (6, [.ref z8, .int 0]))] sz)) 4 24 (va_A [(h0, .inr (7, [.ref h1, .ref z0, .ref z1, .ref z2, .ref z3, .ref z4, .int 0, .int 0, .int 0])), (h1, .inl (k0, 4, .inr (.inr (.inr (.inr (va_up (va_up (va_up (va_up (fun _ => none) 0 (some h2)) 1 (some h3)) 2 (some h4)) 3 (some h5))))))), (h2, .inr (6, [.ref z5, .int 0])), (h3, .inr (6, [.ref z6, .int 0])), (h4, .inr (6, [.ref z7, .int 0])), (h5, .inr (6, [.ref z8, .int 0]))] sz) := by
  refine Met.ofW (cc := cX3_text) (maxL := 2) (ret := (some (.object "java/lang/String"))) (by decide) rfl ?_
  intro p e s m args below meth c s₁ B hml hv
  obtain ⟨rfl, hsz, hP, hK, hD0, hG⟩ := hv
  have hx := B.exec
  have hb := B.bytes
  have hr := B.returns
  have hts := atoms_spec (ws := wsX3_text) B.pre
  have hown : s.vm.findClass RX3 = some m.cls := findClass_of_methodNamed B.named
  have hlocks := B.notSynchronized
  subst hsz
  have hD := hD0.self (sz := s.heap.size)
  generalize hAe : va_A [(h0, .inr (7, [.ref h1, .ref z0, .ref z1, .ref z2, .ref z3, .ref z4, .int 0, .int 0, .int 0])), (h1, .inl (k0, 4, .inr (.inr (.inr (.inr (va_up (va_up (va_up (va_up (fun _ => none) 0 (some h2)) 1 (some h3)) 2 (some h4)) 3 (some h5))))))), (h2, .inr (6, [.ref z5, .int 0])), (h3, .inr (6, [.ref z6, .int 0])), (h4, .inr (6, [.ref z7, .int 0])), (h5, .inr (6, [.ref z8, .int 0]))] s.heap.size = A at hD hG ⊢
  obtain ⟨⟨g_AO_Text, g_AO_String, g_AO_Object, g_nm_RX1_20, g_nm_RX0_17, g_nm_RX3_31, g_nm_RX2_44, g_nm_RL_121, g_nf_RL_13, g_nf_RL_47, g_ca_IO, g_ca_IA, g_ca_IS, g_ca_IntObj, g_ca_StrObj, g_de_RT, g_de_EX, g_de_TH, g_nc_IA_IO, g_nc_IS_IO, g_nc_IS_IA⟩, ⟨g_s3, g_s5, g_sa, g_x278, g_x280, g_x282, g_x284, g_x286, g_x180, g_x238, g_x250⟩, ⟨g_o5, g_c5, g_v5, g_t5, g_oa, g_ca, g_va, g_ta, g_zc, g_zd, g_td, g_zf, g_zU, g_zN, g_zh, g_zk, g_tk, g_oi, g_vi⟩⟩ := id hG
  have hA : ∀ q : Nat, s.heap.size ≤ q → A q := fun q h => by rw [← hAe]; exact Or.inr h
  have hS : va_S A s.heap s.heap [] := va_S.rf
  have hP : va_P (dC, dI) vwCl [(h0, .inr (7, [.ref h1, .ref z0, .ref z1, .ref z2, .ref z3, .ref z4, .int 0, .int 0, .int 0])), (h1, .inl (k0, 4, .inr (.inr (.inr (.inr (va_up (va_up (va_up (va_up (fun _ => none) 0 (some h2)) 1 (some h3)) 2 (some h4)) 3 (some h5))))))), (h2, .inr (6, [.ref z5, .int 0])), (h3, .inr (6, [.ref z6, .int 0])), (h4, .inr (6, [.ref z7, .int 0])), (h5, .inr (6, [.ref z8, .int 0]))] s.heap := hP
  have hl := lv_entry ([.ref h0, .int 1]) (n := 2) (Nat.le_of_ble_eq_true rfl)
  rw [lg_entry_eq]
  generalize (lg_sl ([.ref h0, .int 1]) ++ List.replicate (2 - (lg_sl ([.ref h0, .int 1])).length) Slot.unset).toArray = ls at hl ⊢
  have hl : lv_has ls 2 [(0, .ref h0), (1, .int 1)] := hl
  refine lv_iload_n hx hb dX3_text_0 rfl (lv_at hl 1 rfl) ?_
  have hPc := hP.sub (ws' := []) [] rfl
  have hDc := hD.sub (ws' := []) [] (by decide) rfl
  have hKc := hK.sub (tys' := []) [] rfl
  have hFc := va_free (wc := []) hD hS hA [] rfl
  refine va_callv (va_runS (As := [.int 1]) (rest := []) ⟨hx, hb, hml, hown, hts⟩ (kx_X3_needRope_1 l dC dI s.heap.size) (cwS 1 hts gX3_text_X3_needRope rfl rfl rfl (by decide +kernel) ⟨Nat.le_of_ble_eq_true rfl, Nat.le_of_ble_eq_true rfl⟩) ⟨fun a U g mk q => by obtain ⟨q0, q1, qP, qK, qD⟩ := q; exact ⟨q0, q1, qP, va_K.moved (u := U) (U := U.calling g mk a) (Vm.Alike.refl U.vm) qK, qD⟩, fun U hU hW => ⟨rfl, by rw [hU], by rw [hU]; exact hPc, va_K.moved hW.alike hKc, hDc.weaken (fun _ _ _ _ => trivial)⟩⟩ rfl rfl hl.1 rfl (lv_room (Nat.le_of_ble_eq_true rfl)) dX3_text_1 ⟨Nat.le_of_ble_eq_true rfl, Nat.le_of_ble_eq_true rfl⟩) hS (fun q _ h => hFc q h) hFc (fun u t H1 locs ht hvm hw hB hz1 hk1 hS => ?_)
  obtain ⟨hP1, hK1, hD1⟩ := hB
  rw [ht] at hP1
  have hK1 := va_K.moved hvm.symm hK1
  obtain ⟨hP, hD⟩ := va_join (wr := [(h0, .inr (7, [.ref h1, .ref z0, .ref z1, .ref z2, .ref z3, .ref z4, .int 0, .int 0, .int 0])), (h1, .inl (k0, 4, .inr (.inr (.inr (.inr (va_up (va_up (va_up (va_up (fun _ => none) 0 (some h2)) 1 (some h3)) 2 (some h4)) 3 (some h5))))))), (h2, .inr (6, [.ref z5, .int 0])), (h3, .inr (6, [.ref z6, .int 0])), (h4, .inr (6, [.ref z7, .int 0])), (h5, .inr (6, [.ref z8, .int 0]))]) (w1 := []) hP hD [] [0, 1, 2, 3, 4, 5] rfl rfl (by decide) (by decide) hk1 hFc hP1 hD1
  generalize H1 = H at hP hS ⊢
  have hP : va_P (dC, dI) vwCl [(h0, .inr (7, [.ref h1, .ref z0, .ref z1, .ref z2, .ref z3, .ref z4, .int 0, .int 0, .int 0])), (h1, .inl (k0, 4, .inr (.inr (.inr (.inr (va_up (va_up (va_up (va_up (fun _ => none) 0 (some h2)) 1 (some h3)) 2 (some h4)) 3 (some h5))))))), (h2, .inr (6, [.ref z5, .int 0])), (h3, .inr (6, [.ref z6, .int 0])), (h4, .inr (6, [.ref z7, .int 0])), (h5, .inr (6, [.ref z8, .int 0]))] H := hP
  have hD : va_D A [(h0, .inr (7, [.ref h1, .ref z0, .ref z1, .ref z2, .ref z3, .ref z4, .int 0, .int 0, .int 0])), (h1, .inl (k0, 4, .inr (.inr (.inr (.inr (va_up (va_up (va_up (va_up (fun _ => none) 0 (some h2)) 1 (some h3)) 2 (some h4)) 3 (some h5))))))), (h2, .inr (6, [.ref z5, .int 0])), (h3, .inr (6, [.ref z6, .int 0])), (h4, .inr (6, [.ref z7, .int 0])), (h5, .inr (6, [.ref z8, .int 0]))] := hD
  refine lv_aload_n hx hb dX3_text_4 rfl (lv_at hl 0 rfl) ?_
  refine va_get (D := (dC, dI)) (ci := 7) (v := .ref h1) (C := RX3) (T := TX3) (N := 9) hx hb hts (by decide +kernel) hown hK hP 0 rfl rfl 0 (by decide) (hts (.fieldLink RX3 11 "Rewriterope" "ropes" "[LRewriterope$Text;") (by decide +kernel)) (fun _ h9 => h9) rfl dX3_text_5 ?_
  refine lv_iload_n hx hb dX3_text_8 rfl (lv_at hl 1 rfl) ?_
  refine va_aldq (D := (dC, dI)) hx hb hK hP 1 0 rfl rfl (by unfold vp_in; decide) dX3_text_9 ?_
  refine W.eq (g2 := F0 m 10 ls [.ref h3]) rfl ?_
  have hPc := hP.sub (ws' := [(h3, .inr (6, [.ref z6, .int 0]))]) [3] rfl
  have hDc := hD.sub (ws' := [(h3, .inr (6, [.ref z6, .int 0]))]) [3] (by decide) rfl
  have hKc := hK.sub (tys' := []) [] rfl
  have hFc := va_free (wc := [(h3, .inr (6, [.ref z6, .int 0]))]) hD hS hA [3] rfl
  refine va_callr (va_runV (As := []) (rest := []) ⟨hx, hb, hml, hown, hts⟩ (kx_X2_asString_0 l dC dI ge5 gea gv5 gva gde gic gi0 h3 z6 H.size) (cwV 0 hts gX3_text_X2_asString rfl rfl rfl (by decide +kernel) ⟨Nat.le_of_ble_eq_true rfl, Nat.le_of_ble_eq_true rfl⟩) ⟨fun a U g mk q => by obtain ⟨q0, q1, qP, qK, qD, qG⟩ := q; exact ⟨q0, q1, qP, va_K.moved (u := U) (U := U.calling g mk a) (Vm.Alike.refl U.vm) qK, qD, gv.fb qG⟩, va_recv hKc hPc (ci := 6) (q0 := 0) rfl rfl, fun U hU hW => ⟨rfl, by rw [hU], by rw [hU]; exact hPc, va_K.moved hW.alike hKc, hDc.weaken (fun _ _ _ _ => trivial), gv.pass hW hU hS hFc hG⟩⟩ rfl rfl hl.1 rfl (lv_room (Nat.le_of_ble_eq_true rfl)) dX3_text_10 ⟨Nat.le_of_ble_eq_true rfl, Nat.le_of_ble_eq_true rfl⟩) hS (fun q _ h => hFc q h) hFc (fun u ra t H1 locs ht hvm hw hB hz1 hk1 hS => ?_)
  obtain ⟨q1, q2, q3, q4, cq5, cq6, hra, hP1, hK1, hD1⟩ := hB
  rw [hra]
  rw [ht] at hP1
  have hK1 := va_K.moved hvm.symm hK1
  obtain ⟨hP, hD⟩ := va_join (wr := [(h0, .inr (7, [.ref h1, .ref z0, .ref z1, .ref z2, .ref z3, .ref z4, .int 0, .int 0, .int 0])), (h1, .inl (k0, 4, .inr (.inr (.inr (.inr (va_up (va_up (va_up (va_up (fun _ => none) 0 (some h2)) 1 (some h3)) 2 (some h4)) 3 (some h5))))))), (h2, .inr (6, [.ref z5, .int 0])), (h4, .inr (6, [.ref z7, .int 0])), (h5, .inr (6, [.ref z8, .int 0]))]) (w1 := [(h3, .inr (6, [.ref z6, .int 0])), (q1, .inr (1, [.ref q2, .int 0, .int 0, .int 0])), (q2, .inl (cq5, 16, .inl (fun _ => 0))), (q3, .inr (0, [.ref q4, .int 0, .int 0, .int 0])), (q4, .inl (cq6, 0, .inl (fun _ => 0)))]) hP hD [3] [0, 1, 2, 4, 5] rfl rfl (by decide) (by decide) hk1 hFc hP1 hD1
  have hK := hK.app (hK1.sub (tys' := [(cq5, .byte), (cq6, .byte)]) [0, 1] rfl)
  generalize H1 = H at hP hS ⊢
  have hK : va_K (dC, dI) vwCl [(k0, .object "Rewriterope$Text"), (cq5, .byte), (cq6, .byte)] s := hK
  have hP : va_P (dC, dI) vwCl [(h0, .inr (7, [.ref h1, .ref z0, .ref z1, .ref z2, .ref z3, .ref z4, .int 0, .int 0, .int 0])), (h1, .inl (k0, 4, .inr (.inr (.inr (.inr (va_up (va_up (va_up (va_up (fun _ => none) 0 (some h2)) 1 (some h3)) 2 (some h4)) 3 (some h5))))))), (h2, .inr (6, [.ref z5, .int 0])), (h4, .inr (6, [.ref z7, .int 0])), (h5, .inr (6, [.ref z8, .int 0])), (h3, .inr (6, [.ref z6, .int 0])), (q1, .inr (1, [.ref q2, .int 0, .int 0, .int 0])), (q2, .inl (cq5, 16, .inl (fun _ => 0))), (q3, .inr (0, [.ref q4, .int 0, .int 0, .int 0])), (q4, .inl (cq6, 0, .inl (fun _ => 0)))] H := hP
  have hD : va_D A [(h0, .inr (7, [.ref h1, .ref z0, .ref z1, .ref z2, .ref z3, .ref z4, .int 0, .int 0, .int 0])), (h1, .inl (k0, 4, .inr (.inr (.inr (.inr (va_up (va_up (va_up (va_up (fun _ => none) 0 (some h2)) 1 (some h3)) 2 (some h4)) 3 (some h5))))))), (h2, .inr (6, [.ref z5, .int 0])), (h4, .inr (6, [.ref z7, .int 0])), (h5, .inr (6, [.ref z8, .int 0])), (h3, .inr (6, [.ref z6, .int 0])), (q1, .inr (1, [.ref q2, .int 0, .int 0, .int 0])), (q2, .inl (cq5, 16, .inl (fun _ => 0))), (q3, .inr (0, [.ref q4, .int 0, .int 0, .int 0])), (q4, .inl (cq6, 0, .inl (fun _ => 0)))] := hD
  refine W.widen (k := 4) (n := 24) (by omega) (by omega) ?_
  have hP := hP.sub (ws' := [(h0, .inr (7, [.ref h1, .ref z0, .ref z1, .ref z2, .ref z3, .ref z4, .int 0, .int 0, .int 0])), (h1, .inl (k0, 4, .inr (.inr (.inr (.inr (va_up (va_up (va_up (va_up (fun _ => none) 0 (some h2)) 1 (some h3)) 2 (some h4)) 3 (some h5))))))), (h2, .inr (6, [.ref z5, .int 0])), (h3, .inr (6, [.ref z6, .int 0])), (h4, .inr (6, [.ref z7, .int 0])), (h5, .inr (6, [.ref z8, .int 0])), (q1, .inr (1, [.ref q2, .int 0, .int 0, .int 0])), (q2, .inl (cq5, 16, .inl (fun _ => 0))), (q3, .inr (0, [.ref q4, .int 0, .int 0, .int 0])), (q4, .inl (cq6, 0, .inl (fun _ => 0)))]) [0, 1, 2, 5, 3, 4, 6, 7, 8, 9] rfl
  have hD := hD.sub (ws' := [(h0, .inr (7, [.ref h1, .ref z0, .ref z1, .ref z2, .ref z3, .ref z4, .int 0, .int 0, .int 0])), (h1, .inl (k0, 4, .inr (.inr (.inr (.inr (va_up (va_up (va_up (va_up (fun _ => none) 0 (some h2)) 1 (some h3)) 2 (some h4)) 3 (some h5))))))), (h2, .inr (6, [.ref z5, .int 0])), (h3, .inr (6, [.ref z6, .int 0])), (h4, .inr (6, [.ref z7, .int 0])), (h5, .inr (6, [.ref z8, .int 0])), (q1, .inr (1, [.ref q2, .int 0, .int 0, .int 0])), (q2, .inl (cq5, 16, .inl (fun _ => 0))), (q3, .inr (0, [.ref q4, .int 0, .int 0, .int 0])), (q4, .inl (cq6, 0, .inl (fun _ => 0)))]) [0, 1, 2, 5, 3, 4, 6, 7, 8, 9] (by decide) rfl
  exact W.aret (v := .ref q3) hx hb hr (Or.inl ⟨_, rfl⟩) (Or.inr ⟨_, rfl⟩) (fun t ht hW => ⟨⟨(), q3, rfl, trivial, q1, q2, q3, q4, cq5, cq6, rfl, by rw [ht]; exact hP, va_K.moved hW.alike hK, hD⟩, hS.F ht⟩) hS.2.2 dX3_text_13
set_option maxHeartbeats 4000000 in
set_option maxRecDepth 100000 in
theorem kx_X3_text_2 (l : Launch) (dC : Nat → ClassId) (dI : Nat → Nat → Nat) (ge5 gea gv5 gva gde gic gi0 : Nat) (h0 : Nat) (h1 : Nat) (h2 : Nat) (h3 : Nat) (h4 : Nat) (h5 : Nat) (z0 : Nat) (z1 : Nat) (z2 : Nat) (z3 : Nat) (z4 : Nat) (z5 : Nat) (z6 : Nat) (z7 : Nat) (z8 : Nat) (k0 : ClassId) (sz : Nat) : Met l yX3_text wsX3_text ({ frames := 7, cells := 4, slots := 24, locals := 192 }) (va_Pc [.ref h0, .int 2] (fun U => U.heap.size = sz ∧ va_P (dC, dI) vwCl [(h0, .inr (7, [.ref h1, .ref z0, .ref z1, .ref z2, .ref z3, .ref z4, .int 0, .int 0, .int 0])), (h1, .inl (k0, 4, .inr (.inr (.inr (.inr (va_up (va_up (va_up (va_up (fun _ => none) 0 (some h2)) 1 (some h3)) 2 (some h4)) 3 (some h5))))))), (h2, .inr (6, [.ref z5, .int 0])), (h3, .inr (6, [.ref z6, .int 0])), (h4, .inr (6, [.ref z7, .int 0])), (h5, .inr (6, [.ref z8, .int 0]))] U.heap ∧ va_K (dC, dI) vwCl [(k0, .object "Rewriterope$Text")] U ∧ va_D (fun _ => True) [(h0, .inr (7, [.ref h1, .ref z0, .ref z1, .ref z2, .ref z3, .ref z4, .int 0, .int 0, .int 0])), (h1, .inl (k0, 4, .inr (.inr (.inr (.inr (va_up (va_up (va_up (va_up (fun _ => none) 0 (some h2)) 1 (some h3)) 2 (some h4)) 3 (some h5))))))), (h2, .inr (6, [.ref z5, .int 0])), (h3, .inr (6, [.ref z6, .int 0])), (h4, .inr (6, [.ref z7, .int 0])), (h5, .inr (6, [.ref z8, .int 0]))] ∧ gv ge5 gea gv5 gva gde gic gi0 (va_A [(h0, .inr (7, [.ref h1, .ref z0, .ref z1, .ref z2, .ref z3, .ref z4, .int 0, .int 0, .int 0])), (h1, .inl (k0, 4, .inr (.inr (.inr (.inr (va_up (va_up (va_up (va_up (fun _ => none) 0 (some h2)) 1 (some h3)) 2 (some h4)) 3 (some h5))))))), (h2, .inr (6, [.ref z5, .int 0])), (h3, .inr (6, [.ref z6, .int 0])), (h4, .inr (6, [.ref z7, .int 0])), (h5, .inr (6, [.ref z8, .int 0]))] sz) U U.heap)) (va_Qr (fun _ : Unit => True) (fun (_ : Unit) (ra : Nat) (t : State) => ∃ q1 : Nat, ∃ q2 : Nat, ∃ q3 : Nat, ∃ q4 : Nat, ∃ cq5 : ClassId, ∃ cq6 : ClassId, ra = q3 ∧ va_P (dC, dI) vwCl [(h0, .inr (7, [.ref h1, .ref z0, .ref z1, .ref z2, .ref z3, .ref z4, .int 0, .int 0, .int 0])), (h1, .inl (k0, 4, .inr (.inr (.inr (.inr (va_up (va_up (va_up (va_up (fun _ => none) 0 (some h2)) 1 (some h3)) 2 (some h4)) 3 (some h5))))))), (h2, .inr (6, [.ref z5, .int 0])), (h3, .inr (6, [.ref z6, .int 0])), (h4, .inr (6, [.ref z7, .int 0])), (h5, .inr (6, [.ref z8, .int 0])), (q1, .inr (1, [.ref q2, .int 0, .int 0, .int 0])), (q2, .inl (cq5, 16, .inl (fun _ => 0))), (q3, .inr (0, [.ref q4, .int 0, .int 0, .int 0])), (q4, .inl (cq6, 0, .inl (fun _ => 0)))] t.heap ∧ va_K (dC, dI) vwCl [(k0, .object "Rewriterope$Text"), (cq5, .byte), (cq6, .byte)] t ∧ va_D (va_A [(h0, .inr (7, [.ref h1, .ref z0, .ref z1, .ref z2, .ref z3, .ref z4, .int 0, .int 0, .int 0])), (h1, .inl (k0, 4, .inr (.inr (.inr (.inr (va_up (va_up (va_up (va_up (fun _ => none) 0 (some h2)) 1 (some h3)) 2 (some h4)) 3 (some h5))))))), (h2, .inr (6, [.ref z5, .int 0])), (h3, .inr (6, [.ref z6, .int 0])), (h4, .inr (6, [.ref z7, .int 0])), (h5, .inr (6, [.ref z8, .int 0]))] sz) [(h0, .inr (7, [.ref h1, .ref z0, .ref z1, .ref z2, .ref z3, .ref z4, .int 0, .int 0, .int 0])), (h1, .inl (k0, 4, .inr (.inr (.inr (.inr (va_up (va_up (va_up (va_up (fun _ => none) 0 (some h2)) 1 (some h3)) 2 (some h4)) 3 (some h5))))))), (h2, .inr (6, [.ref z5, .int 0])), (h3, .inr (6, [.ref z6, .int 0])), (h4, .inr (6, [.ref z7, .int 0])), (h5, .inr (6, [.ref z8, .int 0])), (q1, .inr (1, [.ref q2, .int 0, .int 0, .int 0])), (q2, .inl (cq5, 16, .inl (fun _ => 0))), (q3, .inr (0, [.ref q4, .int 0, .int 0, .int 0])), (q4, .inl (cq6, 0, .inl (fun _ => 0)))]) (va_A [(h0, .inr (7, [.ref h1, .ref z0, .ref z1, .ref z2, .ref z3, .ref z4, .int 0, .int 0, .int 0])), (h1, .inl (k0, 4, .inr (.inr (.inr (.inr (va_up (va_up (va_up (va_up (fun _ => none) 0 (some h2)) 1 (some h3)) 2 (some h4)) 3 (some h5))))))), (h2, .inr (6, [.ref z5, .int 0])), (h3, .inr (6, [.ref z6, .int 0])), (h4, .inr (6, [.ref z7, .int 0])), (h5, .inr (6, [.ref z8, .int 0]))] sz)) 4 24 (va_A [(h0, .inr (7, [.ref h1, .ref z0, .ref z1, .ref z2, .ref z3, .ref z4, .int 0, .int 0, .int 0])), (h1, .inl (k0, 4, .inr (.inr (.inr (.inr (va_up (va_up (va_up (va_up (fun _ => none) 0 (some h2)) 1 (some h3)) 2 (some h4)) 3 (some h5))))))), (h2, .inr (6, [.ref z5, .int 0])), (h3, .inr (6, [.ref z6, .int 0])), (h4, .inr (6, [.ref z7, .int 0])), (h5, .inr (6, [.ref z8, .int 0]))] sz) := by
  refine Met.ofW (cc := cX3_text) (maxL := 2) (ret := (some (.object "java/lang/String"))) (by decide) rfl ?_
  intro p e s m args below meth c s₁ B hml hv
  obtain ⟨rfl, hsz, hP, hK, hD0, hG⟩ := hv
  have hx := B.exec
  have hb := B.bytes
  have hr := B.returns
  have hts := atoms_spec (ws := wsX3_text) B.pre
  have hown : s.vm.findClass RX3 = some m.cls := findClass_of_methodNamed B.named
  have hlocks := B.notSynchronized
  subst hsz
  have hD := hD0.self (sz := s.heap.size)
  generalize hAe : va_A [(h0, .inr (7, [.ref h1, .ref z0, .ref z1, .ref z2, .ref z3, .ref z4, .int 0, .int 0, .int 0])), (h1, .inl (k0, 4, .inr (.inr (.inr (.inr (va_up (va_up (va_up (va_up (fun _ => none) 0 (some h2)) 1 (some h3)) 2 (some h4)) 3 (some h5))))))), (h2, .inr (6, [.ref z5, .int 0])), (h3, .inr (6, [.ref z6, .int 0])), (h4, .inr (6, [.ref z7, .int 0])), (h5, .inr (6, [.ref z8, .int 0]))] s.heap.size = A at hD hG ⊢
  obtain ⟨⟨g_AO_Text, g_AO_String, g_AO_Object, g_nm_RX1_20, g_nm_RX0_17, g_nm_RX3_31, g_nm_RX2_44, g_nm_RL_121, g_nf_RL_13, g_nf_RL_47, g_ca_IO, g_ca_IA, g_ca_IS, g_ca_IntObj, g_ca_StrObj, g_de_RT, g_de_EX, g_de_TH, g_nc_IA_IO, g_nc_IS_IO, g_nc_IS_IA⟩, ⟨g_s3, g_s5, g_sa, g_x278, g_x280, g_x282, g_x284, g_x286, g_x180, g_x238, g_x250⟩, ⟨g_o5, g_c5, g_v5, g_t5, g_oa, g_ca, g_va, g_ta, g_zc, g_zd, g_td, g_zf, g_zU, g_zN, g_zh, g_zk, g_tk, g_oi, g_vi⟩⟩ := id hG
  have hA : ∀ q : Nat, s.heap.size ≤ q → A q := fun q h => by rw [← hAe]; exact Or.inr h
  have hS : va_S A s.heap s.heap [] := va_S.rf
  have hP : va_P (dC, dI) vwCl [(h0, .inr (7, [.ref h1, .ref z0, .ref z1, .ref z2, .ref z3, .ref z4, .int 0, .int 0, .int 0])), (h1, .inl (k0, 4, .inr (.inr (.inr (.inr (va_up (va_up (va_up (va_up (fun _ => none) 0 (some h2)) 1 (some h3)) 2 (some h4)) 3 (some h5))))))), (h2, .inr (6, [.ref z5, .int 0])), (h3, .inr (6, [.ref z6, .int 0])), (h4, .inr (6, [.ref z7, .int 0])), (h5, .inr (6, [.ref z8, .int 0]))] s.heap := hP
  have hl := lv_entry ([.ref h0, .int 2]) (n := 2) (Nat.le_of_ble_eq_true rfl)
  rw [lg_entry_eq]
  generalize (lg_sl ([.ref h0, .int 2]) ++ List.replicate (2 - (lg_sl ([.ref h0, .int 2])).length) Slot.unset).toArray = ls at hl ⊢
  have hl : lv_has ls 2 [(0, .ref h0), (1, .int 2)] := hl
  refine lv_iload_n hx hb dX3_text_0 rfl (lv_at hl 1 rfl) ?_
  have hPc := hP.sub (ws' := []) [] rfl
  have hDc := hD.sub (ws' := []) [] (by decide) rfl
  have hKc := hK.sub (tys' := []) [] rfl
  have hFc := va_free (wc := []) hD hS hA [] rfl
  refine va_callv (va_runS (As := [.int 2]) (rest := []) ⟨hx, hb, hml, hown, hts⟩ (kx_X3_needRope_2 l dC dI s.heap.size) (cwS 1 hts gX3_text_X3_needRope rfl rfl rfl (by decide +kernel) ⟨Nat.le_of_ble_eq_true rfl, Nat.le_of_ble_eq_true rfl⟩) ⟨fun a U g mk q => by obtain ⟨q0, q1, qP, qK, qD⟩ := q; exact ⟨q0, q1, qP, va_K.moved (u := U) (U := U.calling g mk a) (Vm.Alike.refl U.vm) qK, qD⟩, fun U hU hW => ⟨rfl, by rw [hU], by rw [hU]; exact hPc, va_K.moved hW.alike hKc, hDc.weaken (fun _ _ _ _ => trivial)⟩⟩ rfl rfl hl.1 rfl (lv_room (Nat.le_of_ble_eq_true rfl)) dX3_text_1 ⟨Nat.le_of_ble_eq_true rfl, Nat.le_of_ble_eq_true rfl⟩) hS (fun q _ h => hFc q h) hFc (fun u t H1 locs ht hvm hw hB hz1 hk1 hS => ?_)
  obtain ⟨hP1, hK1, hD1⟩ := hB
  rw [ht] at hP1
  have hK1 := va_K.moved hvm.symm hK1
  obtain ⟨hP, hD⟩ := va_join (wr := [(h0, .inr (7, [.ref h1, .ref z0, .ref z1, .ref z2, .ref z3, .ref z4, .int 0, .int 0, .int 0])), (h1, .inl (k0, 4, .inr (.inr (.inr (.inr (va_up (va_up (va_up (va_up (fun _ => none) 0 (some h2)) 1 (some h3)) 2 (some h4)) 3 (some h5))))))), (h2, .inr (6, [.ref z5, .int 0])), (h3, .inr (6, [.ref z6, .int 0])), (h4, .inr (6, [.ref z7, .int 0])), (h5, .inr (6, [.ref z8, .int 0]))]) (w1 := []) hP hD [] [0, 1, 2, 3, 4, 5] rfl rfl (by decide) (by decide) hk1 hFc hP1 hD1
  generalize H1 = H at hP hS ⊢
  have hP : va_P (dC, dI) vwCl [(h0, .inr (7, [.ref h1, .ref z0, .ref z1, .ref z2, .ref z3, .ref z4, .int 0, .int 0, .int 0])), (h1, .inl (k0, 4, .inr (.inr (.inr (.inr (va_up (va_up (va_up (va_up (fun _ => none) 0 (some h2)) 1 (some h3)) 2 (some h4)) 3 (some h5))))))), (h2, .inr (6, [.ref z5, .int 0])), (h3, .inr (6, [.ref z6, .int 0])), (h4, .inr (6, [.ref z7, .int 0])), (h5, .inr (6, [.ref z8, .int 0]))] H := hP
  have hD : va_D A [(h0, .inr (7, [.ref h1, .ref z0, .ref z1, .ref z2, .ref z3, .ref z4, .int 0, .int 0, .int 0])), (h1, .inl (k0, 4, .inr (.inr (.inr (.inr (va_up (va_up (va_up (va_up (fun _ => none) 0 (some h2)) 1 (some h3)) 2 (some h4)) 3 (some h5))))))), (h2, .inr (6, [.ref z5, .int 0])), (h3, .inr (6, [.ref z6, .int 0])), (h4, .inr (6, [.ref z7, .int 0])), (h5, .inr (6, [.ref z8, .int 0]))] := hD
  refine lv_aload_n hx hb dX3_text_4 rfl (lv_at hl 0 rfl) ?_
  refine va_get (D := (dC, dI)) (ci := 7) (v := .ref h1) (C := RX3) (T := TX3) (N := 9) hx hb hts (by decide +kernel) hown hK hP 0 rfl rfl 0 (by decide) (hts (.fieldLink RX3 11 "Rewriterope" "ropes" "[LRewriterope$Text;") (by decide +kernel)) (fun _ h9 => h9) rfl dX3_text_5 ?_
  refine lv_iload_n hx hb dX3_text_8 rfl (lv_at hl 1 rfl) ?_
  refine va_aldq (D := (dC, dI)) hx hb hK hP 1 0 rfl rfl (by unfold vp_in; decide) dX3_text_9 ?_
  refine W.eq (g2 := F0 m 10 ls [.ref h4]) rfl ?_
  have hPc := hP.sub (ws' := [(h4, .inr (6, [.ref z7, .int 0]))]) [4] rfl
  have hDc := hD.sub (ws' := [(h4, .inr (6, [.ref z7, .int 0]))]) [4] (by decide) rfl
  have hKc := hK.sub (tys' := []) [] rfl
  have hFc := va_free (wc := [(h4, .inr (6, [.ref z7, .int 0]))]) hD hS hA [4] rfl
  refine va_callr (va_runV (As := []) (rest := []) ⟨hx, hb, hml, hown, hts⟩ (kx_X2_asString_0 l dC dI ge5 gea gv5 gva gde gic gi0 h4 z7 H.size) (cwV 0 hts gX3_text_X2_asString rfl rfl rfl (by decide +kernel) ⟨Nat.le_of_ble_eq_true rfl, Nat.le_of_ble_eq_true rfl⟩) ⟨fun a U g mk q => by obtain ⟨q0, q1, qP, qK, qD, qG⟩ := q; exact ⟨q0, q1, qP, va_K.moved (u := U) (U := U.calling g mk a) (Vm.Alike.refl U.vm) qK, qD, gv.fb qG⟩, va_recv hKc hPc (ci := 6) (q0 := 0) rfl rfl, fun U hU hW => ⟨rfl, by rw [hU], by rw [hU]; exact hPc, va_K.moved hW.alike hKc, hDc.weaken (fun _ _ _ _ => trivial), gv.pass hW hU hS hFc hG⟩⟩ rfl rfl hl.1 rfl (lv_room (Nat.le_of_ble_eq_true rfl)) dX3_text_10 ⟨Nat.le_of_ble_eq_true rfl, Nat.le_of_ble_eq_true rfl⟩) hS (fun q _ h => hFc q h) hFc (fun u ra t H1 locs ht hvm hw hB hz1 hk1 hS => ?_)
  obtain ⟨q1, q2, q3, q4, cq5, cq6, hra, hP1, hK1, hD1⟩ := hB
  rw [hra]
  rw [ht] at hP1
  have hK1 := va_K.moved hvm.symm hK1
  obtain ⟨hP, hD⟩ := va_join (wr := [(h0, .inr (7, [.ref h1, .ref z0, .ref z1, .ref z2, .ref z3, .ref z4, .int 0, .int 0, .int 0])), (h1, .inl (k0, 4, .inr (.inr (.inr (.inr (va_up (va_up (va_up (va_up (fun _ => none) 0 (some h2)) 1 (some h3)) 2 (some h4)) 3 (some h5))))))), (h2, .inr (6, [.ref z5, .int 0])), (h3, .inr (6, [.ref z6, .int 0])), (h5, .inr (6, [.ref z8, .int 0]))]) (w1 := [(h4, .inr (6, [.ref z7, .int 0])), (q1, .inr (1, [.ref q2, .int 0, .int 0, .int 0])), (q2, .inl (cq5, 16, .inl (fun _ => 0))), (q3, .inr (0, [.ref q4, .int 0, .int 0, .int 0])), (q4, .inl (cq6, 0, .inl (fun _ => 0)))]) hP hD [4] [0, 1, 2, 3, 5] rfl rfl (by decide) (by decide) hk1 hFc hP1 hD1
  have hK := hK.app (hK1.sub (tys' := [(cq5, .byte), (cq6, .byte)]) [0, 1] rfl)
  generalize H1 = H at hP hS ⊢
  have hK : va_K (dC, dI) vwCl [(k0, .object "Rewriterope$Text"), (cq5, .byte), (cq6, .byte)] s := hK
  have hP : va_P (dC, dI) vwCl [(h0, .inr (7, [.ref h1, .ref z0, .ref z1, .ref z2, .ref z3, .ref z4, .int 0, .int 0, .int 0])), (h1, .inl (k0, 4, .inr (.inr (.inr (.inr (va_up (va_up (va_up (va_up (fun _ => none) 0 (some h2)) 1 (some h3)) 2 (some h4)) 3 (some h5))))))), (h2, .inr (6, [.ref z5, .int 0])), (h3, .inr (6, [.ref z6, .int 0])), (h5, .inr (6, [.ref z8, .int 0])), (h4, .inr (6, [.ref z7, .int 0])), (q1, .inr (1, [.ref q2, .int 0, .int 0, .int 0])), (q2, .inl (cq5, 16, .inl (fun _ => 0))), (q3, .inr (0, [.ref q4, .int 0, .int 0, .int 0])), (q4, .inl (cq6, 0, .inl (fun _ => 0)))] H := hP
  have hD : va_D A [(h0, .inr (7, [.ref h1, .ref z0, .ref z1, .ref z2, .ref z3, .ref z4, .int 0, .int 0, .int 0])), (h1, .inl (k0, 4, .inr (.inr (.inr (.inr (va_up (va_up (va_up (va_up (fun _ => none) 0 (some h2)) 1 (some h3)) 2 (some h4)) 3 (some h5))))))), (h2, .inr (6, [.ref z5, .int 0])), (h3, .inr (6, [.ref z6, .int 0])), (h5, .inr (6, [.ref z8, .int 0])), (h4, .inr (6, [.ref z7, .int 0])), (q1, .inr (1, [.ref q2, .int 0, .int 0, .int 0])), (q2, .inl (cq5, 16, .inl (fun _ => 0))), (q3, .inr (0, [.ref q4, .int 0, .int 0, .int 0])), (q4, .inl (cq6, 0, .inl (fun _ => 0)))] := hD
  refine W.widen (k := 4) (n := 24) (by omega) (by omega) ?_
  have hP := hP.sub (ws' := [(h0, .inr (7, [.ref h1, .ref z0, .ref z1, .ref z2, .ref z3, .ref z4, .int 0, .int 0, .int 0])), (h1, .inl (k0, 4, .inr (.inr (.inr (.inr (va_up (va_up (va_up (va_up (fun _ => none) 0 (some h2)) 1 (some h3)) 2 (some h4)) 3 (some h5))))))), (h2, .inr (6, [.ref z5, .int 0])), (h3, .inr (6, [.ref z6, .int 0])), (h4, .inr (6, [.ref z7, .int 0])), (h5, .inr (6, [.ref z8, .int 0])), (q1, .inr (1, [.ref q2, .int 0, .int 0, .int 0])), (q2, .inl (cq5, 16, .inl (fun _ => 0))), (q3, .inr (0, [.ref q4, .int 0, .int 0, .int 0])), (q4, .inl (cq6, 0, .inl (fun _ => 0)))]) [0, 1, 2, 3, 5, 4, 6, 7, 8, 9] rfl
  have hD := hD.sub (ws' := [(h0, .inr (7, [.ref h1, .ref z0, .ref z1, .ref z2, .ref z3, .ref z4, .int 0, .int 0, .int 0])), (h1, .inl (k0, 4, .inr (.inr (.inr (.inr (va_up (va_up (va_up (va_up (fun _ => none) 0 (some h2)) 1 (some h3)) 2 (some h4)) 3 (some h5))))))), (h2, .inr (6, [.ref z5, .int 0])), (h3, .inr (6, [.ref z6, .int 0])), (h4, .inr (6, [.ref z7, .int 0])), (h5, .inr (6, [.ref z8, .int 0])), (q1, .inr (1, [.ref q2, .int 0, .int 0, .int 0])), (q2, .inl (cq5, 16, .inl (fun _ => 0))), (q3, .inr (0, [.ref q4, .int 0, .int 0, .int 0])), (q4, .inl (cq6, 0, .inl (fun _ => 0)))]) [0, 1, 2, 3, 5, 4, 6, 7, 8, 9] (by decide) rfl
  exact W.aret (v := .ref q3) hx hb hr (Or.inl ⟨_, rfl⟩) (Or.inr ⟨_, rfl⟩) (fun t ht hW => ⟨⟨(), q3, rfl, trivial, q1, q2, q3, q4, cq5, cq6, rfl, by rw [ht]; exact hP, va_K.moved hW.alike hK, hD⟩, hS.F ht⟩) hS.2.2 dX3_text_13
set_option maxHeartbeats 4000000 in
set_option maxRecDepth 100000 in
theorem kx_X3_text_3 (l : Launch) (dC : Nat → ClassId) (dI : Nat → Nat → Nat) (ge5 gea gv5 gva gde gic gi0 : Nat) (h0 : Nat) (h1 : Nat) (h2 : Nat) (h3 : Nat) (h4 : Nat) (h5 : Nat) (z0 : Nat) (z1 : Nat) (z2 : Nat) (z3 : Nat) (z4 : Nat) (z5 : Nat) (z6 : Nat) (z7 : Nat) (z8 : Nat) (k0 : ClassId) (sz : Nat) : Met l yX3_text wsX3_text ({ frames := 7, cells := 4, slots := 24, locals := 192 }) (va_Pc [.ref h0, .int 3] (fun U => U.heap.size = sz ∧ va_P (dC, dI) vwCl [(h0, .inr (7, [.ref h1, .ref z0, .ref z1, .ref z2, .ref z3, .ref z4, .int 0, .int 0, .int 0])), (h1, .inl (k0, 4, .inr (.inr (.inr (.inr (va_up (va_up (va_up (va_up (fun _ => none) 0 (some h2)) 1 (some h3)) 2 (some h4)) 3 (some h5))))))), (h2, .inr (6, [.ref z5, .int 0])), (h3, .inr (6, [.ref z6, .int 0])), (h4, .inr (6, [.ref z7, .int 0])), (h5, .inr (6, [.ref z8, .int 0]))] U.heap ∧ va_K (dC, dI) vwCl [(k0, .object "Rewriterope$Text")] U ∧ va_D (fun _ => True) [(h0, .inr (7, [.ref h1, .ref z0, .ref z1, .ref z2, .ref z3, .ref z4, .int 0, .int 0, .int 0])), (h1, .inl (k0, 4, .inr (.inr (.inr (.inr (va_up (va_up (va_up (va_up (fun _ => none) 0 (some h2)) 1 (some h3)) 2 (some h4)) 3 (some h5))))))), (h2, .inr (6, [.ref z5, .int 0])), (h3, .inr (6, [.ref z6, .int 0])), (h4, .inr (6, [.ref z7, .int 0])), (h5, .inr (6, [.ref z8, .int 0]))] ∧ gv ge5 gea gv5 gva gde gic gi0 (va_A [(h0, .inr (7, [.ref h1, .ref z0, .ref z1, .ref z2, .ref z3, .ref z4, .int 0, .int 0, .int 0])), (h1, .inl (k0, 4, .inr (.inr (.inr (.inr (va_up (va_up (va_up (va_up (fun _ => none) 0 (some h2)) 1 (some h3)) 2 (some h4)) 3 (some h5))))))), (h2, .inr (6, [.ref z5, .int 0])), (h3, .inr (6, [.ref z6, .int 0])), (h4, .inr (6, [.ref z7, .int 0])), (h5, .inr (6, [.ref z8, .int 0]))] sz) U U.heap)) (va_Qr (fun _ : Unit => True) (fun (_ : Unit) (ra : Nat) (t : State) => ∃ q1 : Nat, ∃ q2 : Nat, ∃ q3 : Nat, ∃ q4 : Nat, ∃ cq5 : ClassId, ∃ cq6 : ClassId, ra = q3 ∧ va_P (dC, dI) vwCl [(h0, .inr (7, [.ref h1, .ref z0, .ref z1, .ref z2, .ref z3, .ref z4, .int 0, .int 0, .int 0])), (h1, .inl (k0, 4, .inr (.inr (.inr (.inr (va_up (va_up (va_up (va_up (fun _ => none) 0 (some h2)) 1 (some h3)) 2 (some h4)) 3 (some h5))))))), (h2, .inr (6, [.ref z5, .int 0])), (h3, .inr (6, [.ref z6, .int 0])), (h4, .inr (6, [.ref z7, .int 0])), (h5, .inr (6, [.ref z8, .int 0])), (q1, .inr (1, [.ref q2, .int 0, .int 0, .int 0])), (q2, .inl (cq5, 16, .inl (fun _ => 0))), (q3, .inr (0, [.ref q4, .int 0, .int 0, .int 0])), (q4, .inl (cq6, 0, .inl (fun _ => 0)))] t.heap ∧ va_K (dC, dI) vwCl [(k0, .object "Rewriterope$Text"), (cq5, .byte), (cq6, .byte)] t ∧ va_D (va_A [(h0, .inr (7, [.ref h1, .ref z0, .ref z1, .ref z2, .ref z3, .ref z4, .int 0, .int 0, .int 0])), (h1, .inl (k0, 4, .inr (.inr (.inr (.inr (va_up (va_up (va_up (va_up (fun _ => none) 0 (some h2)) 1 (some h3)) 2 (some h4)) 3 (some h5))))))), (h2, .inr (6, [.ref z5, .int 0])), (h3, .inr (6, [.ref z6, .int 0])), (h4, .inr (6, [.ref z7, .int 0])), (h5, .inr (6, [.ref z8, .int 0]))] sz) [(h0, .inr (7, [.ref h1, .ref z0, .ref z1, .ref z2, .ref z3, .ref z4, .int 0, .int 0, .int 0])), (h1, .inl (k0, 4, .inr (.inr (.inr (.inr (va_up (va_up (va_up (va_up (fun _ => none) 0 (some h2)) 1 (some h3)) 2 (some h4)) 3 (some h5))))))), (h2, .inr (6, [.ref z5, .int 0])), (h3, .inr (6, [.ref z6, .int 0])), (h4, .inr (6, [.ref z7, .int 0])), (h5, .inr (6, [.ref z8, .int 0])), (q1, .inr (1, [.ref q2, .int 0, .int 0, .int 0])), (q2, .inl (cq5, 16, .inl (fun _ => 0))), (q3, .inr (0, [.ref q4, .int 0, .int 0, .int 0])), (q4, .inl (cq6, 0, .inl (fun _ => 0)))]) (va_A [(h0, .inr (7, [.ref h1, .ref z0, .ref z1, .ref z2, .ref z3, .ref z4, .int 0, .int 0, .int 0])), (h1, .inl (k0, 4, .inr (.inr (.inr (.inr (va_up (va_up (va_up (va_up (fun _ => none) 0 (some h2)) 1 (some h3)) 2 (some h4)) 3 (some h5))))))), (h2, .inr (6, [.ref z5, .int 0])), (h3, .inr (6, [.ref z6, .int 0])), (h4, .inr (6, [.ref z7, .int 0])), (h5, .inr (6, [.ref z8, .int 0]))] sz)) 4 24 (va_A [(h0, .inr (7, [.ref h1, .ref z0, .ref z1, .ref z2, .ref z3, .ref z4, .int 0, .int 0, .int 0])), (h1, .inl (k0, 4, .inr (.inr (.inr (.inr (va_up (va_up (va_up (va_up (fun _ => none) 0 (some h2)) 1 (some h3)) 2 (some h4)) 3 (some h5))))))), (h2, .inr (6, [.ref z5, .int 0])), (h3, .inr (6, [.ref z6, .int 0])), (h4, .inr (6, [.ref z7, .int 0])), (h5, .inr (6, [.ref z8, .int 0]))] sz) := by
  refine Met.ofW (cc := cX3_text) (maxL := 2) (ret := (some (.object "java/lang/String"))) (by decide) rfl ?_
  intro p e s m args below meth c s₁ B hml hv
  obtain ⟨rfl, hsz, hP, hK, hD0, hG⟩ := hv
  have hx := B.exec
  have hb := B.bytes
  have hr := B.returns
  have hts := atoms_spec (ws := wsX3_text) B.pre
  have hown : s.vm.findClass RX3 = some m.cls := findClass_of_methodNamed B.named
  have hlocks := B.notSynchronized
  subst hsz
  have hD := hD0.self (sz := s.heap.size)
  generalize hAe : va_A [(h0, .inr (7, [.ref h1, .ref z0, .ref z1, .ref z2, .ref z3, .ref z4, .int 0, .int 0, .int 0])), (h1, .inl (k0, 4, .inr (.inr (.inr (.inr (va_up (va_up (va_up (va_up (fun _ => none) 0 (some h2)) 1 (some h3)) 2 (some h4)) 3 (some h5))))))), (h2, .inr (6, [.ref z5, .int 0])), (h3, .inr (6, [.ref z6, .int 0])), (h4, .inr (6, [.ref z7, .int 0])), (h5, .inr (6, [.ref z8, .int 0]))] s.heap.size = A at hD hG ⊢
  obtain ⟨⟨g_AO_Text, g_AO_String, g_AO_Object, g_nm_RX1_20, g_nm_RX0_17, g_nm_RX3_31, g_nm_RX2_44, g_nm_RL_121, g_nf_RL_13, g_nf_RL_47, g_ca_IO, g_ca_IA, g_ca_IS, g_ca_IntObj, g_ca_StrObj, g_de_RT, g_de_EX, g_de_TH, g_nc_IA_IO, g_nc_IS_IO, g_nc_IS_IA⟩, ⟨g_s3, g_s5, g_sa, g_x278, g_x280, g_x282, g_x284, g_x286, g_x180, g_x238, g_x250⟩, ⟨g_o5, g_c5, g_v5, g_t5, g_oa, g_ca, g_va, g_ta, g_zc, g_zd, g_td, g_zf, g_zU, g_zN, g_zh, g_zk, g_tk, g_oi, g_vi⟩⟩ := id hG
  have hA : ∀ q : Nat, s.heap.size ≤ q → A q := fun q h => by rw [← hAe]; exact Or.inr h
  have hS : va_S A s.heap s.heap [] := va_S.rf
  have hP : va_P (dC, dI) vwCl [(h0, .inr (7, [.ref h1, .ref z0, .ref z1, .ref z2, .ref z3, .ref z4, .int 0, .int 0, .int 0])), (h1, .inl (k0, 4, .inr (.inr (.inr (.inr (va_up (va_up (va_up (va_up (fun _ => none) 0 (some h2)) 1 (some h3)) 2 (some h4)) 3 (some h5))))))), (h2, .inr (6, [.ref z5, .int 0])), (h3, .inr (6, [.ref z6, .int 0])), (h4, .inr (6, [.ref z7, .int 0])), (h5, .inr (6, [.ref z8, .int 0]))] s.heap := hP
  have hl := lv_entry ([.ref h0, .int 3]) (n := 2) (Nat.le_of_ble_eq_true rfl)
  rw [lg_entry_eq]
  generalize (lg_sl ([.ref h0, .int 3]) ++ List.replicate (2 - (lg_sl ([.ref h0, .int 3])).length) Slot.unset).toArray = ls at hl ⊢
  have hl : lv_has ls 2 [(0, .ref h0), (1, .int 3)] := hl
  refine lv_iload_n hx hb dX3_text_0 rfl (lv_at hl 1 rfl) ?_
  have hPc := hP.sub (ws' := []) [] rfl
  have hDc := hD.sub (ws' := []) [] (by decide) rfl
  have hKc := hK.sub (tys' := []) [] rfl
  have hFc := va_free (wc := []) hD hS hA [] rfl
  refine va_callv (va_runS (As := [.int 3]) (rest := []) ⟨hx, hb, hml, hown, hts⟩ (kx_X3_needRope_3 l dC dI s.heap.size) (cwS 1 hts gX3_text_X3_needRope rfl rfl rfl (by decide +kernel) ⟨Nat.le_of_ble_eq_true rfl, Nat.le_of_ble_eq_true rfl⟩) ⟨fun a U g mk q => by obtain ⟨q0, q1, qP, qK, qD⟩ := q; exact ⟨q0, q1, qP, va_K.moved (u := U) (U := U.calling g mk a) (Vm.Alike.refl U.vm) qK, qD⟩, fun U hU hW => ⟨rfl, by rw [hU], by rw [hU]; exact hPc, va_K.moved hW.alike hKc, hDc.weaken (fun _ _ _ _ => trivial)⟩⟩ rfl rfl hl.1 rfl (lv_room (Nat.le_of_ble_eq_true rfl)) dX3_text_1 ⟨Nat.le_of_ble_eq_true rfl, Nat.le_of_ble_eq_true rfl⟩) hS (fun q _ h => hFc q h) hFc (fun u t H1 locs ht hvm hw hB hz1 hk1 hS => ?_)
  obtain ⟨hP1, hK1, hD1⟩ := hB
  rw [ht] at hP1
  have hK1 := va_K.moved hvm.symm hK1
  obtain ⟨hP, hD⟩ := va_join (wr := [(h0, .inr (7, [.ref h1, .ref z0, .ref z1, .ref z2, .ref z3, .ref z4, .int 0, .int 0, .int 0])), (h1, .inl (k0, 4, .inr (.inr (.inr (.inr (va_up (va_up (va_up (va_up (fun _ => none) 0 (some h2)) 1 (some h3)) 2 (some h4)) 3 (some h5))))))), (h2, .inr (6, [.ref z5, .int 0])), (h3, .inr (6, [.ref z6, .int 0])), (h4, .inr (6, [.ref z7, .int 0])), (h5, .inr (6, [.ref z8, .int 0]))]) (w1 := []) hP hD [] [0, 1, 2, 3, 4, 5] rfl rfl (by decide) (by decide) hk1 hFc hP1 hD1
  generalize H1 = H at hP hS ⊢
  have hP : va_P (dC, dI) vwCl [(h0, .inr (7, [.ref h1, .ref z0, .ref z1, .ref z2, .ref z3, .ref z4, .int 0, .int 0, .int 0])), (h1, .inl (k0, 4, .inr (.inr (.inr (.inr (va_up (va_up (va_up (va_up (fun _ => none) 0 (some h2)) 1 (some h3)) 2 (some h4)) 3 (some h5))))))), (h2, .inr (6, [.ref z5, .int 0])), (h3, .inr (6, [.ref z6, .int 0])), (h4, .inr (6, [.ref z7, .int 0])), (h5, .inr (6, [.ref z8, .int 0]))] H := hP
  have hD : va_D A [(h0, .inr (7, [.ref h1, .ref z0, .ref z1, .ref z2, .ref z3, .ref z4, .int 0, .int 0, .int 0])), (h1, .inl (k0, 4, .inr (.inr (.inr (.inr (va_up (va_up (va_up (va_up (fun _ => none) 0 (some h2)) 1 (some h3)) 2 (some h4)) 3 (some h5))))))), (h2, .inr (6, [.ref z5, .int 0])), (h3, .inr (6, [.ref z6, .int 0])), (h4, .inr (6, [.ref z7, .int 0])), (h5, .inr (6, [.ref z8, .int 0]))] := hD
  refine lv_aload_n hx hb dX3_text_4 rfl (lv_at hl 0 rfl) ?_
  refine va_get (D := (dC, dI)) (ci := 7) (v := .ref h1) (C := RX3) (T := TX3) (N := 9) hx hb hts (by decide +kernel) hown hK hP 0 rfl rfl 0 (by decide) (hts (.fieldLink RX3 11 "Rewriterope" "ropes" "[LRewriterope$Text;") (by decide +kernel)) (fun _ h9 => h9) rfl dX3_text_5 ?_
  refine lv_iload_n hx hb dX3_text_8 rfl (lv_at hl 1 rfl) ?_
  refine va_aldq (D := (dC, dI)) hx hb hK hP 1 0 rfl rfl (by unfold vp_in; decide) dX3_text_9 ?_
  refine W.eq (g2 := F0 m 10 ls [.ref h5]) rfl ?_
  have hPc := hP.sub (ws' := [(h5, .inr (6, [.ref z8, .int 0]))]) [5] rfl
  have hDc := hD.sub (ws' := [(h5, .inr (6, [.ref z8, .int 0]))]) [5] (by decide) rfl
  have hKc := hK.sub (tys' := []) [] rfl
  have hFc := va_free (wc := [(h5, .inr (6, [.ref z8, .int 0]))]) hD hS hA [5] rfl
  refine va_callr (va_runV (As := []) (rest := []) ⟨hx, hb, hml, hown, hts⟩ (kx_X2_asString_0 l dC dI ge5 gea gv5 gva gde gic gi0 h5 z8 H.size) (cwV 0 hts gX3_text_X2_asString rfl rfl rfl (by decide +kernel) ⟨Nat.le_of_ble_eq_true rfl, Nat.le_of_ble_eq_true rfl⟩) ⟨fun a U g mk q => by obtain ⟨q0, q1, qP, qK, qD, qG⟩ := q; exact ⟨q0, q1, qP, va_K.moved (u := U) (U := U.calling g mk a) (Vm.Alike.refl U.vm) qK, qD, gv.fb qG⟩, va_recv hKc hPc (ci := 6) (q0 := 0) rfl rfl, fun U hU hW => ⟨rfl, by rw [hU], by rw [hU]; exact hPc, va_K.moved hW.alike hKc, hDc.weaken (fun _ _ _ _ => trivial), gv.pass hW hU hS hFc hG⟩⟩ rfl rfl hl.1 rfl (lv_room (Nat.le_of_ble_eq_true rfl)) dX3_text_10 ⟨Nat.le_of_ble_eq_true rfl, Nat.le_of_ble_eq_true rfl⟩) hS (fun q _ h => hFc q h) hFc (fun u ra t H1 locs ht hvm hw hB hz1 hk1 hS => ?_)
  obtain ⟨q1, q2, q3, q4, cq5, cq6, hra, hP1, hK1, hD1⟩ := hB
  rw [hra]
  rw [ht] at hP1
  have hK1 := va_K.moved hvm.symm hK1
  obtain ⟨hP, hD⟩ := va_join (wr := [(h0, .inr (7, [.ref h1, .ref z0, .ref z1, .ref z2, .ref z3, .ref z4, .int 0, .int 0, .int 0])), (h1, .inl (k0, 4, .inr (.inr (.inr (.inr (va_up (va_up (va_up (va_up (fun _ => none) 0 (some h2)) 1 (some h3)) 2 (some h4)) 3 (some h5))))))), (h2, .inr (6, [.ref z5, .int 0])), (h3, .inr (6, [.ref z6, .int 0])), (h4, .inr (6, [.ref z7, .int 0]))]) (w1 := [(h5, .inr (6, [.ref z8, .int 0])), (q1, .inr (1, [.ref q2, .int 0, .int 0, .int 0])), (q2, .inl (cq5, 16, .inl (fun _ => 0))), (q3, .inr (0, [.ref q4, .int 0, .int 0, .int 0])), (q4, .inl (cq6, 0, .inl (fun _ => 0)))]) hP hD [5] [0, 1, 2, 3, 4] rfl rfl (by decide) (by decide) hk1 hFc hP1 hD1
  have hK := hK.app (hK1.sub (tys' := [(cq5, .byte), (cq6, .byte)]) [0, 1] rfl)
  generalize H1 = H at hP hS ⊢
  have hK : va_K (dC, dI) vwCl [(k0, .object "Rewriterope$Text"), (cq5, .byte), (cq6, .byte)] s := hK
  have hP : va_P (dC, dI) vwCl [(h0, .inr (7, [.ref h1, .ref z0, .ref z1, .ref z2, .ref z3, .ref z4, .int 0, .int 0, .int 0])), (h1, .inl (k0, 4, .inr (.inr (.inr (.inr (va_up (va_up (va_up (va_up (fun _ => none) 0 (some h2)) 1 (some h3)) 2 (some h4)) 3 (some h5))))))), (h2, .inr (6, [.ref z5, .int 0])), (h3, .inr (6, [.ref z6, .int 0])), (h4, .inr (6, [.ref z7, .int 0])), (h5, .inr (6, [.ref z8, .int 0])), (q1, .inr (1, [.ref q2, .int 0, .int 0, .int 0])), (q2, .inl (cq5, 16, .inl (fun _ => 0))), (q3, .inr (0, [.ref q4, .int 0, .int 0, .int 0])), (q4, .inl (cq6, 0, .inl (fun _ => 0)))] H := hP
  have hD : va_D A [(h0, .inr (7, [.ref h1, .ref z0, .ref z1, .ref z2, .ref z3, .ref z4, .int 0, .int 0, .int 0])), (h1, .inl (k0, 4, .inr (.inr (.inr (.inr (va_up (va_up (va_up (va_up (fun _ => none) 0 (some h2)) 1 (some h3)) 2 (some h4)) 3 (some h5))))))), (h2, .inr (6, [.ref z5, .int 0])), (h3, .inr (6, [.ref z6, .int 0])), (h4, .inr (6, [.ref z7, .int 0])), (h5, .inr (6, [.ref z8, .int 0])), (q1, .inr (1, [.ref q2, .int 0, .int 0, .int 0])), (q2, .inl (cq5, 16, .inl (fun _ => 0))), (q3, .inr (0, [.ref q4, .int 0, .int 0, .int 0])), (q4, .inl (cq6, 0, .inl (fun _ => 0)))] := hD
  refine W.widen (k := 4) (n := 24) (by omega) (by omega) ?_
  exact W.aret (v := .ref q3) hx hb hr (Or.inl ⟨_, rfl⟩) (Or.inr ⟨_, rfl⟩) (fun t ht hW => ⟨⟨(), q3, rfl, trivial, q1, q2, q3, q4, cq5, cq6, rfl, by rw [ht]; exact hP, va_K.moved hW.alike hK, hD⟩, hS.F ht⟩) hS.2.2 dX3_text_13
set_option maxHeartbeats 4000000 in
set_option maxRecDepth 100000 in
theorem kx_X3_text_s0 (l : Launch) (dC : Nat → ClassId) (dI : Nat → Nat → Nat) (ge5 gea gv5 gva gde gic gi0 : Nat) (h0 : Nat) (h1 : Nat) (h2 : Nat) (h3 : Nat) (h4 : Nat) (h5 : Nat) (z0 : Nat) (z1 : Nat) (z2 : Nat) (z3 : Nat) (z4 : Nat) (z5 : Nat) (z6 : Nat) (z7 : Nat) (z8 : Nat) (k0 : ClassId) (sz : Nat) (j0 : Int32) (j0_l : (0 : Int) ≤ j0.toInt) (j0_u : j0.toInt ≤ (3 : Int)) : Met l yX3_text wsX3_text ({ frames := 7, cells := 4, slots := 24, locals := 192 }) (va_Pc [.ref h0, .int j0] (fun U => U.heap.size = sz ∧ va_P (dC, dI) vwCl [(h0, .inr (7, [.ref h1, .ref z0, .ref z1, .ref z2, .ref z3, .ref z4, .int 0, .int 0, .int 0])), (h1, .inl (k0, 4, .inr (.inr (.inr (.inr (va_up (va_up (va_up (va_up (fun _ => none) 0 (some h2)) 1 (some h3)) 2 (some h4)) 3 (some h5))))))), (h2, .inr (6, [.ref z5, .int 0])), (h3, .inr (6, [.ref z6, .int 0])), (h4, .inr (6, [.ref z7, .int 0])), (h5, .inr (6, [.ref z8, .int 0]))] U.heap ∧ va_K (dC, dI) vwCl [(k0, .object "Rewriterope$Text")] U ∧ va_D (fun _ => True) [(h0, .inr (7, [.ref h1, .ref z0, .ref z1, .ref z2, .ref z3, .ref z4, .int 0, .int 0, .int 0])), (h1, .inl (k0, 4, .inr (.inr (.inr (.inr (va_up (va_up (va_up (va_up (fun _ => none) 0 (some h2)) 1 (some h3)) 2 (some h4)) 3 (some h5))))))), (h2, .inr (6, [.ref z5, .int 0])), (h3, .inr (6, [.ref z6, .int 0])), (h4, .inr (6, [.ref z7, .int 0])), (h5, .inr (6, [.ref z8, .int 0]))] ∧ gv ge5 gea gv5 gva gde gic gi0 (va_A [(h0, .inr (7, [.ref h1, .ref z0, .ref z1, .ref z2, .ref z3, .ref z4, .int 0, .int 0, .int 0])), (h1, .inl (k0, 4, .inr (.inr (.inr (.inr (va_up (va_up (va_up (va_up (fun _ => none) 0 (some h2)) 1 (some h3)) 2 (some h4)) 3 (some h5))))))), (h2, .inr (6, [.ref z5, .int 0])), (h3, .inr (6, [.ref z6, .int 0])), (h4, .inr (6, [.ref z7, .int 0])), (h5, .inr (6, [.ref z8, .int 0]))] sz) U U.heap)) (va_Qr (fun _ : Unit => True) (fun (_ : Unit) (ra : Nat) (t : State) => ∃ q1 : Nat, ∃ q2 : Nat, ∃ q3 : Nat, ∃ q4 : Nat, ∃ cq5 : ClassId, ∃ cq6 : ClassId, ra = q3 ∧ va_P (dC, dI) vwCl [(h0, .inr (7, [.ref h1, .ref z0, .ref z1, .ref z2, .ref z3, .ref z4, .int 0, .int 0, .int 0])), (h1, .inl (k0, 4, .inr (.inr (.inr (.inr (va_up (va_up (va_up (va_up (fun _ => none) 0 (some h2)) 1 (some h3)) 2 (some h4)) 3 (some h5))))))), (h2, .inr (6, [.ref z5, .int 0])), (h3, .inr (6, [.ref z6, .int 0])), (h4, .inr (6, [.ref z7, .int 0])), (h5, .inr (6, [.ref z8, .int 0])), (q1, .inr (1, [.ref q2, .int 0, .int 0, .int 0])), (q2, .inl (cq5, 16, .inl (fun _ => 0))), (q3, .inr (0, [.ref q4, .int 0, .int 0, .int 0])), (q4, .inl (cq6, 0, .inl (fun _ => 0)))] t.heap ∧ va_K (dC, dI) vwCl [(k0, .object "Rewriterope$Text"), (cq5, .byte), (cq6, .byte)] t ∧ va_D (va_A [(h0, .inr (7, [.ref h1, .ref z0, .ref z1, .ref z2, .ref z3, .ref z4, .int 0, .int 0, .int 0])), (h1, .inl (k0, 4, .inr (.inr (.inr (.inr (va_up (va_up (va_up (va_up (fun _ => none) 0 (some h2)) 1 (some h3)) 2 (some h4)) 3 (some h5))))))), (h2, .inr (6, [.ref z5, .int 0])), (h3, .inr (6, [.ref z6, .int 0])), (h4, .inr (6, [.ref z7, .int 0])), (h5, .inr (6, [.ref z8, .int 0]))] sz) [(h0, .inr (7, [.ref h1, .ref z0, .ref z1, .ref z2, .ref z3, .ref z4, .int 0, .int 0, .int 0])), (h1, .inl (k0, 4, .inr (.inr (.inr (.inr (va_up (va_up (va_up (va_up (fun _ => none) 0 (some h2)) 1 (some h3)) 2 (some h4)) 3 (some h5))))))), (h2, .inr (6, [.ref z5, .int 0])), (h3, .inr (6, [.ref z6, .int 0])), (h4, .inr (6, [.ref z7, .int 0])), (h5, .inr (6, [.ref z8, .int 0])), (q1, .inr (1, [.ref q2, .int 0, .int 0, .int 0])), (q2, .inl (cq5, 16, .inl (fun _ => 0))), (q3, .inr (0, [.ref q4, .int 0, .int 0, .int 0])), (q4, .inl (cq6, 0, .inl (fun _ => 0)))]) (va_A [(h0, .inr (7, [.ref h1, .ref z0, .ref z1, .ref z2, .ref z3, .ref z4, .int 0, .int 0, .int 0])), (h1, .inl (k0, 4, .inr (.inr (.inr (.inr (va_up (va_up (va_up (va_up (fun _ => none) 0 (some h2)) 1 (some h3)) 2 (some h4)) 3 (some h5))))))), (h2, .inr (6, [.ref z5, .int 0])), (h3, .inr (6, [.ref z6, .int 0])), (h4, .inr (6, [.ref z7, .int 0])), (h5, .inr (6, [.ref z8, .int 0]))] sz)) 4 24 (va_A [(h0, .inr (7, [.ref h1, .ref z0, .ref z1, .ref z2, .ref z3, .ref z4, .int 0, .int 0, .int 0])), (h1, .inl (k0, 4, .inr (.inr (.inr (.inr (va_up (va_up (va_up (va_up (fun _ => none) 0 (some h2)) 1 (some h3)) 2 (some h4)) 3 (some h5))))))), (h2, .inr (6, [.ref z5, .int 0])), (h3, .inr (6, [.ref z6, .int 0])), (h4, .inr (6, [.ref z7, .int 0])), (h5, .inr (6, [.ref z8, .int 0]))] sz) := by
  have e9 : j0 = 0 ∨ j0 = 1 ∨ j0 = 2 ∨ j0 = 3 := by
    have h9 : j0.toInt = 0 ∨ j0.toInt = 1 ∨ j0.toInt = 2 ∨ j0.toInt = 3 := by omega
    rcases h9 with h9 | h9 | h9 | h9
    · exact Or.inl (Int32.toInt_inj.mp (h9.trans (by decide)))
    · exact Or.inr (Or.inl (Int32.toInt_inj.mp (h9.trans (by decide))))
    · exact Or.inr (Or.inr (Or.inl (Int32.toInt_inj.mp (h9.trans (by decide)))))
    · exact Or.inr (Or.inr (Or.inr (Int32.toInt_inj.mp (h9.trans (by decide)))))
  rcases e9 with rfl | rfl | rfl | rfl
  · exact kx_X3_text_0 l dC dI ge5 gea gv5 gva gde gic gi0 h0 h1 h2 h3 h4 h5 z0 z1 z2 z3 z4 z5 z6 z7 z8 k0 sz
  · exact kx_X3_text_1 l dC dI ge5 gea gv5 gva gde gic gi0 h0 h1 h2 h3 h4 h5 z0 z1 z2 z3 z4 z5 z6 z7 z8 k0 sz
  · exact kx_X3_text_2 l dC dI ge5 gea gv5 gva gde gic gi0 h0 h1 h2 h3 h4 h5 z0 z1 z2 z3 z4 z5 z6 z7 z8 k0 sz
  · exact kx_X3_text_3 l dC dI ge5 gea gv5 gva gde gic gi0 h0 h1 h2 h3 h4 h5 z0 z1 z2 z3 z4 z5 z6 z7 z8 k0 sz
set_option maxHeartbeats 4000000 in
set_option maxRecDepth 100000 in
theorem kx_L_text_0 (l : Launch) (dC : Nat → ClassId) (dI : Nat → Nat → Nat) (ge5 gea gv5 gva gde gic gi0 : Nat) (h0 : Nat) (h1 : Nat) (h2 : Nat) (h3 : Nat) (h4 : Nat) (h5 : Nat) (h6 : Nat) (z0 : Nat) (z1 : Nat) (z2 : Nat) (z3 : Nat) (z4 : Nat) (z5 : Nat) (z6 : Nat) (z7 : Nat) (z8 : Nat) (k0 : ClassId) (sz : Nat) (i0 : Int32) (i0_l : (0 : Int) ≤ i0.toInt) (i0_u : i0.toInt ≤ (3 : Int)) : Met l yL_text wsL_text ({ frames := 8, cells := 4, slots := 24, locals := 213 }) (va_Pc [.ref h0, .int i0, .ref h6] (fun U => U.heap.size = sz ∧ va_P (dC, dI) vwCl [(h0, .inr (7, [.ref h1, .ref z0, .ref z1, .ref z2, .ref z3, .ref z4, .int 0, .int 0, .int 0])), (h1, .inl (k0, 4, .inr (.inr (.inr (.inr (va_up (va_up (va_up (va_up (fun _ => none) 0 (some h2)) 1 (some h3)) 2 (some h4)) 3 (some h5))))))), (h2, .inr (6, [.ref z5, .int 0])), (h3, .inr (6, [.ref z6, .int 0])), (h4, .inr (6, [.ref z7, .int 0])), (h5, .inr (6, [.ref z8, .int 0])), (h6, .inr (8, [.long 0, .null]))] U.heap ∧ va_K (dC, dI) vwCl [(k0, .object "Rewriterope$Text")] U ∧ va_D (fun _ => True) [(h0, .inr (7, [.ref h1, .ref z0, .ref z1, .ref z2, .ref z3, .ref z4, .int 0, .int 0, .int 0])), (h1, .inl (k0, 4, .inr (.inr (.inr (.inr (va_up (va_up (va_up (va_up (fun _ => none) 0 (some h2)) 1 (some h3)) 2 (some h4)) 3 (some h5))))))), (h2, .inr (6, [.ref z5, .int 0])), (h3, .inr (6, [.ref z6, .int 0])), (h4, .inr (6, [.ref z7, .int 0])), (h5, .inr (6, [.ref z8, .int 0])), (h6, .inr (8, [.long 0, .null]))] ∧ gv ge5 gea gv5 gva gde gic gi0 (va_A [(h0, .inr (7, [.ref h1, .ref z0, .ref z1, .ref z2, .ref z3, .ref z4, .int 0, .int 0, .int 0])), (h1, .inl (k0, 4, .inr (.inr (.inr (.inr (va_up (va_up (va_up (va_up (fun _ => none) 0 (some h2)) 1 (some h3)) 2 (some h4)) 3 (some h5))))))), (h2, .inr (6, [.ref z5, .int 0])), (h3, .inr (6, [.ref z6, .int 0])), (h4, .inr (6, [.ref z7, .int 0])), (h5, .inr (6, [.ref z8, .int 0])), (h6, .inr (8, [.long 0, .null]))] sz) U U.heap)) (va_Qi (fun (r : Int32) (_ : Unit) => r = 0) (fun (_ : Unit) (t : State) => ∃ q1 : Nat, ∃ q2 : Nat, ∃ q3 : Nat, ∃ q4 : Nat, ∃ cq5 : ClassId, ∃ cq6 : ClassId, va_P (dC, dI) vwCl [(h0, .inr (7, [.ref h1, .ref z0, .ref z1, .ref z2, .ref z3, .ref z4, .int 0, .int 0, .int 0])), (h1, .inl (k0, 4, .inr (.inr (.inr (.inr (va_up (va_up (va_up (va_up (fun _ => none) 0 (some h2)) 1 (some h3)) 2 (some h4)) 3 (some h5))))))), (h2, .inr (6, [.ref z5, .int 0])), (h3, .inr (6, [.ref z6, .int 0])), (h4, .inr (6, [.ref z7, .int 0])), (h5, .inr (6, [.ref z8, .int 0])), (h6, .inr (8, [.long 0, .ref q3])), (q1, .inr (1, [.ref q2, .int 0, .int 0, .int 0])), (q2, .inl (cq5, 16, .inl (fun _ => 0))), (q3, .inr (0, [.ref q4, .int 0, .int 0, .int 0])), (q4, .inl (cq6, 0, .inl (fun _ => 0)))] t.heap ∧ va_K (dC, dI) vwCl [(k0, .object "Rewriterope$Text"), (cq5, .byte), (cq6, .byte)] t ∧ va_D (va_A [(h0, .inr (7, [.ref h1, .ref z0, .ref z1, .ref z2, .ref z3, .ref z4, .int 0, .int 0, .int 0])), (h1, .inl (k0, 4, .inr (.inr (.inr (.inr (va_up (va_up (va_up (va_up (fun _ => none) 0 (some h2)) 1 (some h3)) 2 (some h4)) 3 (some h5))))))), (h2, .inr (6, [.ref z5, .int 0])), (h3, .inr (6, [.ref z6, .int 0])), (h4, .inr (6, [.ref z7, .int 0])), (h5, .inr (6, [.ref z8, .int 0])), (h6, .inr (8, [.long 0, .null]))] sz) [(h0, .inr (7, [.ref h1, .ref z0, .ref z1, .ref z2, .ref z3, .ref z4, .int 0, .int 0, .int 0])), (h1, .inl (k0, 4, .inr (.inr (.inr (.inr (va_up (va_up (va_up (va_up (fun _ => none) 0 (some h2)) 1 (some h3)) 2 (some h4)) 3 (some h5))))))), (h2, .inr (6, [.ref z5, .int 0])), (h3, .inr (6, [.ref z6, .int 0])), (h4, .inr (6, [.ref z7, .int 0])), (h5, .inr (6, [.ref z8, .int 0])), (h6, .inr (8, [.long 0, .ref q3])), (q1, .inr (1, [.ref q2, .int 0, .int 0, .int 0])), (q2, .inl (cq5, 16, .inl (fun _ => 0))), (q3, .inr (0, [.ref q4, .int 0, .int 0, .int 0])), (q4, .inl (cq6, 0, .inl (fun _ => 0)))]) (va_A [(h0, .inr (7, [.ref h1, .ref z0, .ref z1, .ref z2, .ref z3, .ref z4, .int 0, .int 0, .int 0])), (h1, .inl (k0, 4, .inr (.inr (.inr (.inr (va_up (va_up (va_up (va_up (fun _ => none) 0 (some h2)) 1 (some h3)) 2 (some h4)) 3 (some h5))))))), (h2, .inr (6, [.ref z5, .int 0])), (h3, .inr (6, [.ref z6, .int 0])), (h4, .inr (6, [.ref z7, .int 0])), (h5, .inr (6, [.ref z8, .int 0])), (h6, .inr (8, [.long 0, .null]))] sz)) 4 24 (va_A [(h0, .inr (7, [.ref h1, .ref z0, .ref z1, .ref z2, .ref z3, .ref z4, .int 0, .int 0, .int 0])), (h1, .inl (k0, 4, .inr (.inr (.inr (.inr (va_up (va_up (va_up (va_up (fun _ => none) 0 (some h2)) 1 (some h3)) 2 (some h4)) 3 (some h5))))))), (h2, .inr (6, [.ref z5, .int 0])), (h3, .inr (6, [.ref z6, .int 0])), (h4, .inr (6, [.ref z7, .int 0])), (h5, .inr (6, [.ref z8, .int 0])), (h6, .inr (8, [.long 0, .null]))] sz) := by
  refine kz_ofWH (cc := cL_text) (maxL := 4) (ret := (some .int)) (hh := [(0, 9, 12, 19)]) (by decide) rfl ?_
  intro p e s m args below meth c s₁ B hml hv
  obtain ⟨rfl, hsz, hP, hK, hD0, hG⟩ := hv
  have hx := B.exec
  have hb := B.bytes
  have hr := B.returns
  have hts := atoms_spec (ws := wsL_text) B.pre
  have hown : s.vm.findClass RL = some m.cls := findClass_of_methodNamed B.named
  have htab := vx_table (x := yL_text) B (hts (.codeWith yL_text cL_text 4 (some .int) [(0, 9, 12, 19)]) (by decide +kernel))
  have hlocks := B.notSynchronized
  subst hsz
  have hD := hD0.self (sz := s.heap.size)
  generalize hAe : va_A [(h0, .inr (7, [.ref h1, .ref z0, .ref z1, .ref z2, .ref z3, .ref z4, .int 0, .int 0, .int 0])), (h1, .inl (k0, 4, .inr (.inr (.inr (.inr (va_up (va_up (va_up (va_up (fun _ => none) 0 (some h2)) 1 (some h3)) 2 (some h4)) 3 (some h5))))))), (h2, .inr (6, [.ref z5, .int 0])), (h3, .inr (6, [.ref z6, .int 0])), (h4, .inr (6, [.ref z7, .int 0])), (h5, .inr (6, [.ref z8, .int 0])), (h6, .inr (8, [.long 0, .null]))] s.heap.size = A at hD hG ⊢
  obtain ⟨⟨g_AO_Text, g_AO_String, g_AO_Object, g_nm_RX1_20, g_nm_RX0_17, g_nm_RX3_31, g_nm_RX2_44, g_nm_RL_121, g_nf_RL_13, g_nf_RL_47, g_ca_IO, g_ca_IA, g_ca_IS, g_ca_IntObj, g_ca_StrObj, g_de_RT, g_de_EX, g_de_TH, g_nc_IA_IO, g_nc_IS_IO, g_nc_IS_IA⟩, ⟨g_s3, g_s5, g_sa, g_x278, g_x280, g_x282, g_x284, g_x286, g_x180, g_x238, g_x250⟩, ⟨g_o5, g_c5, g_v5, g_t5, g_oa, g_ca, g_va, g_ta, g_zc, g_zd, g_td, g_zf, g_zU, g_zN, g_zh, g_zk, g_tk, g_oi, g_vi⟩⟩ := id hG
  have hA : ∀ q : Nat, s.heap.size ≤ q → A q := fun q h => by rw [← hAe]; exact Or.inr h
  have hS : va_S A s.heap s.heap [] := va_S.rf
  have hP : va_P (dC, dI) vwCl [(h0, .inr (7, [.ref h1, .ref z0, .ref z1, .ref z2, .ref z3, .ref z4, .int 0, .int 0, .int 0])), (h1, .inl (k0, 4, .inr (.inr (.inr (.inr (va_up (va_up (va_up (va_up (fun _ => none) 0 (some h2)) 1 (some h3)) 2 (some h4)) 3 (some h5))))))), (h2, .inr (6, [.ref z5, .int 0])), (h3, .inr (6, [.ref z6, .int 0])), (h4, .inr (6, [.ref z7, .int 0])), (h5, .inr (6, [.ref z8, .int 0])), (h6, .inr (8, [.long 0, .null]))] s.heap := hP
  have hl := lv_entry ([.ref h0, .int i0, .ref h6]) (n := 4) (Nat.le_of_ble_eq_true rfl)
  rw [lg_entry_eq]
  generalize (lg_sl ([.ref h0, .int i0, .ref h6]) ++ List.replicate (4 - (lg_sl ([.ref h0, .int i0, .ref h6])).length) Slot.unset).toArray = ls at hl ⊢
  have hl : lv_has ls 4 [(0, .ref h0), (1, .int i0), (2, .ref h6)] := hl
  refine lv_aload_n hx hb dL_text_0 rfl (lv_at hl 2 rfl) ?_
  refine lv_aload_n hx hb dL_text_1 rfl (lv_at hl 0 rfl) ?_
  refine lv_iload_n hx hb dL_text_2 rfl (lv_at hl 1 rfl) ?_
  have hPc := hP.sub (ws' := [(h0, .inr (7, [.ref h1, .ref z0, .ref z1, .ref z2, .ref z3, .ref z4, .int 0, .int 0, .int 0])), (h1, .inl (k0, 4, .inr (.inr (.inr (.inr (va_up (va_up (va_up (va_up (fun _ => none) 0 (some h2)) 1 (some h3)) 2 (some h4)) 3 (some h5))))))), (h2, .inr (6, [.ref z5, .int 0])), (h3, .inr (6, [.ref z6, .int 0])), (h4, .inr (6, [.ref z7, .int 0])), (h5, .inr (6, [.ref z8, .int 0]))]) [0, 1, 2, 3, 4, 5] rfl
  have hDc := hD.sub (ws' := [(h0, .inr (7, [.ref h1, .ref z0, .ref z1, .ref z2, .ref z3, .ref z4, .int 0, .int 0, .int 0])), (h1, .inl (k0, 4, .inr (.inr (.inr (.inr (va_up (va_up (va_up (va_up (fun _ => none) 0 (some h2)) 1 (some h3)) 2 (some h4)) 3 (some h5))))))), (h2, .inr (6, [.ref z5, .int 0])), (h3, .inr (6, [.ref z6, .int 0])), (h4, .inr (6, [.ref z7, .int 0])), (h5, .inr (6, [.ref z8, .int 0]))]) [0, 1, 2, 3, 4, 5] (by decide) rfl
  have hKc := hK.sub (tys' := [(k0, .object "Rewriterope$Text")]) [0] rfl
  have hFc := va_free (wc := [(h0, .inr (7, [.ref h1, .ref z0, .ref z1, .ref z2, .ref z3, .ref z4, .int 0, .int 0, .int 0])), (h1, .inl (k0, 4, .inr (.inr (.inr (.inr (va_up (va_up (va_up (va_up (fun _ => none) 0 (some h2)) 1 (some h3)) 2 (some h4)) 3 (some h5))))))), (h2, .inr (6, [.ref z5, .int 0])), (h3, .inr (6, [.ref z6, .int 0])), (h4, .inr (6, [.ref z7, .int 0])), (h5, .inr (6, [.ref z8, .int 0]))]) hD hS hA [0, 1, 2, 3, 4, 5] rfl
  refine va_callr (va_runV (As := [.int i0]) (rest := [.ref h6]) ⟨hx, hb, hml, hown, hts⟩ (kx_X3_text_s0 l dC dI ge5 gea gv5 gva gde gic gi0 h0 h1 h2 h3 h4 h5 z0 z1 z2 z3 z4 z5 z6 z7 z8 k0 s.heap.size i0 i0_l i0_u) (cwV 1 hts gL_text_X3_text rfl rfl rfl (by decide +kernel) ⟨Nat.le_of_ble_eq_true rfl, Nat.le_of_ble_eq_true rfl⟩) ⟨fun a U g mk q => by obtain ⟨q0, q1, qP, qK, qD, qG⟩ := q; exact ⟨q0, q1, qP, va_K.moved (u := U) (U := U.calling g mk a) (Vm.Alike.refl U.vm) qK, qD, gv.fb qG⟩, va_recv hKc hPc (ci := 7) (q0 := 0) rfl rfl, fun U hU hW => ⟨rfl, by rw [hU], by rw [hU]; exact hPc, va_K.moved hW.alike hKc, hDc.weaken (fun _ _ _ _ => trivial), gv.pass hW hU hS hFc hG⟩⟩ rfl rfl hl.1 rfl (lv_room (Nat.le_of_ble_eq_true rfl)) dL_text_3 ⟨Nat.le_of_ble_eq_true rfl, Nat.le_of_ble_eq_true rfl⟩) hS (fun q _ h => hFc q h) hFc (fun u ra t H1 locs ht hvm hw hB hz1 hk1 hS => ?_)
  obtain ⟨q1, q2, q3, q4, cq5, cq6, hra, hP1, hK1, hD1⟩ := hB
  rw [hra]
  rw [ht] at hP1
  have hK1 := va_K.moved hvm.symm hK1
  obtain ⟨hP, hD⟩ := va_join (wr := [(h6, .inr (8, [.long 0, .null]))]) (w1 := [(h0, .inr (7, [.ref h1, .ref z0, .ref z1, .ref z2, .ref z3, .ref z4, .int 0, .int 0, .int 0])), (h1, .inl (k0, 4, .inr (.inr (.inr (.inr (va_up (va_up (va_up (va_up (fun _ => none) 0 (some h2)) 1 (some h3)) 2 (some h4)) 3 (some h5))))))), (h2, .inr (6, [.ref z5, .int 0])), (h3, .inr (6, [.ref z6, .int 0])), (h4, .inr (6, [.ref z7, .int 0])), (h5, .inr (6, [.ref z8, .int 0])), (q1, .inr (1, [.ref q2, .int 0, .int 0, .int 0])), (q2, .inl (cq5, 16, .inl (fun _ => 0))), (q3, .inr (0, [.ref q4, .int 0, .int 0, .int 0])), (q4, .inl (cq6, 0, .inl (fun _ => 0)))]) hP hD [0, 1, 2, 3, 4, 5] [6] rfl rfl (by decide) (by decide) hk1 hFc hP1 hD1
  have hK := hK.app (hK1.sub (tys' := [(cq5, .byte), (cq6, .byte)]) [1, 2] rfl)
  generalize H1 = H at hP hS ⊢
  have hK : va_K (dC, dI) vwCl [(k0, .object "Rewriterope$Text"), (cq5, .byte), (cq6, .byte)] s := hK
  have hP : va_P (dC, dI) vwCl [(h6, .inr (8, [.long 0, .null])), (h0, .inr (7, [.ref h1, .ref z0, .ref z1, .ref z2, .ref z3, .ref z4, .int 0, .int 0, .int 0])), (h1, .inl (k0, 4, .inr (.inr (.inr (.inr (va_up (va_up (va_up (va_up (fun _ => none) 0 (some h2)) 1 (some h3)) 2 (some h4)) 3 (some h5))))))), (h2, .inr (6, [.ref z5, .int 0])), (h3, .inr (6, [.ref z6, .int 0])), (h4, .inr (6, [.ref z7, .int 0])), (h5, .inr (6, [.ref z8, .int 0])), (q1, .inr (1, [.ref q2, .int 0, .int 0, .int 0])), (q2, .inl (cq5, 16, .inl (fun _ => 0))), (q3, .inr (0, [.ref q4, .int 0, .int 0, .int 0])), (q4, .inl (cq6, 0, .inl (fun _ => 0)))] H := hP
  have hD : va_D A [(h6, .inr (8, [.long 0, .null])), (h0, .inr (7, [.ref h1, .ref z0, .ref z1, .ref z2, .ref z3, .ref z4, .int 0, .int 0, .int 0])), (h1, .inl (k0, 4, .inr (.inr (.inr (.inr (va_up (va_up (va_up (va_up (fun _ => none) 0 (some h2)) 1 (some h3)) 2 (some h4)) 3 (some h5))))))), (h2, .inr (6, [.ref z5, .int 0])), (h3, .inr (6, [.ref z6, .int 0])), (h4, .inr (6, [.ref z7, .int 0])), (h5, .inr (6, [.ref z8, .int 0])), (q1, .inr (1, [.ref q2, .int 0, .int 0, .int 0])), (q2, .inl (cq5, 16, .inl (fun _ => 0))), (q3, .inr (0, [.ref q4, .int 0, .int 0, .int 0])), (q4, .inl (cq6, 0, .inl (fun _ => 0)))] := hD
  refine W.widen (k := 4) (n := 24) (by omega) (by omega) ?_
  refine va_putN (D := (dC, dI)) (ci := 8) (v := .ref q3) (ty := .object "java/lang/String") (C := RX4) (T := TX4) (N := 2) hx hb hts (by decide +kernel) tyX4 tyX4_ok nmX4 hown hK hP hD hS 0 rfl rfl 1 (by decide) (va_Nw.use rfl g_nf_RL_47) (fun _ h9 => h9) rfl (by decide +kernel) rfl rfl (Nat.le_of_ble_eq_true rfl) dL_text_6 (fun H locs hP hD hS => ?_)
  have hP : va_P (dC, dI) vwCl [(h6, .inr (8, [.long 0, .ref q3])), (h0, .inr (7, [.ref h1, .ref z0, .ref z1, .ref z2, .ref z3, .ref z4, .int 0, .int 0, .int 0])), (h1, .inl (k0, 4, .inr (.inr (.inr (.inr (va_up (va_up (va_up (va_up (fun _ => none) 0 (some h2)) 1 (some h3)) 2 (some h4)) 3 (some h5))))))), (h2, .inr (6, [.ref z5, .int 0])), (h3, .inr (6, [.ref z6, .int 0])), (h4, .inr (6, [.ref z7, .int 0])), (h5, .inr (6, [.ref z8, .int 0])), (q1, .inr (1, [.ref q2, .int 0, .int 0, .int 0])), (q2, .inl (cq5, 16, .inl (fun _ => 0))), (q3, .inr (0, [.ref q4, .int 0, .int 0, .int 0])), (q4, .inl (cq6, 0, .inl (fun _ => 0)))] H := hP
  have hD : va_D A [(h6, .inr (8, [.long 0, .ref q3])), (h0, .inr (7, [.ref h1, .ref z0, .ref z1, .ref z2, .ref z3, .ref z4, .int 0, .int 0, .int 0])), (h1, .inl (k0, 4, .inr (.inr (.inr (.inr (va_up (va_up (va_up (va_up (fun _ => none) 0 (some h2)) 1 (some h3)) 2 (some h4)) 3 (some h5))))))), (h2, .inr (6, [.ref z5, .int 0])), (h3, .inr (6, [.ref z6, .int 0])), (h4, .inr (6, [.ref z7, .int 0])), (h5, .inr (6, [.ref z8, .int 0])), (q1, .inr (1, [.ref q2, .int 0, .int 0, .int 0])), (q2, .inl (cq5, 16, .inl (fun _ => 0))), (q3, .inr (0, [.ref q4, .int 0, .int 0, .int 0])), (q4, .inl (cq6, 0, .inl (fun _ => 0)))] := hD
  refine lv_goto (tgt := 15) hx hb dL_text_9 (by decide) ?_
  refine lv_iconst (v := 0) hx hb dL_text_15 (by decide) ?_
  have hP := hP.sub (ws' := [(h0, .inr (7, [.ref h1, .ref z0, .ref z1, .ref z2, .ref z3, .ref z4, .int 0, .int 0, .int 0])), (h1, .inl (k0, 4, .inr (.inr (.inr (.inr (va_up (va_up (va_up (va_up (fun _ => none) 0 (some h2)) 1 (some h3)) 2 (some h4)) 3 (some h5))))))), (h2, .inr (6, [.ref z5, .int 0])), (h3, .inr (6, [.ref z6, .int 0])), (h4, .inr (6, [.ref z7, .int 0])), (h5, .inr (6, [.ref z8, .int 0])), (h6, .inr (8, [.long 0, .ref q3])), (q1, .inr (1, [.ref q2, .int 0, .int 0, .int 0])), (q2, .inl (cq5, 16, .inl (fun _ => 0))), (q3, .inr (0, [.ref q4, .int 0, .int 0, .int 0])), (q4, .inl (cq6, 0, .inl (fun _ => 0)))]) [1, 2, 3, 4, 5, 6, 0, 7, 8, 9, 10] rfl
  have hD := hD.sub (ws' := [(h0, .inr (7, [.ref h1, .ref z0, .ref z1, .ref z2, .ref z3, .ref z4, .int 0, .int 0, .int 0])), (h1, .inl (k0, 4, .inr (.inr (.inr (.inr (va_up (va_up (va_up (va_up (fun _ => none) 0 (some h2)) 1 (some h3)) 2 (some h4)) 3 (some h5))))))), (h2, .inr (6, [.ref z5, .int 0])), (h3, .inr (6, [.ref z6, .int 0])), (h4, .inr (6, [.ref z7, .int 0])), (h5, .inr (6, [.ref z8, .int 0])), (h6, .inr (8, [.long 0, .ref q3])), (q1, .inr (1, [.ref q2, .int 0, .int 0, .int 0])), (q2, .inl (cq5, 16, .inl (fun _ => 0))), (q3, .inr (0, [.ref q4, .int 0, .int 0, .int 0])), (q4, .inl (cq6, 0, .inl (fun _ => 0)))]) [1, 2, 3, 4, 5, 6, 0, 7, 8, 9, 10] (by decide) rfl
  exact W.iret (v := 0) hx hb hr (fun t ht hW => ⟨⟨0, (), rfl, rfl, q1, q2, q3, q4, cq5, cq6, by rw [ht]; exact hP, va_K.moved hW.alike hK, hD⟩, hS.F ht⟩) hS.2.2 dL_text_16
set_option maxHeartbeats 4000000 in
set_option maxRecDepth 100000 in
theorem kx_X5_text_0 (l : Launch) (dC : Nat → ClassId) (dI : Nat → Nat → Nat) (ge5 gea gv5 gva gde gic gi0 : Nat) (h0 : Nat) (h1 : Nat) (z0 : Nat) (z1 : Nat) (k0 : ClassId) (sz : Nat) (i0 : Int32) (i0_l : (0 : Int) ≤ i0.toInt) (i0_u : i0.toInt ≤ (3 : Int)) : Met l yX5_text wsX5_text ({ frames := 2, cells := 0, slots := 0, locals := 42 }) (va_Pc [.ref h0, .int i0] (fun U => U.heap.size = sz ∧ va_P (dC, dI) vwCl [(h0, .inr (9, [.int 0, .ref h1, .ref z0, .ref z1, .int 0, .int 0, .int 0])), (h1, .inl (k0, 4, .inr (.inr (.inr (.inr (va_up (va_up (va_up (va_up (fun _ => none) 0 (some ge5)) 1 (some ge5)) 2 (some ge5)) 3 (some ge5)))))))] U.heap ∧ va_K (dC, dI) vwCl [(k0, .object "java/lang/String")] U ∧ va_D (fun _ => True) [(h0, .inr (9, [.int 0, .ref h1, .ref z0, .ref z1, .int 0, .int 0, .int 0])), (h1, .inl (k0, 4, .inr (.inr (.inr (.inr (va_up (va_up (va_up (va_up (fun _ => none) 0 (some ge5)) 1 (some ge5)) 2 (some ge5)) 3 (some ge5)))))))] ∧ gv ge5 gea gv5 gva gde gic gi0 (va_A [(h0, .inr (9, [.int 0, .ref h1, .ref z0, .ref z1, .int 0, .int 0, .int 0])), (h1, .inl (k0, 4, .inr (.inr (.inr (.inr (va_up (va_up (va_up (va_up (fun _ => none) 0 (some ge5)) 1 (some ge5)) 2 (some ge5)) 3 (some ge5)))))))] sz) U U.heap)) (va_Qr (fun _ : Unit => True) (fun (_ : Unit) (ra : Nat) (t : State) => ra = ge5 ∧ va_P (dC, dI) vwCl [(h0, .inr (9, [.int 0, .ref h1, .ref z0, .ref z1, .int 0, .int 0, .int 0]))] t.heap ∧ va_K (dC, dI) vwCl [(k0, .object "java/lang/String")] t ∧ va_D (va_A [(h0, .inr (9, [.int 0, .ref h1, .ref z0, .ref z1, .int 0, .int 0, .int 0])), (h1, .inl (k0, 4, .inr (.inr (.inr (.inr (va_up (va_up (va_up (va_up (fun _ => none) 0 (some ge5)) 1 (some ge5)) 2 (some ge5)) 3 (some ge5)))))))] sz) [(h0, .inr (9, [.int 0, .ref h1, .ref z0, .ref z1, .int 0, .int 0, .int 0]))]) (va_A [(h0, .inr (9, [.int 0, .ref h1, .ref z0, .ref z1, .int 0, .int 0, .int 0])), (h1, .inl (k0, 4, .inr (.inr (.inr (.inr (va_up (va_up (va_up (va_up (fun _ => none) 0 (some ge5)) 1 (some ge5)) 2 (some ge5)) 3 (some ge5)))))))] sz)) 0 0 (va_A [(h0, .inr (9, [.int 0, .ref h1, .ref z0, .ref z1, .int 0, .int 0, .int 0])), (h1, .inl (k0, 4, .inr (.inr (.inr (.inr (va_up (va_up (va_up (va_up (fun _ => none) 0 (some ge5)) 1 (some ge5)) 2 (some ge5)) 3 (some ge5)))))))] sz) := by
  refine Met.ofW (cc := cX5_text) (maxL := 2) (ret := (some (.object "java/lang/String"))) (by decide) rfl ?_
  intro p e s m args below meth c s₁ B hml hv
  obtain ⟨rfl, hsz, hP, hK, hD0, hG⟩ := hv
  have hx := B.exec
  have hb := B.bytes
  have hr := B.returns
  have hts := atoms_spec (ws := wsX5_text) B.pre
  have hown : s.vm.findClass RX5 = some m.cls := findClass_of_methodNamed B.named
  have hlocks := B.notSynchronized
  subst hsz
  have hD := hD0.self (sz := s.heap.size)
  generalize hAe : va_A [(h0, .inr (9, [.int 0, .ref h1, .ref z0, .ref z1, .int 0, .int 0, .int 0])), (h1, .inl (k0, 4, .inr (.inr (.inr (.inr (va_up (va_up (va_up (va_up (fun _ => none) 0 (some ge5)) 1 (some ge5)) 2 (some ge5)) 3 (some ge5)))))))] s.heap.size = A at hD hG ⊢
  obtain ⟨⟨g_AO_Text, g_AO_String, g_AO_Object, g_nm_RX1_20, g_nm_RX0_17, g_nm_RX3_31, g_nm_RX2_44, g_nm_RL_121, g_nf_RL_13, g_nf_RL_47, g_ca_IO, g_ca_IA, g_ca_IS, g_ca_IntObj, g_ca_StrObj, g_de_RT, g_de_EX, g_de_TH, g_nc_IA_IO, g_nc_IS_IO, g_nc_IS_IA⟩, ⟨g_s3, g_s5, g_sa, g_x278, g_x280, g_x282, g_x284, g_x286, g_x180, g_x238, g_x250⟩, ⟨g_o5, g_c5, g_v5, g_t5, g_oa, g_ca, g_va, g_ta, g_zc, g_zd, g_td, g_zf, g_zU, g_zN, g_zh, g_zk, g_tk, g_oi, g_vi⟩⟩ := id hG
  have hA : ∀ q : Nat, s.heap.size ≤ q → A q := fun q h => by rw [← hAe]; exact Or.inr h
  have hS : va_S A s.heap s.heap [] := va_S.rf
  have hP : va_P (dC, dI) vwCl [(h0, .inr (9, [.int 0, .ref h1, .ref z0, .ref z1, .int 0, .int 0, .int 0])), (h1, .inl (k0, 4, .inr (.inr (.inr (.inr (va_up (va_up (va_up (va_up (fun _ => none) 0 (some ge5)) 1 (some ge5)) 2 (some ge5)) 3 (some ge5)))))))] s.heap := hP
  have hl := lv_entry ([.ref h0, .int i0]) (n := 2) (Nat.le_of_ble_eq_true rfl)
  rw [lg_entry_eq]
  generalize (lg_sl ([.ref h0, .int i0]) ++ List.replicate (2 - (lg_sl ([.ref h0, .int i0])).length) Slot.unset).toArray = ls at hl ⊢
  have hl : lv_has ls 2 [(0, .ref h0), (1, .int i0)] := hl
  refine lv_aload_n hx hb dX5_text_0 rfl (lv_at hl 0 rfl) ?_
  refine lv_iload_n hx hb dX5_text_1 rfl (lv_at hl 1 rfl) ?_
  have hPc := hP.sub (ws' := []) [] rfl
  have hDc := hD.sub (ws' := []) [] (by decide) rfl
  have hKc := hK.sub (tys' := []) [] rfl
  have hFc := va_free (wc := []) hD hS hA [] rfl
  refine va_calli (va_runS (As := [.int i0]) (rest := [.ref h0]) ⟨hx, hb, hml, hown, hts⟩ (kx_X5_isNo_1 l dC dI s.heap.size i0 i0_l i0_u) (cwS 1 hts gX5_text_X5_isNo rfl rfl rfl (by decide +kernel) ⟨Nat.le_of_ble_eq_true rfl, Nat.le_of_ble_eq_true rfl⟩) ⟨fun a U g mk q => by obtain ⟨q0, q1, qP, qK, qD⟩ := q; exact ⟨q0, q1, qP, va_K.moved (u := U) (U := U.calling g mk a) (Vm.Alike.refl U.vm) qK, qD⟩, fun U hU hW => ⟨rfl, by rw [hU], by rw [hU]; exact hPc, va_K.moved hW.alike hKc, hDc.weaken (fun _ _ _ _ => trivial)⟩⟩ rfl rfl hl.1 rfl (lv_room (Nat.le_of_ble_eq_true rfl)) dX5_text_2 ⟨Nat.le_of_ble_eq_true rfl, Nat.le_of_ble_eq_true rfl⟩) hS (fun q _ h => hFc q h) hFc (fun r9 u t H1 locs ht hvm hw hB hz1 hk1 hS => ?_)
  obtain rfl := hw
  obtain ⟨hP1, hK1, hD1⟩ := hB
  rw [ht] at hP1
  have hK1 := va_K.moved hvm.symm hK1
  obtain ⟨hP, hD⟩ := va_join (wr := [(h0, .inr (9, [.int 0, .ref h1, .ref z0, .ref z1, .int 0, .int 0, .int 0])), (h1, .inl (k0, 4, .inr (.inr (.inr (.inr (va_up (va_up (va_up (va_up (fun _ => none) 0 (some ge5)) 1 (some ge5)) 2 (some ge5)) 3 (some ge5)))))))]) (w1 := []) hP hD [] [0, 1] rfl rfl (by decide) (by decide) hk1 hFc hP1 hD1
  generalize H1 = H at hP hS ⊢
  have hP : va_P (dC, dI) vwCl [(h0, .inr (9, [.int 0, .ref h1, .ref z0, .ref z1, .int 0, .int 0, .int 0])), (h1, .inl (k0, 4, .inr (.inr (.inr (.inr (va_up (va_up (va_up (va_up (fun _ => none) 0 (some ge5)) 1 (some ge5)) 2 (some ge5)) 3 (some ge5)))))))] H := hP
  have hD : va_D A [(h0, .inr (9, [.int 0, .ref h1, .ref z0, .ref z1, .int 0, .int 0, .int 0])), (h1, .inl (k0, 4, .inr (.inr (.inr (.inr (va_up (va_up (va_up (va_up (fun _ => none) 0 (some ge5)) 1 (some ge5)) 2 (some ge5)) 3 (some ge5)))))))] := hD
  refine lv_iconst (v := 0) hx hb dX5_text_5 (by decide) ?_
  refine lv_iconst (v := 0) hx hb dX5_text_6 (by decide) ?_
  have hPc := hP.sub (ws' := [(h0, .inr (9, [.int 0, .ref h1, .ref z0, .ref z1, .int 0, .int 0, .int 0]))]) [0] rfl
  have hDc := hD.sub (ws' := [(h0, .inr (9, [.int 0, .ref h1, .ref z0, .ref z1, .int 0, .int 0, .int 0]))]) [0] (by decide) rfl
  have hKc := hK.sub (tys' := []) [] rfl
  have hFc := va_free (wc := [(h0, .inr (9, [.int 0, .ref h1, .ref z0, .ref z1, .int 0, .int 0, .int 0]))]) hD hS hA [0] rfl
  refine va_calli (va_runV (As := [.int 0, .int 0, .int 0]) (rest := []) ⟨hx, hb, hml, hown, hts⟩ (kx_X5_fails_1 l dC dI h0 h1 z0 z1 H.size) (cwV 3 hts gX5_text_X5_fails rfl rfl rfl (by decide +kernel) ⟨Nat.le_of_ble_eq_true rfl, Nat.le_of_ble_eq_true rfl⟩) ⟨fun a U g mk q => by obtain ⟨q0, q1, qP, qK, qD⟩ := q; exact ⟨q0, q1, qP, va_K.moved (u := U) (U := U.calling g mk a) (Vm.Alike.refl U.vm) qK, qD⟩, va_recv hKc hPc (ci := 9) (q0 := 0) rfl rfl, fun U hU hW => ⟨rfl, by rw [hU], by rw [hU]; exact hPc, va_K.moved hW.alike hKc, hDc.weaken (fun _ _ _ _ => trivial)⟩⟩ rfl rfl hl.1 rfl (lv_room (Nat.le_of_ble_eq_true rfl)) dX5_text_7 ⟨Nat.le_of_ble_eq_true rfl, Nat.le_of_ble_eq_true rfl⟩) hS (fun q _ h => hFc q h) hFc (fun r9 u t H1 locs ht hvm hw hB hz1 hk1 hS => ?_)
  obtain rfl := hw
  obtain ⟨hP1, hK1, hD1⟩ := hB
  rw [ht] at hP1
  have hK1 := va_K.moved hvm.symm hK1
  obtain ⟨hP, hD⟩ := va_join (wr := [(h1, .inl (k0, 4, .inr (.inr (.inr (.inr (va_up (va_up (va_up (va_up (fun _ => none) 0 (some ge5)) 1 (some ge5)) 2 (some ge5)) 3 (some ge5)))))))]) (w1 := [(h0, .inr (9, [.int 0, .ref h1, .ref z0, .ref z1, .int 0, .int 0, .int 0]))]) hP hD [0] [1] rfl rfl (by decide) (by decide) hk1 hFc hP1 hD1
  generalize H1 = H at hP hS ⊢
  have hP : va_P (dC, dI) vwCl [(h1, .inl (k0, 4, .inr (.inr (.inr (.inr (va_up (va_up (va_up (va_up (fun _ => none) 0 (some ge5)) 1 (some ge5)) 2 (some ge5)) 3 (some ge5))))))), (h0, .inr (9, [.int 0, .ref h1, .ref z0, .ref z1, .int 0, .int 0, .int 0]))] H := hP
  have hD : va_D A [(h1, .inl (k0, 4, .inr (.inr (.inr (.inr (va_up (va_up (va_up (va_up (fun _ => none) 0 (some ge5)) 1 (some ge5)) 2 (some ge5)) 3 (some ge5))))))), (h0, .inr (9, [.int 0, .ref h1, .ref z0, .ref z1, .int 0, .int 0, .int 0]))] := hD
  refine lv_if_eq (tgt := 18) hx hb dX5_text_10 (by decide) (fun _ => ?_) (fun c9 => absurd (by decide) c9)
  refine lv_aload_n hx hb dX5_text_18 rfl (lv_at hl 0 rfl) ?_
  refine va_get (D := (dC, dI)) (ci := 9) (v := .ref h1) (C := RX5) (T := TX5) (N := 7) hx hb hts (by decide +kernel) hown hK hP 1 rfl rfl 1 (by decide) (hts (.fieldLink RX5 11 "RewriteropeModel" "ropes" "[Ljava/lang/String;") (by decide +kernel)) (fun _ h9 => h9) rfl dX5_text_19 ?_
  refine lv_iload_n hx hb dX5_text_22 rfl (lv_at hl 1 rfl) ?_
  refine va_aldq (D := (dC, dI)) hx hb hK hP 0 0 rfl rfl (kz_in4 i0_l i0_u) dX5_text_23 ?_
  rw [show (va_up (va_up (va_up (va_up (fun _ => none) 0 (some ge5)) 1 (some ge5)) 2 (some ge5)) 3 (some ge5)) i0.toNatClampNeg = some ge5 from (kz_ix4 (P := fun z => (va_up (va_up (va_up (va_up (fun _ => none) 0 (some ge5)) 1 (some ge5)) 2 (some ge5)) 3 (some ge5)) z.toNatClampNeg = some ge5) rfl rfl rfl rfl i0_l i0_u)]
  refine W.eq (g2 := F0 m 24 ls [.ref ge5]) rfl ?_
  have hP := hP.sub (ws' := [(h0, .inr (9, [.int 0, .ref h1, .ref z0, .ref z1, .int 0, .int 0, .int 0])), (h1, .inl (k0, 4, .inr (.inr (.inr (.inr (va_up (va_up (va_up (va_up (fun _ => none) 0 (some ge5)) 1 (some ge5)) 2 (some ge5)) 3 (some ge5)))))))]) [1, 0] rfl
  have hD := hD.sub (ws' := [(h0, .inr (9, [.int 0, .ref h1, .ref z0, .ref z1, .int 0, .int 0, .int 0])), (h1, .inl (k0, 4, .inr (.inr (.inr (.inr (va_up (va_up (va_up (va_up (fun _ => none) 0 (some ge5)) 1 (some ge5)) 2 (some ge5)) 3 (some ge5)))))))]) [1, 0] (by decide) rfl
  have hP := hP.sub (ws' := [(h0, .inr (9, [.int 0, .ref h1, .ref z0, .ref z1, .int 0, .int 0, .int 0]))]) [0] rfl
  have hD := hD.sub (ws' := [(h0, .inr (9, [.int 0, .ref h1, .ref z0, .ref z1, .int 0, .int 0, .int 0]))]) [0] (by decide) rfl
  exact W.aret (v := .ref ge5) hx hb hr (Or.inl ⟨_, rfl⟩) (Or.inr ⟨_, rfl⟩) (fun t ht hW => ⟨⟨(), ge5, rfl, trivial, rfl, by rw [ht]; exact hP, va_K.moved hW.alike hK, hD⟩, hS.F ht⟩) hS.2.2 dX5_text_24
set_option maxHeartbeats 4000000 in
set_option maxRecDepth 100000 in
theorem kx_J1_equals_b5fdf_0 (l : Launch) (dC : Nat → ClassId) (dI : Nat → Nat → Nat) (ge5 gea gv5 gva gde gic gi0 : Nat) (h0 : Nat) (k0 : ClassId) (sz : Nat) : Met l yJ1_equals_b5fdf wsJ1_equals_b5fdf ({ frames := 0, cells := 0, slots := 0, locals := 0 }) (va_Pc [.ref h0, .ref gv5] (fun U => U.heap.size = sz ∧ va_P (dC, dI) vwCl [(h0, .inl (k0, 0, .inl (fun _ => 0)))] U.heap ∧ va_K (dC, dI) vwCl [(k0, .byte)] U ∧ va_D (fun _ => True) [(h0, .inl (k0, 0, .inl (fun _ => 0)))] ∧ gv ge5 gea gv5 gva gde gic gi0 (va_A [(h0, .inl (k0, 0, .inl (fun _ => 0)))] sz) U U.heap)) (va_Qi (fun (r : Int32) (_ : Unit) => r = 1) (fun (_ : Unit) (t : State) => va_P (dC, dI) vwCl [(h0, .inl (k0, 0, .inl (fun _ => 0)))] t.heap ∧ va_K (dC, dI) vwCl [(k0, .byte)] t ∧ va_D (va_A [(h0, .inl (k0, 0, .inl (fun _ => 0)))] sz) [(h0, .inl (k0, 0, .inl (fun _ => 0)))]) (va_A [(h0, .inl (k0, 0, .inl (fun _ => 0)))] sz)) 0 0 (va_A [(h0, .inl (k0, 0, .inl (fun _ => 0)))] sz) := by
  refine Met.ofW (cc := cJ1_equals_b5fdf) (maxL := 3) (ret := (some .boolean)) (by decide) rfl ?_
  intro p e s m args below meth c s₁ B hml hv
  obtain ⟨rfl, hsz, hP, hK, hD0, hG⟩ := hv
  have hx := B.exec
  have hb := B.bytes
  have hr := B.returns
  have hts := atoms_spec (ws := wsJ1_equals_b5fdf) B.pre
  have hown : s.vm.findClass RJ1 = some m.cls := findClass_of_methodNamed B.named
  have hlocks := B.notSynchronized
  subst hsz
  have hD := hD0.self (sz := s.heap.size)
  generalize hAe : va_A [(h0, .inl (k0, 0, .inl (fun _ => 0)))] s.heap.size = A at hD hG ⊢
  obtain ⟨⟨g_AO_Text, g_AO_String, g_AO_Object, g_nm_RX1_20, g_nm_RX0_17, g_nm_RX3_31, g_nm_RX2_44, g_nm_RL_121, g_nf_RL_13, g_nf_RL_47, g_ca_IO, g_ca_IA, g_ca_IS, g_ca_IntObj, g_ca_StrObj, g_de_RT, g_de_EX, g_de_TH, g_nc_IA_IO, g_nc_IS_IO, g_nc_IS_IA⟩, ⟨g_s3, g_s5, g_sa, g_x278, g_x280, g_x282, g_x284, g_x286, g_x180, g_x238, g_x250⟩, ⟨g_o5, g_c5, g_v5, g_t5, g_oa, g_ca, g_va, g_ta, g_zc, g_zd, g_td, g_zf, g_zU, g_zN, g_zh, g_zk, g_tk, g_oi, g_vi⟩⟩ := id hG
  have hA : ∀ q : Nat, s.heap.size ≤ q → A q := fun q h => by rw [← hAe]; exact Or.inr h
  have hS : va_S A s.heap s.heap [] := va_S.rf
  have hP : va_P (dC, dI) vwCl [(h0, .inl (k0, 0, .inl (fun _ => 0)))] s.heap := hP
  have hl := lv_entry ([.ref h0, .ref gv5]) (n := 3) (Nat.le_of_ble_eq_true rfl)
  rw [lg_entry_eq]
  generalize (lg_sl ([.ref h0, .ref gv5]) ++ List.replicate (3 - (lg_sl ([.ref h0, .ref gv5])).length) Slot.unset).toArray = ls at hl ⊢
  have hl : lv_has ls 3 [(0, .ref h0), (1, .ref gv5)] := hl
  refine lv_aload_n hx hb dJ1_equals_b5fdf_0 rfl (lv_at hl 0 rfl) ?_
  refine va_alen (D := (dC, dI)) (v := 0) hx hb hK hP 0 0 rfl rfl (show Int32.ofNat 0 = 0 from by decide) dJ1_equals_b5fdf_1 ?_
  refine lv_aload_n hx hb dJ1_equals_b5fdf_2 rfl (lv_at hl 1 rfl) ?_
  refine va_tlen (v := 0) hx hb g_t5 hS (by decide) dJ1_equals_b5fdf_3 ?_
  refine lv_icmp_ne (tgt := 34) hx hb dJ1_equals_b5fdf_4 (by decide) (fun c9 => absurd (by decide) c9) (fun _ => ?_)
  refine lv_iconst (v := 0) hx hb dJ1_equals_b5fdf_7 (by decide) ?_
  refine lv_istore_n (lv' := [(2, .int 0), (0, .ref h0), (1, .ref gv5)]) hx hb dJ1_equals_b5fdf_8 rfl hl (by decide) rfl (fun ls hl => ?_)
  refine lv_iload_n hx hb dJ1_equals_b5fdf_9 rfl (lv_at hl 0 rfl) ?_
  refine lv_aload_n hx hb dJ1_equals_b5fdf_10 rfl (lv_at hl 1 rfl) ?_
  refine va_alen (D := (dC, dI)) (v := 0) hx hb hK hP 0 0 rfl rfl (show Int32.ofNat 0 = 0 from by decide) dJ1_equals_b5fdf_11 ?_
  refine lv_icmp_ge (tgt := 32) hx hb dJ1_equals_b5fdf_12 (by decide) (fun _ => ?_) (fun c9 => absurd (by decide) c9)
  refine lv_iconst (v := 1) hx hb dJ1_equals_b5fdf_32 (by decide) ?_
  exact W.zret (v := 1) hx hb hr (by decide) (fun t ht hW => ⟨⟨1, (), rfl, rfl, by rw [ht]; exact hP, va_K.moved hW.alike hK, hD⟩, hS.F ht⟩) hS.2.2 dJ1_equals_b5fdf_33
set_option maxHeartbeats 4000000 in
set_option maxRecDepth 100000 in
theorem kx_J0_equals_9ea2d_0 (l : Launch) (dC : Nat → ClassId) (dI : Nat → Nat → Nat) (ge5 gea gv5 gva gde gic gi0 : Nat) (h0 : Nat) (h1 : Nat) (k0 : ClassId) (sz : Nat) : Met l yJ0_equals_9ea2d wsJ0_equals_9ea2d ({ frames := 1, cells := 0, slots := 0, locals := 22 }) (va_Pc [.ref h0, .ref ge5] (fun U => U.heap.size = sz ∧ va_P (dC, dI) vwCl [(h0, .inr (0, [.ref h1, .int 0, .int 0, .int 0])), (h1, .inl (k0, 0, .inl (fun _ => 0)))] U.heap ∧ va_K (dC, dI) vwCl [(k0, .byte)] U ∧ va_D (fun _ => True) [(h0, .inr (0, [.ref h1, .int 0, .int 0, .int 0])), (h1, .inl (k0, 0, .inl (fun _ => 0)))] ∧ gv ge5 gea gv5 gva gde gic gi0 (va_A [(h0, .inr (0, [.ref h1, .int 0, .int 0, .int 0])), (h1, .inl (k0, 0, .inl (fun _ => 0)))] sz) U U.heap)) (va_Qi (fun (r : Int32) (_ : Unit) => r = 1) (fun (_ : Unit) (t : State) => va_P (dC, dI) vwCl [(h0, .inr (0, [.ref h1, .int 0, .int 0, .int 0])), (h1, .inl (k0, 0, .inl (fun _ => 0)))] t.heap ∧ va_K (dC, dI) vwCl [(k0, .byte)] t ∧ va_D (va_A [(h0, .inr (0, [.ref h1, .int 0, .int 0, .int 0])), (h1, .inl (k0, 0, .inl (fun _ => 0)))] sz) [(h0, .inr (0, [.ref h1, .int 0, .int 0, .int 0])), (h1, .inl (k0, 0, .inl (fun _ => 0)))]) (va_A [(h0, .inr (0, [.ref h1, .int 0, .int 0, .int 0])), (h1, .inl (k0, 0, .inl (fun _ => 0)))] sz)) 0 0 (va_A [(h0, .inr (0, [.ref h1, .int 0, .int 0, .int 0])), (h1, .inl (k0, 0, .inl (fun _ => 0)))] sz) := by
  refine Met.ofW (cc := cJ0_equals_9ea2d) (maxL := 3) (ret := (some .boolean)) (by decide) rfl ?_
  intro p e s m args below meth c s₁ B hml hv
  obtain ⟨rfl, hsz, hP, hK, hD0, hG⟩ := hv
  have hx := B.exec
  have hb := B.bytes
  have hr := B.returns
  have hts := atoms_spec (ws := wsJ0_equals_9ea2d) B.pre
  have hown : s.vm.findClass RJ0 = some m.cls := findClass_of_methodNamed B.named
  have hlocks := B.notSynchronized
  subst hsz
  have hD := hD0.self (sz := s.heap.size)
  generalize hAe : va_A [(h0, .inr (0, [.ref h1, .int 0, .int 0, .int 0])), (h1, .inl (k0, 0, .inl (fun _ => 0)))] s.heap.size = A at hD hG ⊢
  obtain ⟨⟨g_AO_Text, g_AO_String, g_AO_Object, g_nm_RX1_20, g_nm_RX0_17, g_nm_RX3_31, g_nm_RX2_44, g_nm_RL_121, g_nf_RL_13, g_nf_RL_47, g_ca_IO, g_ca_IA, g_ca_IS, g_ca_IntObj, g_ca_StrObj, g_de_RT, g_de_EX, g_de_TH, g_nc_IA_IO, g_nc_IS_IO, g_nc_IS_IA⟩, ⟨g_s3, g_s5, g_sa, g_x278, g_x280, g_x282, g_x284, g_x286, g_x180, g_x238, g_x250⟩, ⟨g_o5, g_c5, g_v5, g_t5, g_oa, g_ca, g_va, g_ta, g_zc, g_zd, g_td, g_zf, g_zU, g_zN, g_zh, g_zk, g_tk, g_oi, g_vi⟩⟩ := id hG
  have hA : ∀ q : Nat, s.heap.size ≤ q → A q := fun q h => by rw [← hAe]; exact Or.inr h
  have hS : va_S A s.heap s.heap [] := va_S.rf
  have hP : va_P (dC, dI) vwCl [(h0, .inr (0, [.ref h1, .int 0, .int 0, .int 0])), (h1, .inl (k0, 0, .inl (fun _ => 0)))] s.heap := hP
  have hl := lv_entry ([.ref h0, .ref ge5]) (n := 3) (Nat.le_of_ble_eq_true rfl)
  rw [lg_entry_eq]
  generalize (lg_sl ([.ref h0, .ref ge5]) ++ List.replicate (3 - (lg_sl ([.ref h0, .ref ge5])).length) Slot.unset).toArray = ls at hl ⊢
  have hl : lv_has ls 3 [(0, .ref h0), (1, .ref ge5)] := hl
  refine lv_aload_n hx hb dJ0_equals_9ea2d_0 rfl (lv_at hl 0 rfl) ?_
  refine lv_aload_n hx hb dJ0_equals_9ea2d_1 rfl (lv_at hl 1 rfl) ?_
  refine lv_acmp_ne (rx := (some h0)) (ry := (some ge5)) (tgt := 7) hx hb dJ0_equals_9ea2d_2 (by decide) (fun _ => ?_) (fun c9 => (fun e9 => absurd (hD.2 0 _ rfl) (by rw [show h0 = ge5 from e9]; obtain ⟨_, _, _, _, n9⟩ := g_o5; exact n9)) (Option.some.inj c9))
  refine lv_aload_n hx hb dJ0_equals_9ea2d_7 rfl (lv_at hl 1 rfl) ?_
  refine va_instE hx hb hown (hts (.classLink RJ0 10 RJ0) (by decide +kernel)) (by obtain ⟨cell, k1, k2, k3, -⟩ := g_o5.kept hS.2.1; exact ⟨cell, k1, k2, k3⟩) dJ0_equals_9ea2d_8 ?_
  refine lv_if_eq (tgt := 54) hx hb dJ0_equals_9ea2d_11 (by decide) (fun c9 => absurd c9 (by decide)) (fun _ => ?_)
  refine lv_aload_n hx hb dJ0_equals_9ea2d_14 rfl (lv_at hl 1 rfl) ?_
  refine va_castE hx hb hown (hts (.classLink RJ0 10 RJ0) (by decide +kernel)) (by obtain ⟨cell, k1, k2, k3, -⟩ := g_o5.kept hS.2.1; exact ⟨cell, k1, k2, k3⟩) dJ0_equals_9ea2d_15 ?_
  refine lv_astore_n (lv' := [(2, .ref ge5), (0, .ref h0), (1, .ref ge5)]) hx hb dJ0_equals_9ea2d_18 rfl hl (by decide) rfl (fun ls hl => ?_)
  refine va_gets (v := .int 1) hx hb g_zc hS hown (hts (.fieldLink RJ0 38 "java/lang/String" "COMPACT_STRINGS" "Z") (by decide +kernel)) (fun _ h9 => h9) dJ0_equals_9ea2d_19 ?_
  refine lv_if_eq (tgt := 36) hx hb dJ0_equals_9ea2d_22 (by decide) (fun c9 => absurd c9 (by decide)) (fun _ => ?_)
  refine lv_aload_n hx hb dJ0_equals_9ea2d_25 rfl (lv_at hl 1 rfl) ?_
  refine va_get (D := (dC, dI)) (ci := 0) (v := .int 0) (C := RJ0) (T := TJ0) (N := 4) hx hb hts (by decide +kernel) hown hK hP 0 rfl rfl 1 (by decide) (hts (.fieldLink RJ0 15 "java/lang/String" "coder" "B") (by decide +kernel)) (fun _ h9 => h9) rfl dJ0_equals_9ea2d_26 ?_
  refine lv_aload_n hx hb dJ0_equals_9ea2d_29 rfl (lv_at hl 0 rfl) ?_
  refine vk_getf (v := .int 0) hx hb g_c5 hS hown (hts (.fieldLink RJ0 15 "java/lang/String" "coder" "B") (by decide +kernel)) (fun _ h9 => h9) dJ0_equals_9ea2d_30 ?_
  refine lv_icmp_ne (tgt := 54) hx hb dJ0_equals_9ea2d_33 (by decide) (fun c9 => absurd (by decide) c9) (fun _ => ?_)
  refine lv_aload_n hx hb dJ0_equals_9ea2d_36 rfl (lv_at hl 1 rfl) ?_
  refine va_get (D := (dC, dI)) (ci := 0) (v := .ref h1) (C := RJ0) (T := TJ0) (N := 4) hx hb hts (by decide +kernel) hown hK hP 0 rfl rfl 0 (by decide) (hts (.fieldLink RJ0 9 "java/lang/String" "value" "[B") (by decide +kernel)) (fun _ h9 => h9) rfl dJ0_equals_9ea2d_37 ?_
  refine lv_aload_n hx hb dJ0_equals_9ea2d_40 rfl (lv_at hl 0 rfl) ?_
  refine vk_getf (v := .ref gv5) hx hb g_v5 hS hown (hts (.fieldLink RJ0 9 "java/lang/String" "value" "[B") (by decide +kernel)) (fun _ h9 => h9) dJ0_equals_9ea2d_41 ?_
  have hPc := hP.sub (ws' := [(h1, .inl (k0, 0, .inl (fun _ => 0)))]) [1] rfl
  have hDc := hD.sub (ws' := [(h1, .inl (k0, 0, .inl (fun _ => 0)))]) [1] (by decide) rfl
  have hKc := hK.sub (tys' := [(k0, .byte)]) [0] rfl
  have hFc := va_free (wc := [(h1, .inl (k0, 0, .inl (fun _ => 0)))]) hD hS hA [1] rfl
  refine va_calli (va_runS (As := [.ref h1, .ref gv5]) (rest := []) ⟨hx, hb, hml, hown, hts⟩ (kx_J1_equals_b5fdf_0 l dC dI ge5 gea gv5 gva gde gic gi0 h1 k0 s.heap.size) (va_cwS 2 hts gJ0_equals_9ea2d_J1_equals_b5fdf rfl rfl rfl (by decide +kernel) ⟨Nat.le_of_ble_eq_true rfl, Nat.le_of_ble_eq_true rfl⟩) ⟨fun a U g mk q => by obtain ⟨q0, q1, qP, qK, qD, qG⟩ := q; exact ⟨q0, q1, qP, va_K.moved (u := U) (U := U.calling g mk a) (Vm.Alike.refl U.vm) qK, qD, gv.fb qG⟩, fun U hU hW => ⟨rfl, by rw [hU], by rw [hU]; exact hPc, va_K.moved hW.alike hKc, hDc.weaken (fun _ _ _ _ => trivial), gv.pass hW hU hS hFc hG⟩⟩ rfl rfl hl.1 rfl (lv_room (Nat.le_of_ble_eq_true rfl)) dJ0_equals_9ea2d_44 ⟨Nat.le_of_ble_eq_true rfl, Nat.le_of_ble_eq_true rfl⟩) hS (fun q _ h => hFc q h) hFc (fun r9 u t H1 locs ht hvm hw hB hz1 hk1 hS => ?_)
  obtain rfl := hw
  obtain ⟨hP1, hK1, hD1⟩ := hB
  rw [ht] at hP1
  have hK1 := va_K.moved hvm.symm hK1
  obtain ⟨hP, hD⟩ := va_join (wr := [(h0, .inr (0, [.ref h1, .int 0, .int 0, .int 0]))]) (w1 := [(h1, .inl (k0, 0, .inl (fun _ => 0)))]) hP hD [1] [0] rfl rfl (by decide) (by decide) hk1 hFc hP1 hD1
  generalize H1 = H at hP hS ⊢
  have hP : va_P (dC, dI) vwCl [(h0, .inr (0, [.ref h1, .int 0, .int 0, .int 0])), (h1, .inl (k0, 0, .inl (fun _ => 0)))] H := hP
  have hD : va_D A [(h0, .inr (0, [.ref h1, .int 0, .int 0, .int 0])), (h1, .inl (k0, 0, .inl (fun _ => 0)))] := hD
  refine lv_if_eq (tgt := 54) hx hb dJ0_equals_9ea2d_47 (by decide) (fun c9 => absurd c9 (by decide)) (fun _ => ?_)
  refine lv_iconst (v := 1) hx hb dJ0_equals_9ea2d_50 (by decide) ?_
  refine lv_goto (tgt := 55) hx hb dJ0_equals_9ea2d_51 (by decide) ?_
  exact W.zret (v := 1) hx hb hr (by decide) (fun t ht hW => ⟨⟨1, (), rfl, rfl, by rw [ht]; exact hP, va_K.moved hW.alike hK, hD⟩, hS.F ht⟩) hS.2.2 dJ0_equals_9ea2d_55
set_option maxHeartbeats 4000000 in
set_option maxRecDepth 100000 in
theorem kx_X3_text_4 (l : Launch) (hst : l.stackTraces = false) (dC : Nat → ClassId) (dI : Nat → Nat → Nat) (ge5 gea gv5 gva gde gic gi0 : Nat) (h0 : Nat) (z0 : Nat) (z1 : Nat) (z2 : Nat) (z3 : Nat) (z4 : Nat) (z5 : Nat) (sz : Nat) (i0 : Int32) (i0_l : ((-2147483648) : Int) ≤ i0.toInt) (i0_u : i0.toInt ≤ ((-1) : Int)) : vx_Met l yX3_text wsX3_text ({ frames := 7, cells := 1, slots := 6, locals := 140 }) (va_Pc [.ref h0, .int i0] (fun U => U.heap.size = sz ∧ va_P (dC, dI) vwCl [(h0, .inr (7, [.ref z0, .ref z1, .ref z2, .ref z3, .ref z4, .ref z5, .int 0, .int 0, .int 0]))] U.heap ∧ va_K (dC, dI) vwCl [] U ∧ va_D (fun _ => True) [(h0, .inr (7, [.ref z0, .ref z1, .ref z2, .ref z3, .ref z4, .ref z5, .int 0, .int 0, .int 0]))] ∧ gv ge5 gea gv5 gva gde gic gi0 (va_A [(h0, .inr (7, [.ref z0, .ref z1, .ref z2, .ref z3, .ref z4, .ref z5, .int 0, .int 0, .int 0]))] sz) U U.heap)) (va_Qr (fun _ : Unit => False) (fun _ _ _ => True) (va_A [(h0, .inr (7, [.ref z0, .ref z1, .ref z2, .ref z3, .ref z4, .ref z5, .int 0, .int 0, .int 0]))] sz)) (vx_X (fun _ : Unit => True) (fun (E : String) (_ : Unit) (t : State) => E = "java/lang/IndexOutOfBoundsException" ∧ va_P (dC, dI) vwCl [(h0, .inr (7, [.ref z0, .ref z1, .ref z2, .ref z3, .ref z4, .ref z5, .int 0, .int 0, .int 0]))] t.heap ∧ va_K (dC, dI) vwCl [] t ∧ va_D (va_A [(h0, .inr (7, [.ref z0, .ref z1, .ref z2, .ref z3, .ref z4, .ref z5, .int 0, .int 0, .int 0]))] sz) [(h0, .inr (7, [.ref z0, .ref z1, .ref z2, .ref z3, .ref z4, .ref z5, .int 0, .int 0, .int 0]))]) (va_A [(h0, .inr (7, [.ref z0, .ref z1, .ref z2, .ref z3, .ref z4, .ref z5, .int 0, .int 0, .int 0]))] sz)) 1 6 (va_A [(h0, .inr (7, [.ref z0, .ref z1, .ref z2, .ref z3, .ref z4, .ref z5, .int 0, .int 0, .int 0]))] sz) := by
  refine vx_ofW (cc := cX3_text) (maxL := 2) (ret := (some (.object "java/lang/String"))) (by decide) rfl ?_
  intro p e s m args below meth c s₁ B hml ht9 hv
  obtain ⟨rfl, hsz, hP, hK, hD0, hG⟩ := hv
  have hx := B.exec
  have hb := B.bytes
  have hr := B.returns
  have hts := atoms_spec (ws := wsX3_text) B.pre
  have hown : s.vm.findClass RX3 = some m.cls := findClass_of_methodNamed B.named
  have hlocks := B.notSynchronized
  subst hsz
  have hD := hD0.self (sz := s.heap.size)
  generalize hAe : va_A [(h0, .inr (7, [.ref z0, .ref z1, .ref z2, .ref z3, .ref z4, .ref z5, .int 0, .int 0, .int 0]))] s.heap.size = A at hD hG ⊢
  obtain ⟨⟨g_AO_Text, g_AO_String, g_AO_Object, g_nm_RX1_20, g_nm_RX0_17, g_nm_RX3_31, g_nm_RX2_44, g_nm_RL_121, g_nf_RL_13, g_nf_RL_47, g_ca_IO, g_ca_IA, g_ca_IS, g_ca_IntObj, g_ca_StrObj, g_de_RT, g_de_EX, g_de_TH, g_nc_IA_IO, g_nc_IS_IO, g_nc_IS_IA⟩, ⟨g_s3, g_s5, g_sa, g_x278, g_x280, g_x282, g_x284, g_x286, g_x180, g_x238, g_x250⟩, ⟨g_o5, g_c5, g_v5, g_t5, g_oa, g_ca, g_va, g_ta, g_zc, g_zd, g_td, g_zf, g_zU, g_zN, g_zh, g_zk, g_tk, g_oi, g_vi⟩⟩ := id hG
  have hA : ∀ q : Nat, s.heap.size ≤ q → A q := fun q h => by rw [← hAe]; exact Or.inr h
  have hS : va_S A s.heap s.heap [] := va_S.rf
  have hP : va_P (dC, dI) vwCl [(h0, .inr (7, [.ref z0, .ref z1, .ref z2, .ref z3, .ref z4, .ref z5, .int 0, .int 0, .int 0]))] s.heap := hP
  have hl := lv_entry ([.ref h0, .int i0]) (n := 2) (Nat.le_of_ble_eq_true rfl)
  rw [lg_entry_eq]
  generalize (lg_sl ([.ref h0, .int i0]) ++ List.replicate (2 - (lg_sl ([.ref h0, .int i0])).length) Slot.unset).toArray = ls at hl ⊢
  have hl : lv_has ls 2 [(0, .ref h0), (1, .int i0)] := hl
  refine lv_iload_n hx hb dX3_text_0 rfl (lv_at hl 1 rfl) ?_
  have hPc := hP.sub (ws' := []) [] rfl
  have hDc := hD.sub (ws' := []) [] (by decide) rfl
  have hKc := hK.sub (tys' := []) [] rfl
  have hFc := va_free (wc := []) hD hS hA [] rfl
  refine vx_callv (vx_runS (As := [.int i0]) (rest := []) ⟨hx, hb, hml, hown, hts⟩ (kx_X3_needRope_5 l hst dC dI ge5 gea gv5 gva gde gic gi0 s.heap.size i0 i0_l i0_u) (cwS 1 hts gX3_text_X3_needRope rfl rfl rfl (by decide +kernel) ⟨Nat.le_of_ble_eq_true rfl, Nat.le_of_ble_eq_true rfl⟩) ⟨fun a U g mk q => by obtain ⟨q0, q1, qP, qK, qD, qG⟩ := q; exact ⟨q0, q1, qP, va_K.moved (u := U) (U := U.calling g mk a) (Vm.Alike.refl U.vm) qK, qD, gv.fb qG⟩, fun U hU hW => ⟨rfl, by rw [hU], by rw [hU]; exact hPc, va_K.moved hW.alike hKc, hDc.weaken (fun _ _ _ _ => trivial), gv.pass hW hU hS hFc hG⟩⟩ rfl rfl hl.1 rfl (lv_room (Nat.le_of_ble_eq_true rfl)) dX3_text_1 ⟨Nat.le_of_ble_eq_true rfl, Nat.le_of_ble_eq_true rfl⟩) hS (fun q _ h => hFc q h) hFc (fun q _ h => hFc q h) (fun E ce q9 u t H1 locs ht hvm hpx hB hz1 hk1 hS hce hcv hcl => ?_) (fun u t H1 locs ht hvm hw hB hz1 hk1 hS => hw.elim)
  obtain ⟨rfl, hP1, hK1, hD1⟩ := hB
  rw [ht] at hP1
  have hK1 := va_K.moved hvm.symm hK1
  obtain ⟨hP, hD⟩ := va_join (wr := [(h0, .inr (7, [.ref z0, .ref z1, .ref z2, .ref z3, .ref z4, .ref z5, .int 0, .int 0, .int 0]))]) (w1 := []) hP hD [] [0] rfl rfl (by decide) (by decide) hk1 hFc hP1 hD1
  generalize H1 = H at hP hS hce ⊢
  have hP : va_P (dC, dI) vwCl [(h0, .inr (7, [.ref z0, .ref z1, .ref z2, .ref z3, .ref z4, .ref z5, .int 0, .int 0, .int 0]))] H := hP
  have hD : va_D A [(h0, .inr (7, [.ref z0, .ref z1, .ref z2, .ref z3, .ref z4, .ref z5, .int 0, .int 0, .int 0]))] := hD
  exact vx_out (fun x hx9 => (ht9 x hx9).elim) hlocks hce hcv hcl (fun t ht hW => ⟨(), trivial, ⟨rfl, by rw [ht]; exact hP, va_K.moved hW hK, hD⟩, hS.F ht⟩) hS.2.2 (by omega) (by omega)
set_option maxHeartbeats 4000000 in
set_option maxRecDepth 100000 in
theorem kx_L_text_1 (l : Launch) (hst : l.stackTraces = false) (dC : Nat → ClassId) (dI : Nat → Nat → Nat) (ge5 gea gv5 gva gde gic gi0 : Nat) (h0 : Nat) (z0 : Nat) (z1 : Nat) (z2 : Nat) (z3 : Nat) (z4 : Nat) (z5 : Nat) (z6 : Nat) (sz : Nat) (i0 : Int32) (i0_l : ((-2147483648) : Int) ≤ i0.toInt) (i0_u : i0.toInt ≤ ((-1) : Int)) : Met l yL_text wsL_text ({ frames := 8, cells := 1, slots := 6, locals := 161 }) (va_Pc [.ref h0, .int i0, .ref z0] (fun U => U.heap.size = sz ∧ va_P (dC, dI) vwCl [(h0, .inr (7, [.ref z1, .ref z2, .ref z3, .ref z4, .ref z5, .ref z6, .int 0, .int 0, .int 0]))] U.heap ∧ va_K (dC, dI) vwCl [] U ∧ va_D (fun _ => True) [(h0, .inr (7, [.ref z1, .ref z2, .ref z3, .ref z4, .ref z5, .ref z6, .int 0, .int 0, .int 0]))] ∧ gv ge5 gea gv5 gva gde gic gi0 (va_A [(h0, .inr (7, [.ref z1, .ref z2, .ref z3, .ref z4, .ref z5, .ref z6, .int 0, .int 0, .int 0]))] sz) U U.heap)) (va_Qi (fun (r : Int32) (_ : Unit) => r = 1) (fun (_ : Unit) (t : State) => va_P (dC, dI) vwCl [(h0, .inr (7, [.ref z1, .ref z2, .ref z3, .ref z4, .ref z5, .ref z6, .int 0, .int 0, .int 0]))] t.heap ∧ va_K (dC, dI) vwCl [] t ∧ va_D (va_A [(h0, .inr (7, [.ref z1, .ref z2, .ref z3, .ref z4, .ref z5, .ref z6, .int 0, .int 0, .int 0]))] sz) [(h0, .inr (7, [.ref z1, .ref z2, .ref z3, .ref z4, .ref z5, .ref z6, .int 0, .int 0, .int 0]))]) (va_A [(h0, .inr (7, [.ref z1, .ref z2, .ref z3, .ref z4, .ref z5, .ref z6, .int 0, .int 0, .int 0]))] sz)) 1 6 (va_A [(h0, .inr (7, [.ref z1, .ref z2, .ref z3, .ref z4, .ref z5, .ref z6, .int 0, .int 0, .int 0]))] sz) := by
  refine kz_ofWH (cc := cL_text) (maxL := 4) (ret := (some .int)) (hh := [(0, 9, 12, 19)]) (by decide) rfl ?_
  intro p e s m args below meth c s₁ B hml hv
  obtain ⟨rfl, hsz, hP, hK, hD0, hG⟩ := hv
  have hx := B.exec
  have hb := B.bytes
  have hr := B.returns
  have hts := atoms_spec (ws := wsL_text) B.pre
  have hown : s.vm.findClass RL = some m.cls := findClass_of_methodNamed B.named
  have htab := vx_table (x := yL_text) B (hts (.codeWith yL_text cL_text 4 (some .int) [(0, 9, 12, 19)]) (by decide +kernel))
  have hlocks := B.notSynchronized
  subst hsz
  have hD := hD0.self (sz := s.heap.size)
  generalize hAe : va_A [(h0, .inr (7, [.ref z1, .ref z2, .ref z3, .ref z4, .ref z5, .ref z6, .int 0, .int 0, .int 0]))] s.heap.size = A at hD hG ⊢
  obtain ⟨⟨g_AO_Text, g_AO_String, g_AO_Object, g_nm_RX1_20, g_nm_RX0_17, g_nm_RX3_31, g_nm_RX2_44, g_nm_RL_121, g_nf_RL_13, g_nf_RL_47, g_ca_IO, g_ca_IA, g_ca_IS, g_ca_IntObj, g_ca_StrObj, g_de_RT, g_de_EX, g_de_TH, g_nc_IA_IO, g_nc_IS_IO, g_nc_IS_IA⟩, ⟨g_s3, g_s5, g_sa, g_x278, g_x280, g_x282, g_x284, g_x286, g_x180, g_x238, g_x250⟩, ⟨g_o5, g_c5, g_v5, g_t5, g_oa, g_ca, g_va, g_ta, g_zc, g_zd, g_td, g_zf, g_zU, g_zN, g_zh, g_zk, g_tk, g_oi, g_vi⟩⟩ := id hG
  have hA : ∀ q : Nat, s.heap.size ≤ q → A q := fun q h => by rw [← hAe]; exact Or.inr h
  have hS : va_S A s.heap s.heap [] := va_S.rf
  have hP : va_P (dC, dI) vwCl [(h0, .inr (7, [.ref z1, .ref z2, .ref z3, .ref z4, .ref z5, .ref z6, .int 0, .int 0, .int 0]))] s.heap := hP
  have hl := lv_entry ([.ref h0, .int i0, .ref z0]) (n := 4) (Nat.le_of_ble_eq_true rfl)
  rw [lg_entry_eq]
  generalize (lg_sl ([.ref h0, .int i0, .ref z0]) ++ List.replicate (4 - (lg_sl ([.ref h0, .int i0, .ref z0])).length) Slot.unset).toArray = ls at hl ⊢
  have hl : lv_has ls 4 [(0, .ref h0), (1, .int i0), (2, .ref z0)] := hl
  refine lv_aload_n hx hb dL_text_0 rfl (lv_at hl 2 rfl) ?_
  refine lv_aload_n hx hb dL_text_1 rfl (lv_at hl 0 rfl) ?_
  refine lv_iload_n hx hb dL_text_2 rfl (lv_at hl 1 rfl) ?_
  have hPc := hP.sub (ws' := [(h0, .inr (7, [.ref z1, .ref z2, .ref z3, .ref z4, .ref z5, .ref z6, .int 0, .int 0, .int 0]))]) [0] rfl
  have hDc := hD.sub (ws' := [(h0, .inr (7, [.ref z1, .ref z2, .ref z3, .ref z4, .ref z5, .ref z6, .int 0, .int 0, .int 0]))]) [0] (by decide) rfl
  have hKc := hK.sub (tys' := []) [] rfl
  have hFc := va_free (wc := [(h0, .inr (7, [.ref z1, .ref z2, .ref z3, .ref z4, .ref z5, .ref z6, .int 0, .int 0, .int 0]))]) hD hS hA [0] rfl
  refine vx_callr (vx_runV (As := [.int i0]) (rest := [.ref z0]) ⟨hx, hb, hml, hown, hts⟩ (kx_X3_text_4 l hst dC dI ge5 gea gv5 gva gde gic gi0 h0 z1 z2 z3 z4 z5 z6 s.heap.size i0 i0_l i0_u) (cwV 1 hts gL_text_X3_text rfl rfl rfl (by decide +kernel) ⟨Nat.le_of_ble_eq_true rfl, Nat.le_of_ble_eq_true rfl⟩) ⟨fun a U g mk q => by obtain ⟨q0, q1, qP, qK, qD, qG⟩ := q; exact ⟨q0, q1, qP, va_K.moved (u := U) (U := U.calling g mk a) (Vm.Alike.refl U.vm) qK, qD, gv.fb qG⟩, va_recv hKc hPc (ci := 7) (q0 := 0) rfl rfl, fun U hU hW => ⟨rfl, by rw [hU], by rw [hU]; exact hPc, va_K.moved hW.alike hKc, hDc.weaken (fun _ _ _ _ => trivial), gv.pass hW hU hS hFc hG⟩⟩ rfl rfl hl.1 rfl (lv_room (Nat.le_of_ble_eq_true rfl)) dL_text_3 ⟨Nat.le_of_ble_eq_true rfl, Nat.le_of_ble_eq_true rfl⟩) hS (fun q _ h => hFc q h) hFc (fun q _ h => hFc q h) (fun E ce q9 u t H1 locs ht hvm hpx hB hz1 hk1 hS hce hcv hcl => ?_) (fun u ra t H1 locs ht hvm hw hB hz1 hk1 hS => hw.elim)
  obtain ⟨rfl, hP1, hK1, hD1⟩ := hB
  rw [ht] at hP1
  have hK1 := va_K.moved hvm.symm hK1
  obtain ⟨hP, hD⟩ := va_join (wr := []) (w1 := [(h0, .inr (7, [.ref z1, .ref z2, .ref z3, .ref z4, .ref z5, .ref z6, .int 0, .int 0, .int 0]))]) hP hD [0] [] rfl rfl (by decide) (by decide) hk1 hFc hP1 hD1
  generalize H1 = H at hP hS hce ⊢
  have hP : va_P (dC, dI) vwCl [(h0, .inr (7, [.ref z1, .ref z2, .ref z3, .ref z4, .ref z5, .ref z6, .int 0, .int 0, .int 0]))] H := hP
  have hD : va_D A [(h0, .inr (7, [.ref z1, .ref z2, .ref z3, .ref z4, .ref z5, .ref z6, .int 0, .int 0, .int 0]))] := hD
  refine vx_catch (own := RL) (name := "java/lang/IndexOutOfBoundsException") hown (tableOf []) ⟨0, 9, 12, 19⟩ (tableOf []) (by rw [htab]; rfl) (fun z hz => nomatch hz) (by decide +kernel) (by decide) (hts (.classLink RL 19 "java/lang/IndexOutOfBoundsException") (by decide +kernel)) (va_Nw.use rfl g_ca_IO) hce hcv hcl ?_
  refine W.eq (g2 := F0 m 12 ls [.ref q9]) rfl ?_
  refine lv_astore_n (lv' := [(3, .ref q9), (0, .ref h0), (1, .int i0), (2, .ref z0)]) hx hb dL_text_12 rfl hl (by decide) rfl (fun ls hl => ?_)
  refine lv_iconst (v := 1) hx hb dL_text_13 (by decide) ?_
  exact W.iret (v := 1) hx hb hr (fun t ht hW => ⟨⟨1, (), rfl, rfl, by rw [ht]; exact hP, va_K.moved hW.alike hK, hD⟩, hS.F ht⟩) hS.2.2 dL_text_14
set_option maxHeartbeats 4000000 in
set_option maxRecDepth 100000 in
theorem kx_X5_text_1 (l : Launch) (dC : Nat → ClassId) (dI : Nat → Nat → Nat) (ge5 gea gv5 gva gde gic gi0 : Nat) (h0 : Nat) (z0 : Nat) (z1 : Nat) (z2 : Nat) (sz : Nat) (i0 : Int32) (i0_l : ((-2147483648) : Int) ≤ i0.toInt) (i0_u : i0.toInt ≤ ((-1) : Int)) : Met l yX5_text wsX5_text ({ frames := 2, cells := 0, slots := 0, locals := 42 }) (va_Pc [.ref h0, .int i0] (fun U => U.heap.size = sz ∧ va_P (dC, dI) vwCl [(h0, .inr (9, [.int 0, .ref z0, .ref z1, .ref z2, .int 0, .int 0, .int 0]))] U.heap ∧ va_K (dC, dI) vwCl [] U ∧ va_D (fun _ => True) [(h0, .inr (9, [.int 0, .ref z0, .ref z1, .ref z2, .int 0, .int 0, .int 0]))] ∧ gv ge5 gea gv5 gva gde gic gi0 (va_A [(h0, .inr (9, [.int 0, .ref z0, .ref z1, .ref z2, .int 0, .int 0, .int 0]))] sz) U U.heap)) (va_Qr (fun _ : Unit => True) (fun (_ : Unit) (ra : Nat) (t : State) => ra = ge5 ∧ va_P (dC, dI) vwCl [(h0, .inr (9, [.int 1, .ref z0, .ref z1, .ref z2, .int 0, .int 0, .int 0]))] t.heap ∧ va_K (dC, dI) vwCl [] t ∧ va_D (va_A [(h0, .inr (9, [.int 0, .ref z0, .ref z1, .ref z2, .int 0, .int 0, .int 0]))] sz) [(h0, .inr (9, [.int 1, .ref z0, .ref z1, .ref z2, .int 0, .int 0, .int 0]))]) (va_A [(h0, .inr (9, [.int 0, .ref z0, .ref z1, .ref z2, .int 0, .int 0, .int 0]))] sz)) 0 0 (va_A [(h0, .inr (9, [.int 0, .ref z0, .ref z1, .ref z2, .int 0, .int 0, .int 0]))] sz) := by
  refine Met.ofW (cc := cX5_text) (maxL := 2) (ret := (some (.object "java/lang/String"))) (by decide) rfl ?_
  intro p e s m args below meth c s₁ B hml hv
  obtain ⟨rfl, hsz, hP, hK, hD0, hG⟩ := hv
  have hx := B.exec
  have hb := B.bytes
  have hr := B.returns
  have hts := atoms_spec (ws := wsX5_text) B.pre
  have hown : s.vm.findClass RX5 = some m.cls := findClass_of_methodNamed B.named
  have hlocks := B.notSynchronized
  subst hsz
  have hD := hD0.self (sz := s.heap.size)
  generalize hAe : va_A [(h0, .inr (9, [.int 0, .ref z0, .ref z1, .ref z2, .int 0, .int 0, .int 0]))] s.heap.size = A at hD hG ⊢
  obtain ⟨⟨g_AO_Text, g_AO_String, g_AO_Object, g_nm_RX1_20, g_nm_RX0_17, g_nm_RX3_31, g_nm_RX2_44, g_nm_RL_121, g_nf_RL_13, g_nf_RL_47, g_ca_IO, g_ca_IA, g_ca_IS, g_ca_IntObj, g_ca_StrObj, g_de_RT, g_de_EX, g_de_TH, g_nc_IA_IO, g_nc_IS_IO, g_nc_IS_IA⟩, ⟨g_s3, g_s5, g_sa, g_x278, g_x280, g_x282, g_x284, g_x286, g_x180, g_x238, g_x250⟩, ⟨g_o5, g_c5, g_v5, g_t5, g_oa, g_ca, g_va, g_ta, g_zc, g_zd, g_td, g_zf, g_zU, g_zN, g_zh, g_zk, g_tk, g_oi, g_vi⟩⟩ := id hG
  have hA : ∀ q : Nat, s.heap.size ≤ q → A q := fun q h => by rw [← hAe]; exact Or.inr h
  have hS : va_S A s.heap s.heap [] := va_S.rf
  have hP : va_P (dC, dI) vwCl [(h0, .inr (9, [.int 0, .ref z0, .ref z1, .ref z2, .int 0, .int 0, .int 0]))] s.heap := hP
  have hl := lv_entry ([.ref h0, .int i0]) (n := 2) (Nat.le_of_ble_eq_true rfl)
  rw [lg_entry_eq]
  generalize (lg_sl ([.ref h0, .int i0]) ++ List.replicate (2 - (lg_sl ([.ref h0, .int i0])).length) Slot.unset).toArray = ls at hl ⊢
  have hl : lv_has ls 2 [(0, .ref h0), (1, .int i0)] := hl
  refine lv_aload_n hx hb dX5_text_0 rfl (lv_at hl 0 rfl) ?_
  refine lv_iload_n hx hb dX5_text_1 rfl (lv_at hl 1 rfl) ?_
  have hPc := hP.sub (ws' := []) [] rfl
  have hDc := hD.sub (ws' := []) [] (by decide) rfl
  have hKc := hK.sub (tys' := []) [] rfl
  have hFc := va_free (wc := []) hD hS hA [] rfl
  refine va_calli (va_runS (As := [.int i0]) (rest := [.ref h0]) ⟨hx, hb, hml, hown, hts⟩ (kx_X5_isNo_0 l dC dI s.heap.size i0 i0_l i0_u) (cwS 1 hts gX5_text_X5_isNo rfl rfl rfl (by decide +kernel) ⟨Nat.le_of_ble_eq_true rfl, Nat.le_of_ble_eq_true rfl⟩) ⟨fun a U g mk q => by obtain ⟨q0, q1, qP, qK, qD⟩ := q; exact ⟨q0, q1, qP, va_K.moved (u := U) (U := U.calling g mk a) (Vm.Alike.refl U.vm) qK, qD⟩, fun U hU hW => ⟨rfl, by rw [hU], by rw [hU]; exact hPc, va_K.moved hW.alike hKc, hDc.weaken (fun _ _ _ _ => trivial)⟩⟩ rfl rfl hl.1 rfl (lv_room (Nat.le_of_ble_eq_true rfl)) dX5_text_2 ⟨Nat.le_of_ble_eq_true rfl, Nat.le_of_ble_eq_true rfl⟩) hS (fun q _ h => hFc q h) hFc (fun r9 u t H1 locs ht hvm hw hB hz1 hk1 hS => ?_)
  obtain rfl := hw
  obtain ⟨hP1, hK1, hD1⟩ := hB
  rw [ht] at hP1
  have hK1 := va_K.moved hvm.symm hK1
  obtain ⟨hP, hD⟩ := va_join (wr := [(h0, .inr (9, [.int 0, .ref z0, .ref z1, .ref z2, .int 0, .int 0, .int 0]))]) (w1 := []) hP hD [] [0] rfl rfl (by decide) (by decide) hk1 hFc hP1 hD1
  generalize H1 = H at hP hS ⊢
  have hP : va_P (dC, dI) vwCl [(h0, .inr (9, [.int 0, .ref z0, .ref z1, .ref z2, .int 0, .int 0, .int 0]))] H := hP
  have hD : va_D A [(h0, .inr (9, [.int 0, .ref z0, .ref z1, .ref z2, .int 0, .int 0, .int 0]))] := hD
  refine lv_iconst (v := 0) hx hb dX5_text_5 (by decide) ?_
  refine lv_iconst (v := 0) hx hb dX5_text_6 (by decide) ?_
  have hPc := hP.sub (ws' := [(h0, .inr (9, [.int 0, .ref z0, .ref z1, .ref z2, .int 0, .int 0, .int 0]))]) [0] rfl
  have hDc := hD.sub (ws' := [(h0, .inr (9, [.int 0, .ref z0, .ref z1, .ref z2, .int 0, .int 0, .int 0]))]) [0] (by decide) rfl
  have hKc := hK.sub (tys' := []) [] rfl
  have hFc := va_free (wc := [(h0, .inr (9, [.int 0, .ref z0, .ref z1, .ref z2, .int 0, .int 0, .int 0]))]) hD hS hA [0] rfl
  refine va_calli (va_runV (As := [.int 1, .int 0, .int 0]) (rest := []) ⟨hx, hb, hml, hown, hts⟩ (kx_X5_fails_0 l dC dI h0 z0 z1 z2 H.size) (cwV 3 hts gX5_text_X5_fails rfl rfl rfl (by decide +kernel) ⟨Nat.le_of_ble_eq_true rfl, Nat.le_of_ble_eq_true rfl⟩) ⟨fun a U g mk q => by obtain ⟨q0, q1, qP, qK, qD⟩ := q; exact ⟨q0, q1, qP, va_K.moved (u := U) (U := U.calling g mk a) (Vm.Alike.refl U.vm) qK, qD⟩, va_recv hKc hPc (ci := 9) (q0 := 0) rfl rfl, fun U hU hW => ⟨rfl, by rw [hU], by rw [hU]; exact hPc, va_K.moved hW.alike hKc, hDc.weaken (fun _ _ _ _ => trivial)⟩⟩ rfl rfl hl.1 rfl (lv_room (Nat.le_of_ble_eq_true rfl)) dX5_text_7 ⟨Nat.le_of_ble_eq_true rfl, Nat.le_of_ble_eq_true rfl⟩) hS (fun q _ h => hFc q h) hFc (fun r9 u t H1 locs ht hvm hw hB hz1 hk1 hS => ?_)
  obtain rfl := hw
  obtain ⟨hP1, hK1, hD1⟩ := hB
  rw [ht] at hP1
  have hK1 := va_K.moved hvm.symm hK1
  obtain ⟨hP, hD⟩ := va_join (wr := []) (w1 := [(h0, .inr (9, [.int 1, .ref z0, .ref z1, .ref z2, .int 0, .int 0, .int 0]))]) hP hD [0] [] rfl rfl (by decide) (by decide) hk1 hFc hP1 hD1
  generalize H1 = H at hP hS ⊢
  have hP : va_P (dC, dI) vwCl [(h0, .inr (9, [.int 1, .ref z0, .ref z1, .ref z2, .int 0, .int 0, .int 0]))] H := hP
  have hD : va_D A [(h0, .inr (9, [.int 1, .ref z0, .ref z1, .ref z2, .int 0, .int 0, .int 0]))] := hD
  refine lv_if_eq (tgt := 18) hx hb dX5_text_10 (by decide) (fun c9 => absurd c9 (by decide)) (fun _ => ?_)
  refine va_ldcS hx hb hown g_s5 dX5_text_13 ?_
  refine lv_goto (tgt := 24) hx hb dX5_text_15 (by decide) ?_
  exact W.aret (v := .ref ge5) hx hb hr (Or.inl ⟨_, rfl⟩) (Or.inr ⟨_, rfl⟩) (fun t ht hW => ⟨⟨(), ge5, rfl, trivial, rfl, by rw [ht]; exact hP, va_K.moved hW.alike hK, hD⟩, hS.F ht⟩) hS.2.2 dX5_text_24
set_option maxHeartbeats 4000000 in
set_option maxRecDepth 100000 in
theorem kx_X3_text_5 (l : Launch) (hst : l.stackTraces = false) (dC : Nat → ClassId) (dI : Nat → Nat → Nat) (ge5 gea gv5 gva gde gic gi0 : Nat) (h0 : Nat) (z0 : Nat) (z1 : Nat) (z2 : Nat) (z3 : Nat) (z4 : Nat) (z5 : Nat) (sz : Nat) (i0 : Int32) (i0_l : (4 : Int) ≤ i0.toInt) (i0_u : i0.toInt ≤ (2147483647 : Int)) : vx_Met l yX3_text wsX3_text ({ frames := 7, cells := 1, slots := 6, locals := 140 }) (va_Pc [.ref h0, .int i0] (fun U => U.heap.size = sz ∧ va_P (dC, dI) vwCl [(h0, .inr (7, [.ref z0, .ref z1, .ref z2, .ref z3, .ref z4, .ref z5, .int 0, .int 0, .int 0]))] U.heap ∧ va_K (dC, dI) vwCl [] U ∧ va_D (fun _ => True) [(h0, .inr (7, [.ref z0, .ref z1, .ref z2, .ref z3, .ref z4, .ref z5, .int 0, .int 0, .int 0]))] ∧ gv ge5 gea gv5 gva gde gic gi0 (va_A [(h0, .inr (7, [.ref z0, .ref z1, .ref z2, .ref z3, .ref z4, .ref z5, .int 0, .int 0, .int 0]))] sz) U U.heap)) (va_Qr (fun _ : Unit => False) (fun _ _ _ => True) (va_A [(h0, .inr (7, [.ref z0, .ref z1, .ref z2, .ref z3, .ref z4, .ref z5, .int 0, .int 0, .int 0]))] sz)) (vx_X (fun _ : Unit => True) (fun (E : String) (_ : Unit) (t : State) => E = "java/lang/IndexOutOfBoundsException" ∧ va_P (dC, dI) vwCl [(h0, .inr (7, [.ref z0, .ref z1, .ref z2, .ref z3, .ref z4, .ref z5, .int 0, .int 0, .int 0]))] t.heap ∧ va_K (dC, dI) vwCl [] t ∧ va_D (va_A [(h0, .inr (7, [.ref z0, .ref z1, .ref z2, .ref z3, .ref z4, .ref z5, .int 0, .int 0, .int 0]))] sz) [(h0, .inr (7, [.ref z0, .ref z1, .ref z2, .ref z3, .ref z4, .ref z5, .int 0, .int 0, .int 0]))]) (va_A [(h0, .inr (7, [.ref z0, .ref z1, .ref z2, .ref z3, .ref z4, .ref z5, .int 0, .int 0, .int 0]))] sz)) 1 6 (va_A [(h0, .inr (7, [.ref z0, .ref z1, .ref z2, .ref z3, .ref z4, .ref z5, .int 0, .int 0, .int 0]))] sz) := by
  refine vx_ofW (cc := cX3_text) (maxL := 2) (ret := (some (.object "java/lang/String"))) (by decide) rfl ?_
  intro p e s m args below meth c s₁ B hml ht9 hv
  obtain ⟨rfl, hsz, hP, hK, hD0, hG⟩ := hv
  have hx := B.exec
  have hb := B.bytes
  have hr := B.returns
  have hts := atoms_spec (ws := wsX3_text) B.pre
  have hown : s.vm.findClass RX3 = some m.cls := findClass_of_methodNamed B.named
  have hlocks := B.notSynchronized
  subst hsz
  have hD := hD0.self (sz := s.heap.size)
  generalize hAe : va_A [(h0, .inr (7, [.ref z0, .ref z1, .ref z2, .ref z3, .ref z4, .ref z5, .int 0, .int 0, .int 0]))] s.heap.size = A at hD hG ⊢
  obtain ⟨⟨g_AO_Text, g_AO_String, g_AO_Object, g_nm_RX1_20, g_nm_RX0_17, g_nm_RX3_31, g_nm_RX2_44, g_nm_RL_121, g_nf_RL_13, g_nf_RL_47, g_ca_IO, g_ca_IA, g_ca_IS, g_ca_IntObj, g_ca_StrObj, g_de_RT, g_de_EX, g_de_TH, g_nc_IA_IO, g_nc_IS_IO, g_nc_IS_IA⟩, ⟨g_s3, g_s5, g_sa, g_x278, g_x280, g_x282, g_x284, g_x286, g_x180, g_x238, g_x250⟩, ⟨g_o5, g_c5, g_v5, g_t5, g_oa, g_ca, g_va, g_ta, g_zc, g_zd, g_td, g_zf, g_zU, g_zN, g_zh, g_zk, g_tk, g_oi, g_vi⟩⟩ := id hG
  have hA : ∀ q : Nat, s.heap.size ≤ q → A q := fun q h => by rw [← hAe]; exact Or.inr h
  have hS : va_S A s.heap s.heap [] := va_S.rf
  have hP : va_P (dC, dI) vwCl [(h0, .inr (7, [.ref z0, .ref z1, .ref z2, .ref z3, .ref z4, .ref z5, .int 0, .int 0, .int 0]))] s.heap := hP
  have hl := lv_entry ([.ref h0, .int i0]) (n := 2) (Nat.le_of_ble_eq_true rfl)
  rw [lg_entry_eq]
  generalize (lg_sl ([.ref h0, .int i0]) ++ List.replicate (2 - (lg_sl ([.ref h0, .int i0])).length) Slot.unset).toArray = ls at hl ⊢
  have hl : lv_has ls 2 [(0, .ref h0), (1, .int i0)] := hl
  refine lv_iload_n hx hb dX3_text_0 rfl (lv_at hl 1 rfl) ?_
  have hPc := hP.sub (ws' := []) [] rfl
  have hDc := hD.sub (ws' := []) [] (by decide) rfl
  have hKc := hK.sub (tys' := []) [] rfl
  have hFc := va_free (wc := []) hD hS hA [] rfl
  refine vx_callv (vx_runS (As := [.int i0]) (rest := []) ⟨hx, hb, hml, hown, hts⟩ (kx_X3_needRope_6 l hst dC dI ge5 gea gv5 gva gde gic gi0 s.heap.size i0 i0_l i0_u) (cwS 1 hts gX3_text_X3_needRope rfl rfl rfl (by decide +kernel) ⟨Nat.le_of_ble_eq_true rfl, Nat.le_of_ble_eq_true rfl⟩) ⟨fun a U g mk q => by obtain ⟨q0, q1, qP, qK, qD, qG⟩ := q; exact ⟨q0, q1, qP, va_K.moved (u := U) (U := U.calling g mk a) (Vm.Alike.refl U.vm) qK, qD, gv.fb qG⟩, fun U hU hW => ⟨rfl, by rw [hU], by rw [hU]; exact hPc, va_K.moved hW.alike hKc, hDc.weaken (fun _ _ _ _ => trivial), gv.pass hW hU hS hFc hG⟩⟩ rfl rfl hl.1 rfl (lv_room (Nat.le_of_ble_eq_true rfl)) dX3_text_1 ⟨Nat.le_of_ble_eq_true rfl, Nat.le_of_ble_eq_true rfl⟩) hS (fun q _ h => hFc q h) hFc (fun q _ h => hFc q h) (fun E ce q9 u t H1 locs ht hvm hpx hB hz1 hk1 hS hce hcv hcl => ?_) (fun u t H1 locs ht hvm hw hB hz1 hk1 hS => hw.elim)
  obtain ⟨rfl, hP1, hK1, hD1⟩ := hB
  rw [ht] at hP1
  have hK1 := va_K.moved hvm.symm hK1
  obtain ⟨hP, hD⟩ := va_join (wr := [(h0, .inr (7, [.ref z0, .ref z1, .ref z2, .ref z3, .ref z4, .ref z5, .int 0, .int 0, .int 0]))]) (w1 := []) hP hD [] [0] rfl rfl (by decide) (by decide) hk1 hFc hP1 hD1
  generalize H1 = H at hP hS hce ⊢
  have hP : va_P (dC, dI) vwCl [(h0, .inr (7, [.ref z0, .ref z1, .ref z2, .ref z3, .ref z4, .ref z5, .int 0, .int 0, .int 0]))] H := hP
  have hD : va_D A [(h0, .inr (7, [.ref z0, .ref z1, .ref z2, .ref z3, .ref z4, .ref z5, .int 0, .int 0, .int 0]))] := hD
  exact vx_out (fun x hx9 => (ht9 x hx9).elim) hlocks hce hcv hcl (fun t ht hW => ⟨(), trivial, ⟨rfl, by rw [ht]; exact hP, va_K.moved hW hK, hD⟩, hS.F ht⟩) hS.2.2 (by omega) (by omega)
set_option maxHeartbeats 4000000 in
set_option maxRecDepth 100000 in
theorem kx_L_text_2 (l : Launch) (hst : l.stackTraces = false) (dC : Nat → ClassId) (dI : Nat → Nat → Nat) (ge5 gea gv5 gva gde gic gi0 : Nat) (h0 : Nat) (z0 : Nat) (z1 : Nat) (z2 : Nat) (z3 : Nat) (z4 : Nat) (z5 : Nat) (z6 : Nat) (sz : Nat) (i0 : Int32) (i0_l : (4 : Int) ≤ i0.toInt) (i0_u : i0.toInt ≤ (2147483647 : Int)) : Met l yL_text wsL_text ({ frames := 8, cells := 1, slots := 6, locals := 161 }) (va_Pc [.ref h0, .int i0, .ref z0] (fun U => U.heap.size = sz ∧ va_P (dC, dI) vwCl [(h0, .inr (7, [.ref z1, .ref z2, .ref z3, .ref z4, .ref z5, .ref z6, .int 0, .int 0, .int 0]))] U.heap ∧ va_K (dC, dI) vwCl [] U ∧ va_D (fun _ => True) [(h0, .inr (7, [.ref z1, .ref z2, .ref z3, .ref z4, .ref z5, .ref z6, .int 0, .int 0, .int 0]))] ∧ gv ge5 gea gv5 gva gde gic gi0 (va_A [(h0, .inr (7, [.ref z1, .ref z2, .ref z3, .ref z4, .ref z5, .ref z6, .int 0, .int 0, .int 0]))] sz) U U.heap)) (va_Qi (fun (r : Int32) (_ : Unit) => r = 1) (fun (_ : Unit) (t : State) => va_P (dC, dI) vwCl [(h0, .inr (7, [.ref z1, .ref z2, .ref z3, .ref z4, .ref z5, .ref z6, .int 0, .int 0, .int 0]))] t.heap ∧ va_K (dC, dI) vwCl [] t ∧ va_D (va_A [(h0, .inr (7, [.ref z1, .ref z2, .ref z3, .ref z4, .ref z5, .ref z6, .int 0, .int 0, .int 0]))] sz) [(h0, .inr (7, [.ref z1, .ref z2, .ref z3, .ref z4, .ref z5, .ref z6, .int 0, .int 0, .int 0]))]) (va_A [(h0, .inr (7, [.ref z1, .ref z2, .ref z3, .ref z4, .ref z5, .ref z6, .int 0, .int 0, .int 0]))] sz)) 1 6 (va_A [(h0, .inr (7, [.ref z1, .ref z2, .ref z3, .ref z4, .ref z5, .ref z6, .int 0, .int 0, .int 0]))] sz) := by
  refine kz_ofWH (cc := cL_text) (maxL := 4) (ret := (some .int)) (hh := [(0, 9, 12, 19)]) (by decide) rfl ?_
  intro p e s m args below meth c s₁ B hml hv
  obtain ⟨rfl, hsz, hP, hK, hD0, hG⟩ := hv
  have hx := B.exec
  have hb := B.bytes
  have hr := B.returns
  have hts := atoms_spec (ws := wsL_text) B.pre
  have hown : s.vm.findClass RL = some m.cls := findClass_of_methodNamed B.named
  have htab := vx_table (x := yL_text) B (hts (.codeWith yL_text cL_text 4 (some .int) [(0, 9, 12, 19)]) (by decide +kernel))
  have hlocks := B.notSynchronized
  subst hsz
  have hD := hD0.self (sz := s.heap.size)
  generalize hAe : va_A [(h0, .inr (7, [.ref z1, .ref z2, .ref z3, .ref z4, .ref z5, .ref z6, .int 0, .int 0, .int 0]))] s.heap.size = A at hD hG ⊢
  obtain ⟨⟨g_AO_Text, g_AO_String, g_AO_Object, g_nm_RX1_20, g_nm_RX0_17, g_nm_RX3_31, g_nm_RX2_44, g_nm_RL_121, g_nf_RL_13, g_nf_RL_47, g_ca_IO, g_ca_IA, g_ca_IS, g_ca_IntObj, g_ca_StrObj, g_de_RT, g_de_EX, g_de_TH, g_nc_IA_IO, g_nc_IS_IO, g_nc_IS_IA⟩, ⟨g_s3, g_s5, g_sa, g_x278, g_x280, g_x282, g_x284, g_x286, g_x180, g_x238, g_x250⟩, ⟨g_o5, g_c5, g_v5, g_t5, g_oa, g_ca, g_va, g_ta, g_zc, g_zd, g_td, g_zf, g_zU, g_zN, g_zh, g_zk, g_tk, g_oi, g_vi⟩⟩ := id hG
  have hA : ∀ q : Nat, s.heap.size ≤ q → A q := fun q h => by rw [← hAe]; exact Or.inr h
  have hS : va_S A s.heap s.heap [] := va_S.rf
  have hP : va_P (dC, dI) vwCl [(h0, .inr (7, [.ref z1, .ref z2, .ref z3, .ref z4, .ref z5, .ref z6, .int 0, .int 0, .int 0]))] s.heap := hP
  have hl := lv_entry ([.ref h0, .int i0, .ref z0]) (n := 4) (Nat.le_of_ble_eq_true rfl)
  rw [lg_entry_eq]
  generalize (lg_sl ([.ref h0, .int i0, .ref z0]) ++ List.replicate (4 - (lg_sl ([.ref h0, .int i0, .ref z0])).length) Slot.unset).toArray = ls at hl ⊢
  have hl : lv_has ls 4 [(0, .ref h0), (1, .int i0), (2, .ref z0)] := hl
  refine lv_aload_n hx hb dL_text_0 rfl (lv_at hl 2 rfl) ?_
  refine lv_aload_n hx hb dL_text_1 rfl (lv_at hl 0 rfl) ?_
  refine lv_iload_n hx hb dL_text_2 rfl (lv_at hl 1 rfl) ?_
  have hPc := hP.sub (ws' := [(h0, .inr (7, [.ref z1, .ref z2, .ref z3, .ref z4, .ref z5, .ref z6, .int 0, .int 0, .int 0]))]) [0] rfl
  have hDc := hD.sub (ws' := [(h0, .inr (7, [.ref z1, .ref z2, .ref z3, .ref z4, .ref z5, .ref z6, .int 0, .int 0, .int 0]))]) [0] (by decide) rfl
  have hKc := hK.sub (tys' := []) [] rfl
  have hFc := va_free (wc := [(h0, .inr (7, [.ref z1, .ref z2, .ref z3, .ref z4, .ref z5, .ref z6, .int 0, .int 0, .int 0]))]) hD hS hA [0] rfl
  refine vx_callr (vx_runV (As := [.int i0]) (rest := [.ref z0]) ⟨hx, hb, hml, hown, hts⟩ (kx_X3_text_5 l hst dC dI ge5 gea gv5 gva gde gic gi0 h0 z1 z2 z3 z4 z5 z6 s.heap.size i0 i0_l i0_u) (cwV 1 hts gL_text_X3_text rfl rfl rfl (by decide +kernel) ⟨Nat.le_of_ble_eq_true rfl, Nat.le_of_ble_eq_true rfl⟩) ⟨fun a U g mk q => by obtain ⟨q0, q1, qP, qK, qD, qG⟩ := q; exact ⟨q0, q1, qP, va_K.moved (u := U) (U := U.calling g mk a) (Vm.Alike.refl U.vm) qK, qD, gv.fb qG⟩, va_recv hKc hPc (ci := 7) (q0 := 0) rfl rfl, fun U hU hW => ⟨rfl, by rw [hU], by rw [hU]; exact hPc, va_K.moved hW.alike hKc, hDc.weaken (fun _ _ _ _ => trivial), gv.pass hW hU hS hFc hG⟩⟩ rfl rfl hl.1 rfl (lv_room (Nat.le_of_ble_eq_true rfl)) dL_text_3 ⟨Nat.le_of_ble_eq_true rfl, Nat.le_of_ble_eq_true rfl⟩) hS (fun q _ h => hFc q h) hFc (fun q _ h => hFc q h) (fun E ce q9 u t H1 locs ht hvm hpx hB hz1 hk1 hS hce hcv hcl => ?_) (fun u ra t H1 locs ht hvm hw hB hz1 hk1 hS => hw.elim)
  obtain ⟨rfl, hP1, hK1, hD1⟩ := hB
  rw [ht] at hP1
  have hK1 := va_K.moved hvm.symm hK1
  obtain ⟨hP, hD⟩ := va_join (wr := []) (w1 := [(h0, .inr (7, [.ref z1, .ref z2, .ref z3, .ref z4, .ref z5, .ref z6, .int 0, .int 0, .int 0]))]) hP hD [0] [] rfl rfl (by decide) (by decide) hk1 hFc hP1 hD1
  generalize H1 = H at hP hS hce ⊢
  have hP : va_P (dC, dI) vwCl [(h0, .inr (7, [.ref z1, .ref z2, .ref z3, .ref z4, .ref z5, .ref z6, .int 0, .int 0, .int 0]))] H := hP
  have hD : va_D A [(h0, .inr (7, [.ref z1, .ref z2, .ref z3, .ref z4, .ref z5, .ref z6, .int 0, .int 0, .int 0]))] := hD
  refine vx_catch (own := RL) (name := "java/lang/IndexOutOfBoundsException") hown (tableOf []) ⟨0, 9, 12, 19⟩ (tableOf []) (by rw [htab]; rfl) (fun z hz => nomatch hz) (by decide +kernel) (by decide) (hts (.classLink RL 19 "java/lang/IndexOutOfBoundsException") (by decide +kernel)) (va_Nw.use rfl g_ca_IO) hce hcv hcl ?_
  refine W.eq (g2 := F0 m 12 ls [.ref q9]) rfl ?_
  refine lv_astore_n (lv' := [(3, .ref q9), (0, .ref h0), (1, .int i0), (2, .ref z0)]) hx hb dL_text_12 rfl hl (by decide) rfl (fun ls hl => ?_)
  refine lv_iconst (v := 1) hx hb dL_text_13 (by decide) ?_
  exact W.iret (v := 1) hx hb hr (fun t ht hW => ⟨⟨1, (), rfl, rfl, by rw [ht]; exact hP, va_K.moved hW.alike hK, hD⟩, hS.F ht⟩) hS.2.2 dL_text_14
set_option maxHeartbeats 4000000 in
set_option maxRecDepth 100000 in
theorem kx_X5_text_2 (l : Launch) (dC : Nat → ClassId) (dI : Nat → Nat → Nat) (ge5 gea gv5 gva gde gic gi0 : Nat) (h0 : Nat) (z0 : Nat) (z1 : Nat) (z2 : Nat) (sz : Nat) (i0 : Int32) (i0_l : (4 : Int) ≤ i0.toInt) (i0_u : i0.toInt ≤ (2147483647 : Int)) : Met l yX5_text wsX5_text ({ frames := 2, cells := 0, slots := 0, locals := 42 }) (va_Pc [.ref h0, .int i0] (fun U => U.heap.size = sz ∧ va_P (dC, dI) vwCl [(h0, .inr (9, [.int 0, .ref z0, .ref z1, .ref z2, .int 0, .int 0, .int 0]))] U.heap ∧ va_K (dC, dI) vwCl [] U ∧ va_D (fun _ => True) [(h0, .inr (9, [.int 0, .ref z0, .ref z1, .ref z2, .int 0, .int 0, .int 0]))] ∧ gv ge5 gea gv5 gva gde gic gi0 (va_A [(h0, .inr (9, [.int 0, .ref z0, .ref z1, .ref z2, .int 0, .int 0, .int 0]))] sz) U U.heap)) (va_Qr (fun _ : Unit => True) (fun (_ : Unit) (ra : Nat) (t : State) => ra = ge5 ∧ va_P (dC, dI) vwCl [(h0, .inr (9, [.int 1, .ref z0, .ref z1, .ref z2, .int 0, .int 0, .int 0]))] t.heap ∧ va_K (dC, dI) vwCl [] t ∧ va_D (va_A [(h0, .inr (9, [.int 0, .ref z0, .ref z1, .ref z2, .int 0, .int 0, .int 0]))] sz) [(h0, .inr (9, [.int 1, .ref z0, .ref z1, .ref z2, .int 0, .int 0, .int 0]))]) (va_A [(h0, .inr (9, [.int 0, .ref z0, .ref z1, .ref z2, .int 0, .int 0, .int 0]))] sz)) 0 0 (va_A [(h0, .inr (9, [.int 0, .ref z0, .ref z1, .ref z2, .int 0, .int 0, .int 0]))] sz) := by
  refine Met.ofW (cc := cX5_text) (maxL := 2) (ret := (some (.object "java/lang/String"))) (by decide) rfl ?_
  intro p e s m args below meth c s₁ B hml hv
  obtain ⟨rfl, hsz, hP, hK, hD0, hG⟩ := hv
  have hx := B.exec
  have hb := B.bytes
  have hr := B.returns
  have hts := atoms_spec (ws := wsX5_text) B.pre
  have hown : s.vm.findClass RX5 = some m.cls := findClass_of_methodNamed B.named
  have hlocks := B.notSynchronized
  subst hsz
  have hD := hD0.self (sz := s.heap.size)
  generalize hAe : va_A [(h0, .inr (9, [.int 0, .ref z0, .ref z1, .ref z2, .int 0, .int 0, .int 0]))] s.heap.size = A at hD hG ⊢
  obtain ⟨⟨g_AO_Text, g_AO_String, g_AO_Object, g_nm_RX1_20, g_nm_RX0_17, g_nm_RX3_31, g_nm_RX2_44, g_nm_RL_121, g_nf_RL_13, g_nf_RL_47, g_ca_IO, g_ca_IA, g_ca_IS, g_ca_IntObj, g_ca_StrObj, g_de_RT, g_de_EX, g_de_TH, g_nc_IA_IO, g_nc_IS_IO, g_nc_IS_IA⟩, ⟨g_s3, g_s5, g_sa, g_x278, g_x280, g_x282, g_x284, g_x286, g_x180, g_x238, g_x250⟩, ⟨g_o5, g_c5, g_v5, g_t5, g_oa, g_ca, g_va, g_ta, g_zc, g_zd, g_td, g_zf, g_zU, g_zN, g_zh, g_zk, g_tk, g_oi, g_vi⟩⟩ := id hG
  have hA : ∀ q : Nat, s.heap.size ≤ q → A q := fun q h => by rw [← hAe]; exact Or.inr h
  have hS : va_S A s.heap s.heap [] := va_S.rf
  have hP : va_P (dC, dI) vwCl [(h0, .inr (9, [.int 0, .ref z0, .ref z1, .ref z2, .int 0, .int 0, .int 0]))] s.heap := hP
  have hl := lv_entry ([.ref h0, .int i0]) (n := 2) (Nat.le_of_ble_eq_true rfl)
  rw [lg_entry_eq]
  generalize (lg_sl ([.ref h0, .int i0]) ++ List.replicate (2 - (lg_sl ([.ref h0, .int i0])).length) Slot.unset).toArray = ls at hl ⊢
  have hl : lv_has ls 2 [(0, .ref h0), (1, .int i0)] := hl
  refine lv_aload_n hx hb dX5_text_0 rfl (lv_at hl 0 rfl) ?_
  refine lv_iload_n hx hb dX5_text_1 rfl (lv_at hl 1 rfl) ?_
  have hPc := hP.sub (ws' := []) [] rfl
  have hDc := hD.sub (ws' := []) [] (by decide) rfl
  have hKc := hK.sub (tys' := []) [] rfl
  have hFc := va_free (wc := []) hD hS hA [] rfl
  refine va_calli (va_runS (As := [.int i0]) (rest := [.ref h0]) ⟨hx, hb, hml, hown, hts⟩ (kx_X5_isNo_2 l dC dI s.heap.size i0 i0_l i0_u) (cwS 1 hts gX5_text_X5_isNo rfl rfl rfl (by decide +kernel) ⟨Nat.le_of_ble_eq_true rfl, Nat.le_of_ble_eq_true rfl⟩) ⟨fun a U g mk q => by obtain ⟨q0, q1, qP, qK, qD⟩ := q; exact ⟨q0, q1, qP, va_K.moved (u := U) (U := U.calling g mk a) (Vm.Alike.refl U.vm) qK, qD⟩, fun U hU hW => ⟨rfl, by rw [hU], by rw [hU]; exact hPc, va_K.moved hW.alike hKc, hDc.weaken (fun _ _ _ _ => trivial)⟩⟩ rfl rfl hl.1 rfl (lv_room (Nat.le_of_ble_eq_true rfl)) dX5_text_2 ⟨Nat.le_of_ble_eq_true rfl, Nat.le_of_ble_eq_true rfl⟩) hS (fun q _ h => hFc q h) hFc (fun r9 u t H1 locs ht hvm hw hB hz1 hk1 hS => ?_)
  obtain rfl := hw
  obtain ⟨hP1, hK1, hD1⟩ := hB
  rw [ht] at hP1
  have hK1 := va_K.moved hvm.symm hK1
  obtain ⟨hP, hD⟩ := va_join (wr := [(h0, .inr (9, [.int 0, .ref z0, .ref z1, .ref z2, .int 0, .int 0, .int 0]))]) (w1 := []) hP hD [] [0] rfl rfl (by decide) (by decide) hk1 hFc hP1 hD1
  generalize H1 = H at hP hS ⊢
  have hP : va_P (dC, dI) vwCl [(h0, .inr (9, [.int 0, .ref z0, .ref z1, .ref z2, .int 0, .int 0, .int 0]))] H := hP
  have hD : va_D A [(h0, .inr (9, [.int 0, .ref z0, .ref z1, .ref z2, .int 0, .int 0, .int 0]))] := hD
  refine lv_iconst (v := 0) hx hb dX5_text_5 (by decide) ?_
  refine lv_iconst (v := 0) hx hb dX5_text_6 (by decide) ?_
  have hPc := hP.sub (ws' := [(h0, .inr (9, [.int 0, .ref z0, .ref z1, .ref z2, .int 0, .int 0, .int 0]))]) [0] rfl
  have hDc := hD.sub (ws' := [(h0, .inr (9, [.int 0, .ref z0, .ref z1, .ref z2, .int 0, .int 0, .int 0]))]) [0] (by decide) rfl
  have hKc := hK.sub (tys' := []) [] rfl
  have hFc := va_free (wc := [(h0, .inr (9, [.int 0, .ref z0, .ref z1, .ref z2, .int 0, .int 0, .int 0]))]) hD hS hA [0] rfl
  refine va_calli (va_runV (As := [.int 1, .int 0, .int 0]) (rest := []) ⟨hx, hb, hml, hown, hts⟩ (kx_X5_fails_0 l dC dI h0 z0 z1 z2 H.size) (cwV 3 hts gX5_text_X5_fails rfl rfl rfl (by decide +kernel) ⟨Nat.le_of_ble_eq_true rfl, Nat.le_of_ble_eq_true rfl⟩) ⟨fun a U g mk q => by obtain ⟨q0, q1, qP, qK, qD⟩ := q; exact ⟨q0, q1, qP, va_K.moved (u := U) (U := U.calling g mk a) (Vm.Alike.refl U.vm) qK, qD⟩, va_recv hKc hPc (ci := 9) (q0 := 0) rfl rfl, fun U hU hW => ⟨rfl, by rw [hU], by rw [hU]; exact hPc, va_K.moved hW.alike hKc, hDc.weaken (fun _ _ _ _ => trivial)⟩⟩ rfl rfl hl.1 rfl (lv_room (Nat.le_of_ble_eq_true rfl)) dX5_text_7 ⟨Nat.le_of_ble_eq_true rfl, Nat.le_of_ble_eq_true rfl⟩) hS (fun q _ h => hFc q h) hFc (fun r9 u t H1 locs ht hvm hw hB hz1 hk1 hS => ?_)
  obtain rfl := hw
  obtain ⟨hP1, hK1, hD1⟩ := hB
  rw [ht] at hP1
  have hK1 := va_K.moved hvm.symm hK1
  obtain ⟨hP, hD⟩ := va_join (wr := []) (w1 := [(h0, .inr (9, [.int 1, .ref z0, .ref z1, .ref z2, .int 0, .int 0, .int 0]))]) hP hD [0] [] rfl rfl (by decide) (by decide) hk1 hFc hP1 hD1
  generalize H1 = H at hP hS ⊢
  have hP : va_P (dC, dI) vwCl [(h0, .inr (9, [.int 1, .ref z0, .ref z1, .ref z2, .int 0, .int 0, .int 0]))] H := hP
  have hD : va_D A [(h0, .inr (9, [.int 1, .ref z0, .ref z1, .ref z2, .int 0, .int 0, .int 0]))] := hD
  refine lv_if_eq (tgt := 18) hx hb dX5_text_10 (by decide) (fun c9 => absurd c9 (by decide)) (fun _ => ?_)
  refine va_ldcS hx hb hown g_s5 dX5_text_13 ?_
  refine lv_goto (tgt := 24) hx hb dX5_text_15 (by decide) ?_
  exact W.aret (v := .ref ge5) hx hb hr (Or.inl ⟨_, rfl⟩) (Or.inr ⟨_, rfl⟩) (fun t ht hW => ⟨⟨(), ge5, rfl, trivial, rfl, by rw [ht]; exact hP, va_K.moved hW.alike hK, hD⟩, hS.F ht⟩) hS.2.2 dX5_text_24
set_option maxHeartbeats 4000000 in
set_option maxRecDepth 100000 in
theorem kx_X2_compareWith_0 (l : Launch) (dC : Nat → ClassId) (dI : Nat → Nat → Nat) (h0 : Nat) (z0 : Nat) (sz : Nat) : Met l yX2_compareWith wsX2_compareWith ({ frames := 0, cells := 0, slots := 0, locals := 0 }) (va_Pc [.ref h0, .ref h0] (fun U => U.heap.size = sz ∧ va_P (dC, dI) vwCl [(h0, .inr (6, [.ref z0, .int 0]))] U.heap ∧ va_K (dC, dI) vwCl [] U ∧ va_D (fun _ => True) [(h0, .inr (6, [.ref z0, .int 0]))])) (va_Qi (fun (r : Int32) (_ : Unit) => r = 0) (fun (_ : Unit) (t : State) => va_P (dC, dI) vwCl [(h0, .inr (6, [.ref z0, .int 0]))] t.heap ∧ va_K (dC, dI) vwCl [] t ∧ va_D (va_A [(h0, .inr (6, [.ref z0, .int 0]))] sz) [(h0, .inr (6, [.ref z0, .int 0]))]) (va_A [(h0, .inr (6, [.ref z0, .int 0]))] sz)) 0 0 (va_A [(h0, .inr (6, [.ref z0, .int 0]))] sz) := by
  refine Met.ofW (cc := cX2_compareWith) (maxL := 3) (ret := (some .int)) (by decide) rfl ?_
  intro p e s m args below meth c s₁ B hml hv
  obtain ⟨rfl, hsz, hP, hK, hD0⟩ := hv
  have hx := B.exec
  have hb := B.bytes
  have hr := B.returns
  have hts := atoms_spec (ws := wsX2_compareWith) B.pre
  have hown : s.vm.findClass RX2 = some m.cls := findClass_of_methodNamed B.named
  have hlocks := B.notSynchronized
  subst hsz
  have hD := hD0.self (sz := s.heap.size)
  generalize hAe : va_A [(h0, .inr (6, [.ref z0, .int 0]))] s.heap.size = A at hD ⊢
  have hA : ∀ q : Nat, s.heap.size ≤ q → A q := fun q h => by rw [← hAe]; exact Or.inr h
  have hS : va_S A s.heap s.heap [] := va_S.rf
  have hP : va_P (dC, dI) vwCl [(h0, .inr (6, [.ref z0, .int 0]))] s.heap := hP
  have hl := lv_entry ([.ref h0, .ref h0]) (n := 3) (Nat.le_of_ble_eq_true rfl)
  rw [lg_entry_eq]
  generalize (lg_sl ([.ref h0, .ref h0]) ++ List.replicate (3 - (lg_sl ([.ref h0, .ref h0])).length) Slot.unset).toArray = ls at hl ⊢
  have hl : lv_has ls 3 [(0, .ref h0), (1, .ref h0)] := hl
  refine lv_aload_n hx hb dX2_compareWith_0 rfl (lv_at hl 0 rfl) ?_
  refine va_get (D := (dC, dI)) (ci := 6) (v := .int 0) (C := RX2) (T := TX2) (N := 2) hx hb hts (by decide +kernel) hown hK hP 0 rfl rfl 1 (by decide) (hts (.fieldLink RX2 15 "Rewriterope$Text" "length" "I") (by decide +kernel)) (fun _ h9 => h9) rfl dX2_compareWith_1 ?_
  refine lv_aload_n hx hb dX2_compareWith_4 rfl (lv_at hl 1 rfl) ?_
  refine va_get (D := (dC, dI)) (ci := 6) (v := .int 0) (C := RX2) (T := TX2) (N := 2) hx hb hts (by decide +kernel) hown hK hP 0 rfl rfl 1 (by decide) (hts (.fieldLink RX2 15 "Rewriterope$Text" "length" "I") (by decide +kernel)) (fun _ h9 => h9) rfl dX2_compareWith_5 ?_
  refine lv_icmp_eq (tgt := 28) hx hb dX2_compareWith_8 (by decide) (fun _ => ?_) (fun c9 => absurd (by decide) c9)
  refine lv_iconst (v := 0) hx hb dX2_compareWith_28 (by decide) ?_
  refine lv_istore_n (lv' := [(2, .int 0), (0, .ref h0), (1, .ref h0)]) hx hb dX2_compareWith_29 rfl hl (by decide) rfl (fun ls hl => ?_)
  refine lv_iload_n hx hb dX2_compareWith_30 rfl (lv_at hl 0 rfl) ?_
  refine lv_aload_n hx hb dX2_compareWith_31 rfl (lv_at hl 1 rfl) ?_
  refine va_get (D := (dC, dI)) (ci := 6) (v := .int 0) (C := RX2) (T := TX2) (N := 2) hx hb hts (by decide +kernel) hown hK hP 0 rfl rfl 1 (by decide) (hts (.fieldLink RX2 15 "Rewriterope$Text" "length" "I") (by decide +kernel)) (fun _ h9 => h9) rfl dX2_compareWith_32 ?_
  refine lv_icmp_ge (tgt := 80) hx hb dX2_compareWith_35 (by decide) (fun _ => ?_) (fun c9 => absurd (by decide) c9)
  refine lv_iconst (v := 0) hx hb dX2_compareWith_80 (by decide) ?_
  exact W.iret (v := 0) hx hb hr (fun t ht hW => ⟨⟨0, (), rfl, rfl, by rw [ht]; exact hP, va_K.moved hW.alike hK, hD⟩, hS.F ht⟩) hS.2.2 dX2_compareWith_81
set_option maxHeartbeats 4000000 in
set_option maxRecDepth 100000 in
theorem kx_X2_compareWith_1 (l : Launch) (dC : Nat → ClassId) (dI : Nat → Nat → Nat) (h0 : Nat) (h1 : Nat) (z0 : Nat) (z1 : Nat) (sz : Nat) : Met l yX2_compareWith wsX2_compareWith ({ frames := 0, cells := 0, slots := 0, locals := 0 }) (va_Pc [.ref h0, .ref h1] (fun U => U.heap.size = sz ∧ va_P (dC, dI) vwCl [(h0, .inr (6, [.ref z0, .int 0])), (h1, .inr (6, [.ref z1, .int 0]))] U.heap ∧ va_K (dC, dI) vwCl [] U ∧ va_D (fun _ => True) [(h0, .inr (6, [.ref z0, .int 0])), (h1, .inr (6, [.ref z1, .int 0]))])) (va_Qi (fun (r : Int32) (_ : Unit) => r = 0) (fun (_ : Unit) (t : State) => va_P (dC, dI) vwCl [(h0, .inr (6, [.ref z0, .int 0])), (h1, .inr (6, [.ref z1, .int 0]))] t.heap ∧ va_K (dC, dI) vwCl [] t ∧ va_D (va_A [(h0, .inr (6, [.ref z0, .int 0])), (h1, .inr (6, [.ref z1, .int 0]))] sz) [(h0, .inr (6, [.ref z0, .int 0])), (h1, .inr (6, [.ref z1, .int 0]))]) (va_A [(h0, .inr (6, [.ref z0, .int 0])), (h1, .inr (6, [.ref z1, .int 0]))] sz)) 0 0 (va_A [(h0, .inr (6, [.ref z0, .int 0])), (h1, .inr (6, [.ref z1, .int 0]))] sz) := by
  refine Met.ofW (cc := cX2_compareWith) (maxL := 3) (ret := (some .int)) (by decide) rfl ?_
  intro p e s m args below meth c s₁ B hml hv
  obtain ⟨rfl, hsz, hP, hK, hD0⟩ := hv
  have hx := B.exec
  have hb := B.bytes
  have hr := B.returns
  have hts := atoms_spec (ws := wsX2_compareWith) B.pre
  have hown : s.vm.findClass RX2 = some m.cls := findClass_of_methodNamed B.named
  have hlocks := B.notSynchronized
  subst hsz
  have hD := hD0.self (sz := s.heap.size)
  generalize hAe : va_A [(h0, .inr (6, [.ref z0, .int 0])), (h1, .inr (6, [.ref z1, .int 0]))] s.heap.size = A at hD ⊢
  have hA : ∀ q : Nat, s.heap.size ≤ q → A q := fun q h => by rw [← hAe]; exact Or.inr h
  have hS : va_S A s.heap s.heap [] := va_S.rf
  have hP : va_P (dC, dI) vwCl [(h0, .inr (6, [.ref z0, .int 0])), (h1, .inr (6, [.ref z1, .int 0]))] s.heap := hP
  have hl := lv_entry ([.ref h0, .ref h1]) (n := 3) (Nat.le_of_ble_eq_true rfl)
  rw [lg_entry_eq]
  generalize (lg_sl ([.ref h0, .ref h1]) ++ List.replicate (3 - (lg_sl ([.ref h0, .ref h1])).length) Slot.unset).toArray = ls at hl ⊢
  have hl : lv_has ls 3 [(0, .ref h0), (1, .ref h1)] := hl
  refine lv_aload_n hx hb dX2_compareWith_0 rfl (lv_at hl 0 rfl) ?_
  refine va_get (D := (dC, dI)) (ci := 6) (v := .int 0) (C := RX2) (T := TX2) (N := 2) hx hb hts (by decide +kernel) hown hK hP 0 rfl rfl 1 (by decide) (hts (.fieldLink RX2 15 "Rewriterope$Text" "length" "I") (by decide +kernel)) (fun _ h9 => h9) rfl dX2_compareWith_1 ?_
  refine lv_aload_n hx hb dX2_compareWith_4 rfl (lv_at hl 1 rfl) ?_
  refine va_get (D := (dC, dI)) (ci := 6) (v := .int 0) (C := RX2) (T := TX2) (N := 2) hx hb hts (by decide +kernel) hown hK hP 1 rfl rfl 1 (by decide) (hts (.fieldLink RX2 15 "Rewriterope$Text" "length" "I") (by decide +kernel)) (fun _ h9 => h9) rfl dX2_compareWith_5 ?_
  refine lv_icmp_eq (tgt := 28) hx hb dX2_compareWith_8 (by decide) (fun _ => ?_) (fun c9 => absurd (by decide) c9)
  refine lv_iconst (v := 0) hx hb dX2_compareWith_28 (by decide) ?_
  refine lv_istore_n (lv' := [(2, .int 0), (0, .ref h0), (1, .ref h1)]) hx hb dX2_compareWith_29 rfl hl (by decide) rfl (fun ls hl => ?_)
  refine lv_iload_n hx hb dX2_compareWith_30 rfl (lv_at hl 0 rfl) ?_
  refine lv_aload_n hx hb dX2_compareWith_31 rfl (lv_at hl 1 rfl) ?_
  refine va_get (D := (dC, dI)) (ci := 6) (v := .int 0) (C := RX2) (T := TX2) (N := 2) hx hb hts (by decide +kernel) hown hK hP 0 rfl rfl 1 (by decide) (hts (.fieldLink RX2 15 "Rewriterope$Text" "length" "I") (by decide +kernel)) (fun _ h9 => h9) rfl dX2_compareWith_32 ?_
  refine lv_icmp_ge (tgt := 80) hx hb dX2_compareWith_35 (by decide) (fun _ => ?_) (fun c9 => absurd (by decide) c9)
  refine lv_iconst (v := 0) hx hb dX2_compareWith_80 (by decide) ?_
  exact W.iret (v := 0) hx hb hr (fun t ht hW => ⟨⟨0, (), rfl, rfl, by rw [ht]; exact hP, va_K.moved hW.alike hK, hD⟩, hS.F ht⟩) hS.2.2 dX2_compareWith_81
set_option maxHeartbeats 4000000 in
set_option maxRecDepth 100000 in
theorem kx_X2_compareWith_2 (l : Launch) (dC : Nat → ClassId) (dI : Nat → Nat → Nat) (h0 : Nat) (h1 : Nat) (z0 : Nat) (z1 : Nat) (sz : Nat) : Met l yX2_compareWith wsX2_compareWith ({ frames := 0, cells := 0, slots := 0, locals := 0 }) (va_Pc [.ref h1, .ref h0] (fun U => U.heap.size = sz ∧ va_P (dC, dI) vwCl [(h0, .inr (6, [.ref z0, .int 0])), (h1, .inr (6, [.ref z1, .int 0]))] U.heap ∧ va_K (dC, dI) vwCl [] U ∧ va_D (fun _ => True) [(h0, .inr (6, [.ref z0, .int 0])), (h1, .inr (6, [.ref z1, .int 0]))])) (va_Qi (fun (r : Int32) (_ : Unit) => r = 0) (fun (_ : Unit) (t : State) => va_P (dC, dI) vwCl [(h0, .inr (6, [.ref z0, .int 0])), (h1, .inr (6, [.ref z1, .int 0]))] t.heap ∧ va_K (dC, dI) vwCl [] t ∧ va_D (va_A [(h0, .inr (6, [.ref z0, .int 0])), (h1, .inr (6, [.ref z1, .int 0]))] sz) [(h0, .inr (6, [.ref z0, .int 0])), (h1, .inr (6, [.ref z1, .int 0]))]) (va_A [(h0, .inr (6, [.ref z0, .int 0])), (h1, .inr (6, [.ref z1, .int 0]))] sz)) 0 0 (va_A [(h0, .inr (6, [.ref z0, .int 0])), (h1, .inr (6, [.ref z1, .int 0]))] sz) := by
  refine Met.ofW (cc := cX2_compareWith) (maxL := 3) (ret := (some .int)) (by decide) rfl ?_
  intro p e s m args below meth c s₁ B hml hv
  obtain ⟨rfl, hsz, hP, hK, hD0⟩ := hv
  have hx := B.exec
  have hb := B.bytes
  have hr := B.returns
  have hts := atoms_spec (ws := wsX2_compareWith) B.pre
  have hown : s.vm.findClass RX2 = some m.cls := findClass_of_methodNamed B.named
  have hlocks := B.notSynchronized
  subst hsz
  have hD := hD0.self (sz := s.heap.size)
  generalize hAe : va_A [(h0, .inr (6, [.ref z0, .int 0])), (h1, .inr (6, [.ref z1, .int 0]))] s.heap.size = A at hD ⊢
  have hA : ∀ q : Nat, s.heap.size ≤ q → A q := fun q h => by rw [← hAe]; exact Or.inr h
  have hS : va_S A s.heap s.heap [] := va_S.rf
  have hP : va_P (dC, dI) vwCl [(h0, .inr (6, [.ref z0, .int 0])), (h1, .inr (6, [.ref z1, .int 0]))] s.heap := hP
  have hl := lv_entry ([.ref h1, .ref h0]) (n := 3) (Nat.le_of_ble_eq_true rfl)
  rw [lg_entry_eq]
  generalize (lg_sl ([.ref h1, .ref h0]) ++ List.replicate (3 - (lg_sl ([.ref h1, .ref h0])).length) Slot.unset).toArray = ls at hl ⊢
  have hl : lv_has ls 3 [(0, .ref h1), (1, .ref h0)] := hl
  refine lv_aload_n hx hb dX2_compareWith_0 rfl (lv_at hl 0 rfl) ?_
  refine va_get (D := (dC, dI)) (ci := 6) (v := .int 0) (C := RX2) (T := TX2) (N := 2) hx hb hts (by decide +kernel) hown hK hP 1 rfl rfl 1 (by decide) (hts (.fieldLink RX2 15 "Rewriterope$Text" "length" "I") (by decide +kernel)) (fun _ h9 => h9) rfl dX2_compareWith_1 ?_
  refine lv_aload_n hx hb dX2_compareWith_4 rfl (lv_at hl 1 rfl) ?_
  refine va_get (D := (dC, dI)) (ci := 6) (v := .int 0) (C := RX2) (T := TX2) (N := 2) hx hb hts (by decide +kernel) hown hK hP 0 rfl rfl 1 (by decide) (hts (.fieldLink RX2 15 "Rewriterope$Text" "length" "I") (by decide +kernel)) (fun _ h9 => h9) rfl dX2_compareWith_5 ?_
  refine lv_icmp_eq (tgt := 28) hx hb dX2_compareWith_8 (by decide) (fun _ => ?_) (fun c9 => absurd (by decide) c9)
  refine lv_iconst (v := 0) hx hb dX2_compareWith_28 (by decide) ?_
  refine lv_istore_n (lv' := [(2, .int 0), (0, .ref h1), (1, .ref h0)]) hx hb dX2_compareWith_29 rfl hl (by decide) rfl (fun ls hl => ?_)
  refine lv_iload_n hx hb dX2_compareWith_30 rfl (lv_at hl 0 rfl) ?_
  refine lv_aload_n hx hb dX2_compareWith_31 rfl (lv_at hl 1 rfl) ?_
  refine va_get (D := (dC, dI)) (ci := 6) (v := .int 0) (C := RX2) (T := TX2) (N := 2) hx hb hts (by decide +kernel) hown hK hP 1 rfl rfl 1 (by decide) (hts (.fieldLink RX2 15 "Rewriterope$Text" "length" "I") (by decide +kernel)) (fun _ h9 => h9) rfl dX2_compareWith_32 ?_
  refine lv_icmp_ge (tgt := 80) hx hb dX2_compareWith_35 (by decide) (fun _ => ?_) (fun c9 => absurd (by decide) c9)
  refine lv_iconst (v := 0) hx hb dX2_compareWith_80 (by decide) ?_
  exact W.iret (v := 0) hx hb hr (fun t ht hW => ⟨⟨0, (), rfl, rfl, by rw [ht]; exact hP, va_K.moved hW.alike hK, hD⟩, hS.F ht⟩) hS.2.2 dX2_compareWith_81
set_option maxHeartbeats 4000000 in
set_option maxRecDepth 100000 in
theorem kx_X3_order_0 (l : Launch) (dC : Nat → ClassId) (dI : Nat → Nat → Nat) (h0 : Nat) (h1 : Nat) (h2 : Nat) (h3 : Nat) (h4 : Nat) (h5 : Nat) (z0 : Nat) (z1 : Nat) (z2 : Nat) (z3 : Nat) (z4 : Nat) (z5 : Nat) (z6 : Nat) (z7 : Nat) (z8 : Nat) (k0 : ClassId) (sz : Nat) : Met l yX3_order wsX3_order ({ frames := 1, cells := 0, slots := 0, locals := 22 }) (va_Pc [.ref h0, .int 0, .int 0] (fun U => U.heap.size = sz ∧ va_P (dC, dI) vwCl [(h0, .inr (7, [.ref h1, .ref z0, .ref z1, .ref z2, .ref z3, .ref z4, .int 0, .int 0, .int 0])), (h1, .inl (k0, 4, .inr (.inr (.inr (.inr (va_up (va_up (va_up (va_up (fun _ => none) 0 (some h2)) 1 (some h3)) 2 (some h4)) 3 (some h5))))))), (h2, .inr (6, [.ref z5, .int 0])), (h3, .inr (6, [.ref z6, .int 0])), (h4, .inr (6, [.ref z7, .int 0])), (h5, .inr (6, [.ref z8, .int 0]))] U.heap ∧ va_K (dC, dI) vwCl [(k0, .object "Rewriterope$Text")] U ∧ va_D (fun _ => True) [(h0, .inr (7, [.ref h1, .ref z0, .ref z1, .ref z2, .ref z3, .ref z4, .int 0, .int 0, .int 0])), (h1, .inl (k0, 4, .inr (.inr (.inr (.inr (va_up (va_up (va_up (va_up (fun _ => none) 0 (some h2)) 1 (some h3)) 2 (some h4)) 3 (some h5))))))), (h2, .inr (6, [.ref z5, .int 0])), (h3, .inr (6, [.ref z6, .int 0])), (h4, .inr (6, [.ref z7, .int 0])), (h5, .inr (6, [.ref z8, .int 0]))])) (va_Qi (fun (r : Int32) (_ : Unit) => r = 0) (fun (_ : Unit) (t : State) => va_P (dC, dI) vwCl [(h0, .inr (7, [.ref h1, .ref z0, .ref z1, .ref z2, .ref z3, .ref z4, .int 0, .int 0, .int 0])), (h1, .inl (k0, 4, .inr (.inr (.inr (.inr (va_up (va_up (va_up (va_up (fun _ => none) 0 (some h2)) 1 (some h3)) 2 (some h4)) 3 (some h5))))))), (h2, .inr (6, [.ref z5, .int 0])), (h3, .inr (6, [.ref z6, .int 0])), (h4, .inr (6, [.ref z7, .int 0])), (h5, .inr (6, [.ref z8, .int 0]))] t.heap ∧ va_K (dC, dI) vwCl [(k0, .object "Rewriterope$Text")] t ∧ va_D (va_A [(h0, .inr (7, [.ref h1, .ref z0, .ref z1, .ref z2, .ref z3, .ref z4, .int 0, .int 0, .int 0])), (h1, .inl (k0, 4, .inr (.inr (.inr (.inr (va_up (va_up (va_up (va_up (fun _ => none) 0 (some h2)) 1 (some h3)) 2 (some h4)) 3 (some h5))))))), (h2, .inr (6, [.ref z5, .int 0])), (h3, .inr (6, [.ref z6, .int 0])), (h4, .inr (6, [.ref z7, .int 0])), (h5, .inr (6, [.ref z8, .int 0]))] sz) [(h0, .inr (7, [.ref h1, .ref z0, .ref z1, .ref z2, .ref z3, .ref z4, .int 0, .int 0, .int 0])), (h1, .inl (k0, 4, .inr (.inr (.inr (.inr (va_up (va_up (va_up (va_up (fun _ => none) 0 (some h2)) 1 (some h3)) 2 (some h4)) 3 (some h5))))))), (h2, .inr (6, [.ref z5, .int 0])), (h3, .inr (6, [.ref z6, .int 0])), (h4, .inr (6, [.ref z7, .int 0])), (h5, .inr (6, [.ref z8, .int 0]))]) (va_A [(h0, .inr (7, [.ref h1, .ref z0, .ref z1, .ref z2, .ref z3, .ref z4, .int 0, .int 0, .int 0])), (h1, .inl (k0, 4, .inr (.inr (.inr (.inr (va_up (va_up (va_up (va_up (fun _ => none) 0 (some h2)) 1 (some h3)) 2 (some h4)) 3 (some h5))))))), (h2, .inr (6, [.ref z5, .int 0])), (h3, .inr (6, [.ref z6, .int 0])), (h4, .inr (6, [.ref z7, .int 0])), (h5, .inr (6, [.ref z8, .int 0]))] sz)) 0 0 (va_A [(h0, .inr (7, [.ref h1, .ref z0, .ref z1, .ref z2, .ref z3, .ref z4, .int 0, .int 0, .int 0])), (h1, .inl (k0, 4, .inr (.inr (.inr (.inr (va_up (va_up (va_up (va_up (fun _ => none) 0 (some h2)) 1 (some h3)) 2 (some h4)) 3 (some h5))))))), (h2, .inr (6, [.ref z5, .int 0])), (h3, .inr (6, [.ref z6, .int 0])), (h4, .inr (6, [.ref z7, .int 0])), (h5, .inr (6, [.ref z8, .int 0]))] sz) := by
  refine Met.ofW (cc := cX3_order) (maxL := 3) (ret := (some .int)) (by decide) rfl ?_
  intro p e s m args below meth c s₁ B hml hv
  obtain ⟨rfl, hsz, hP, hK, hD0⟩ := hv
  have hx := B.exec
  have hb := B.bytes
  have hr := B.returns
  have hts := atoms_spec (ws := wsX3_order) B.pre
  have hown : s.vm.findClass RX3 = some m.cls := findClass_of_methodNamed B.named
  have hlocks := B.notSynchronized
  subst hsz
  have hD := hD0.self (sz := s.heap.size)
  generalize hAe : va_A [(h0, .inr (7, [.ref h1, .ref z0, .ref z1, .ref z2, .ref z3, .ref z4, .int 0, .int 0, .int 0])), (h1, .inl (k0, 4, .inr (.inr (.inr (.inr (va_up (va_up (va_up (va_up (fun _ => none) 0 (some h2)) 1 (some h3)) 2 (some h4)) 3 (some h5))))))), (h2, .inr (6, [.ref z5, .int 0])), (h3, .inr (6, [.ref z6, .int 0])), (h4, .inr (6, [.ref z7, .int 0])), (h5, .inr (6, [.ref z8, .int 0]))] s.heap.size = A at hD ⊢
  have hA : ∀ q : Nat, s.heap.size ≤ q → A q := fun q h => by rw [← hAe]; exact Or.inr h
  have hS : va_S A s.heap s.heap [] := va_S.rf
  have hP : va_P (dC, dI) vwCl [(h0, .inr (7, [.ref h1, .ref z0, .ref z1, .ref z2, .ref z3, .ref z4, .int 0, .int 0, .int 0])), (h1, .inl (k0, 4, .inr (.inr (.inr (.inr (va_up (va_up (va_up (va_up (fun _ => none) 0 (some h2)) 1 (some h3)) 2 (some h4)) 3 (some h5))))))), (h2, .inr (6, [.ref z5, .int 0])), (h3, .inr (6, [.ref z6, .int 0])), (h4, .inr (6, [.ref z7, .int 0])), (h5, .inr (6, [.ref z8, .int 0]))] s.heap := hP
  have hl := lv_entry ([.ref h0, .int 0, .int 0]) (n := 3) (Nat.le_of_ble_eq_true rfl)
  rw [lg_entry_eq]
  generalize (lg_sl ([.ref h0, .int 0, .int 0]) ++ List.replicate (3 - (lg_sl ([.ref h0, .int 0, .int 0])).length) Slot.unset).toArray = ls at hl ⊢
  have hl : lv_has ls 3 [(0, .ref h0), (1, .int 0), (2, .int 0)] := hl
  refine lv_iload_n hx hb dX3_order_0 rfl (lv_at hl 1 rfl) ?_
  have hPc := hP.sub (ws' := []) [] rfl
  have hDc := hD.sub (ws' := []) [] (by decide) rfl
  have hKc := hK.sub (tys' := []) [] rfl
  have hFc := va_free (wc := []) hD hS hA [] rfl
  refine va_callv (va_runS (As := [.int 0]) (rest := []) ⟨hx, hb, hml, hown, hts⟩ (kx_X3_needRope_0 l dC dI s.heap.size) (cwS 1 hts gX3_order_X3_needRope rfl rfl rfl (by decide +kernel) ⟨Nat.le_of_ble_eq_true rfl, Nat.le_of_ble_eq_true rfl⟩) ⟨fun a U g mk q => by obtain ⟨q0, q1, qP, qK, qD⟩ := q; exact ⟨q0, q1, qP, va_K.moved (u := U) (U := U.calling g mk a) (Vm.Alike.refl U.vm) qK, qD⟩, fun U hU hW => ⟨rfl, by rw [hU], by rw [hU]; exact hPc, va_K.moved hW.alike hKc, hDc.weaken (fun _ _ _ _ => trivial)⟩⟩ rfl rfl hl.1 rfl (lv_room (Nat.le_of_ble_eq_true rfl)) dX3_order_1 ⟨Nat.le_of_ble_eq_true rfl, Nat.le_of_ble_eq_true rfl⟩) hS (fun q _ h => hFc q h) hFc (fun u t H1 locs ht hvm hw hB hz1 hk1 hS => ?_)
  obtain ⟨hP1, hK1, hD1⟩ := hB
  rw [ht] at hP1
  have hK1 := va_K.moved hvm.symm hK1
  obtain ⟨hP, hD⟩ := va_join (wr := [(h0, .inr (7, [.ref h1, .ref z0, .ref z1, .ref z2, .ref z3, .ref z4, .int 0, .int 0, .int 0])), (h1, .inl (k0, 4, .inr (.inr (.inr (.inr (va_up (va_up (va_up (va_up (fun _ => none) 0 (some h2)) 1 (some h3)) 2 (some h4)) 3 (some h5))))))), (h2, .inr (6, [.ref z5, .int 0])), (h3, .inr (6, [.ref z6, .int 0])), (h4, .inr (6, [.ref z7, .int 0])), (h5, .inr (6, [.ref z8, .int 0]))]) (w1 := []) hP hD [] [0, 1, 2, 3, 4, 5] rfl rfl (by decide) (by decide) hk1 hFc hP1 hD1
  generalize H1 = H at hP hS ⊢
  have hP : va_P (dC, dI) vwCl [(h0, .inr (7, [.ref h1, .ref z0, .ref z1, .ref z2, .ref z3, .ref z4, .int 0, .int 0, .int 0])), (h1, .inl (k0, 4, .inr (.inr (.inr (.inr (va_up (va_up (va_up (va_up (fun _ => none) 0 (some h2)) 1 (some h3)) 2 (some h4)) 3 (some h5))))))), (h2, .inr (6, [.ref z5, .int 0])), (h3, .inr (6, [.ref z6, .int 0])), (h4, .inr (6, [.ref z7, .int 0])), (h5, .inr (6, [.ref z8, .int 0]))] H := hP
  have hD : va_D A [(h0, .inr (7, [.ref h1, .ref z0, .ref z1, .ref z2, .ref z3, .ref z4, .int 0, .int 0, .int 0])), (h1, .inl (k0, 4, .inr (.inr (.inr (.inr (va_up (va_up (va_up (va_up (fun _ => none) 0 (some h2)) 1 (some h3)) 2 (some h4)) 3 (some h5))))))), (h2, .inr (6, [.ref z5, .int 0])), (h3, .inr (6, [.ref z6, .int 0])), (h4, .inr (6, [.ref z7, .int 0])), (h5, .inr (6, [.ref z8, .int 0]))] := hD
  refine lv_iload_n hx hb dX3_order_4 rfl (lv_at hl 2 rfl) ?_
  have hPc := hP.sub (ws' := []) [] rfl
  have hDc := hD.sub (ws' := []) [] (by decide) rfl
  have hKc := hK.sub (tys' := []) [] rfl
  have hFc := va_free (wc := []) hD hS hA [] rfl
  refine va_callv (va_runS (As := [.int 0]) (rest := []) ⟨hx, hb, hml, hown, hts⟩ (kx_X3_needRope_0 l dC dI H.size) (cwS 1 hts gX3_order_X3_needRope rfl rfl rfl (by decide +kernel) ⟨Nat.le_of_ble_eq_true rfl, Nat.le_of_ble_eq_true rfl⟩) ⟨fun a U g mk q => by obtain ⟨q0, q1, qP, qK, qD⟩ := q; exact ⟨q0, q1, qP, va_K.moved (u := U) (U := U.calling g mk a) (Vm.Alike.refl U.vm) qK, qD⟩, fun U hU hW => ⟨rfl, by rw [hU], by rw [hU]; exact hPc, va_K.moved hW.alike hKc, hDc.weaken (fun _ _ _ _ => trivial)⟩⟩ rfl rfl hl.1 rfl (lv_room (Nat.le_of_ble_eq_true rfl)) dX3_order_5 ⟨Nat.le_of_ble_eq_true rfl, Nat.le_of_ble_eq_true rfl⟩) hS (fun q _ h => hFc q h) hFc (fun u t H1 locs ht hvm hw hB hz1 hk1 hS => ?_)
  obtain ⟨hP1, hK1, hD1⟩ := hB
  rw [ht] at hP1
  have hK1 := va_K.moved hvm.symm hK1
  obtain ⟨hP, hD⟩ := va_join (wr := [(h0, .inr (7, [.ref h1, .ref z0, .ref z1, .ref z2, .ref z3, .ref z4, .int 0, .int 0, .int 0])), (h1, .inl (k0, 4, .inr (.inr (.inr (.inr (va_up (va_up (va_up (va_up (fun _ => none) 0 (some h2)) 1 (some h3)) 2 (some h4)) 3 (some h5))))))), (h2, .inr (6, [.ref z5, .int 0])), (h3, .inr (6, [.ref z6, .int 0])), (h4, .inr (6, [.ref z7, .int 0])), (h5, .inr (6, [.ref z8, .int 0]))]) (w1 := []) hP hD [] [0, 1, 2, 3, 4, 5] rfl rfl (by decide) (by decide) hk1 hFc hP1 hD1
  generalize H1 = H at hP hS ⊢
  have hP : va_P (dC, dI) vwCl [(h0, .inr (7, [.ref h1, .ref z0, .ref z1, .ref z2, .ref z3, .ref z4, .int 0, .int 0, .int 0])), (h1, .inl (k0, 4, .inr (.inr (.inr (.inr (va_up (va_up (va_up (va_up (fun _ => none) 0 (some h2)) 1 (some h3)) 2 (some h4)) 3 (some h5))))))), (h2, .inr (6, [.ref z5, .int 0])), (h3, .inr (6, [.ref z6, .int 0])), (h4, .inr (6, [.ref z7, .int 0])), (h5, .inr (6, [.ref z8, .int 0]))] H := hP
  have hD : va_D A [(h0, .inr (7, [.ref h1, .ref z0, .ref z1, .ref z2, .ref z3, .ref z4, .int 0, .int 0, .int 0])), (h1, .inl (k0, 4, .inr (.inr (.inr (.inr (va_up (va_up (va_up (va_up (fun _ => none) 0 (some h2)) 1 (some h3)) 2 (some h4)) 3 (some h5))))))), (h2, .inr (6, [.ref z5, .int 0])), (h3, .inr (6, [.ref z6, .int 0])), (h4, .inr (6, [.ref z7, .int 0])), (h5, .inr (6, [.ref z8, .int 0]))] := hD
  refine lv_aload_n hx hb dX3_order_8 rfl (lv_at hl 0 rfl) ?_
  refine va_get (D := (dC, dI)) (ci := 7) (v := .ref h1) (C := RX3) (T := TX3) (N := 9) hx hb hts (by decide +kernel) hown hK hP 0 rfl rfl 0 (by decide) (hts (.fieldLink RX3 11 "Rewriterope" "ropes" "[LRewriterope$Text;") (by decide +kernel)) (fun _ h9 => h9) rfl dX3_order_9 ?_
  refine lv_iload_n hx hb dX3_order_12 rfl (lv_at hl 1 rfl) ?_
  refine va_aldq (D := (dC, dI)) hx hb hK hP 1 0 rfl rfl (by unfold vp_in; decide) dX3_order_13 ?_
  refine W.eq (g2 := F0 m 14 ls [.ref h2]) rfl ?_
  refine lv_aload_n hx hb dX3_order_14 rfl (lv_at hl 0 rfl) ?_
  refine va_get (D := (dC, dI)) (ci := 7) (v := .ref h1) (C := RX3) (T := TX3) (N := 9) hx hb hts (by decide +kernel) hown hK hP 0 rfl rfl 0 (by decide) (hts (.fieldLink RX3 11 "Rewriterope" "ropes" "[LRewriterope$Text;") (by decide +kernel)) (fun _ h9 => h9) rfl dX3_order_15 ?_
  refine lv_iload_n hx hb dX3_order_18 rfl (lv_at hl 2 rfl) ?_
  refine va_aldq (D := (dC, dI)) hx hb hK hP 1 0 rfl rfl (by unfold vp_in; decide) dX3_order_19 ?_
  refine W.eq (g2 := F0 m 20 ls [.ref h2, .ref h2]) rfl ?_
  have hPc := hP.sub (ws' := [(h2, .inr (6, [.ref z5, .int 0]))]) [2] rfl
  have hDc := hD.sub (ws' := [(h2, .inr (6, [.ref z5, .int 0]))]) [2] (by decide) rfl
  have hKc := hK.sub (tys' := []) [] rfl
  have hFc := va_free (wc := [(h2, .inr (6, [.ref z5, .int 0]))]) hD hS hA [2] rfl
  refine va_calli (va_runV (As := [.ref h2]) (rest := []) ⟨hx, hb, hml, hown, hts⟩ (kx_X2_compareWith_0 l dC dI h2 z5 H.size) (cwV 1 hts gX3_order_X2_compareWith rfl rfl rfl (by decide +kernel) ⟨Nat.le_of_ble_eq_true rfl, Nat.le_of_ble_eq_true rfl⟩) ⟨fun a U g mk q => by obtain ⟨q0, q1, qP, qK, qD⟩ := q; exact ⟨q0, q1, qP, va_K.moved (u := U) (U := U.calling g mk a) (Vm.Alike.refl U.vm) qK, qD⟩, va_recv hKc hPc (ci := 6) (q0 := 0) rfl rfl, fun U hU hW => ⟨rfl, by rw [hU], by rw [hU]; exact hPc, va_K.moved hW.alike hKc, hDc.weaken (fun _ _ _ _ => trivial)⟩⟩ rfl rfl hl.1 rfl (lv_room (Nat.le_of_ble_eq_true rfl)) dX3_order_20 ⟨Nat.le_of_ble_eq_true rfl, Nat.le_of_ble_eq_true rfl⟩) hS (fun q _ h => hFc q h) hFc (fun r9 u t H1 locs ht hvm hw hB hz1 hk1 hS => ?_)
  obtain rfl := hw
  obtain ⟨hP1, hK1, hD1⟩ := hB
  rw [ht] at hP1
  have hK1 := va_K.moved hvm.symm hK1
  obtain ⟨hP, hD⟩ := va_join (wr := [(h0, .inr (7, [.ref h1, .ref z0, .ref z1, .ref z2, .ref z3, .ref z4, .int 0, .int 0, .int 0])), (h1, .inl (k0, 4, .inr (.inr (.inr (.inr (va_up (va_up (va_up (va_up (fun _ => none) 0 (some h2)) 1 (some h3)) 2 (some h4)) 3 (some h5))))))), (h3, .inr (6, [.ref z6, .int 0])), (h4, .inr (6, [.ref z7, .int 0])), (h5, .inr (6, [.ref z8, .int 0]))]) (w1 := [(h2, .inr (6, [.ref z5, .int 0]))]) hP hD [2] [0, 1, 3, 4, 5] rfl rfl (by decide) (by decide) hk1 hFc hP1 hD1
  generalize H1 = H at hP hS ⊢
  have hP : va_P (dC, dI) vwCl [(h0, .inr (7, [.ref h1, .ref z0, .ref z1, .ref z2, .ref z3, .ref z4, .int 0, .int 0, .int 0])), (h1, .inl (k0, 4, .inr (.inr (.inr (.inr (va_up (va_up (va_up (va_up (fun _ => none) 0 (some h2)) 1 (some h3)) 2 (some h4)) 3 (some h5))))))), (h3, .inr (6, [.ref z6, .int 0])), (h4, .inr (6, [.ref z7, .int 0])), (h5, .inr (6, [.ref z8, .int 0])), (h2, .inr (6, [.ref z5, .int 0]))] H := hP
  have hD : va_D A [(h0, .inr (7, [.ref h1, .ref z0, .ref z1, .ref z2, .ref z3, .ref z4, .int 0, .int 0, .int 0])), (h1, .inl (k0, 4, .inr (.inr (.inr (.inr (va_up (va_up (va_up (va_up (fun _ => none) 0 (some h2)) 1 (some h3)) 2 (some h4)) 3 (some h5))))))), (h3, .inr (6, [.ref z6, .int 0])), (h4, .inr (6, [.ref z7, .int 0])), (h5, .inr (6, [.ref z8, .int 0])), (h2, .inr (6, [.ref z5, .int 0]))] := hD
  have hP := hP.sub (ws' := [(h0, .inr (7, [.ref h1, .ref z0, .ref z1, .ref z2, .ref z3, .ref z4, .int 0, .int 0, .int 0])), (h1, .inl (k0, 4, .inr (.inr (.inr (.inr (va_up (va_up (va_up (va_up (fun _ => none) 0 (some h2)) 1 (some h3)) 2 (some h4)) 3 (some h5))))))), (h2, .inr (6, [.ref z5, .int 0])), (h3, .inr (6, [.ref z6, .int 0])), (h4, .inr (6, [.ref z7, .int 0])), (h5, .inr (6, [.ref z8, .int 0]))]) [0, 1, 5, 2, 3, 4] rfl
  have hD := hD.sub (ws' := [(h0, .inr (7, [.ref h1, .ref z0, .ref z1, .ref z2, .ref z3, .ref z4, .int 0, .int 0, .int 0])), (h1, .inl (k0, 4, .inr (.inr (.inr (.inr (va_up (va_up (va_up (va_up (fun _ => none) 0 (some h2)) 1 (some h3)) 2 (some h4)) 3 (some h5))))))), (h2, .inr (6, [.ref z5, .int 0])), (h3, .inr (6, [.ref z6, .int 0])), (h4, .inr (6, [.ref z7, .int 0])), (h5, .inr (6, [.ref z8, .int 0]))]) [0, 1, 5, 2, 3, 4] (by decide) rfl
  exact W.iret (v := 0) hx hb hr (fun t ht hW => ⟨⟨0, (), rfl, rfl, by rw [ht]; exact hP, va_K.moved hW.alike hK, hD⟩, hS.F ht⟩) hS.2.2 dX3_order_23
set_option maxHeartbeats 4000000 in
set_option maxRecDepth 100000 in
theorem kx_X3_order_1 (l : Launch) (dC : Nat → ClassId) (dI : Nat → Nat → Nat) (h0 : Nat) (h1 : Nat) (h2 : Nat) (h3 : Nat) (h4 : Nat) (h5 : Nat) (z0 : Nat) (z1 : Nat) (z2 : Nat) (z3 : Nat) (z4 : Nat) (z5 : Nat) (z6 : Nat) (z7 : Nat) (z8 : Nat) (k0 : ClassId) (sz : Nat) : Met l yX3_order wsX3_order ({ frames := 1, cells := 0, slots := 0, locals := 22 }) (va_Pc [.ref h0, .int 0, .int 1] (fun U => U.heap.size = sz ∧ va_P (dC, dI) vwCl [(h0, .inr (7, [.ref h1, .ref z0, .ref z1, .ref z2, .ref z3, .ref z4, .int 0, .int 0, .int 0])), (h1, .inl (k0, 4, .inr (.inr (.inr (.inr (va_up (va_up (va_up (va_up (fun _ => none) 0 (some h2)) 1 (some h3)) 2 (some h4)) 3 (some h5))))))), (h2, .inr (6, [.ref z5, .int 0])), (h3, .inr (6, [.ref z6, .int 0])), (h4, .inr (6, [.ref z7, .int 0])), (h5, .inr (6, [.ref z8, .int 0]))] U.heap ∧ va_K (dC, dI) vwCl [(k0, .object "Rewriterope$Text")] U ∧ va_D (fun _ => True) [(h0, .inr (7, [.ref h1, .ref z0, .ref z1, .ref z2, .ref z3, .ref z4, .int 0, .int 0, .int 0])), (h1, .inl (k0, 4, .inr (.inr (.inr (.inr (va_up (va_up (va_up (va_up (fun _ => none) 0 (some h2)) 1 (some h3)) 2 (some h4)) 3 (some h5))))))), (h2, .inr (6, [.ref z5, .int 0])), (h3, .inr (6, [.ref z6, .int 0])), (h4, .inr (6, [.ref z7, .int 0])), (h5, .inr (6, [.ref z8, .int 0]))])) (va_Qi (fun (r : Int32) (_ : Unit) => r = 0) (fun (_ : Unit) (t : State) => va_P (dC, dI) vwCl [(h0, .inr (7, [.ref h1, .ref z0, .ref z1, .ref z2, .ref z3, .ref z4, .int 0, .int 0, .int 0])), (h1, .inl (k0, 4, .inr (.inr (.inr (.inr (va_up (va_up (va_up (va_up (fun _ => none) 0 (some h2)) 1 (some h3)) 2 (some h4)) 3 (some h5))))))), (h2, .inr (6, [.ref z5, .int 0])), (h3, .inr (6, [.ref z6, .int 0])), (h4, .inr (6, [.ref z7, .int 0])), (h5, .inr (6, [.ref z8, .int 0]))] t.heap ∧ va_K (dC, dI) vwCl [(k0, .object "Rewriterope$Text")] t ∧ va_D (va_A [(h0, .inr (7, [.ref h1, .ref z0, .ref z1, .ref z2, .ref z3, .ref z4, .int 0, .int 0, .int 0])), (h1, .inl (k0, 4, .inr (.inr (.inr (.inr (va_up (va_up (va_up (va_up (fun _ => none) 0 (some h2)) 1 (some h3)) 2 (some h4)) 3 (some h5))))))), (h2, .inr (6, [.ref z5, .int 0])), (h3, .inr (6, [.ref z6, .int 0])), (h4, .inr (6, [.ref z7, .int 0])), (h5, .inr (6, [.ref z8, .int 0]))] sz) [(h0, .inr (7, [.ref h1, .ref z0, .ref z1, .ref z2, .ref z3, .ref z4, .int 0, .int 0, .int 0])), (h1, .inl (k0, 4, .inr (.inr (.inr (.inr (va_up (va_up (va_up (va_up (fun _ => none) 0 (some h2)) 1 (some h3)) 2 (some h4)) 3 (some h5))))))), (h2, .inr (6, [.ref z5, .int 0])), (h3, .inr (6, [.ref z6, .int 0])), (h4, .inr (6, [.ref z7, .int 0])), (h5, .inr (6, [.ref z8, .int 0]))]) (va_A [(h0, .inr (7, [.ref h1, .ref z0, .ref z1, .ref z2, .ref z3, .ref z4, .int 0, .int 0, .int 0])), (h1, .inl (k0, 4, .inr (.inr (.inr (.inr (va_up (va_up (va_up (va_up (fun _ => none) 0 (some h2)) 1 (some h3)) 2 (some h4)) 3 (some h5))))))), (h2, .inr (6, [.ref z5, .int 0])), (h3, .inr (6, [.ref z6, .int 0])), (h4, .inr (6, [.ref z7, .int 0])), (h5, .inr (6, [.ref z8, .int 0]))] sz)) 0 0 (va_A [(h0, .inr (7, [.ref h1, .ref z0, .ref z1, .ref z2, .ref z3, .ref z4, .int 0, .int 0, .int 0])), (h1, .inl (k0, 4, .inr (.inr (.inr (.inr (va_up (va_up (va_up (va_up (fun _ => none) 0 (some h2)) 1 (some h3)) 2 (some h4)) 3 (some h5))))))), (h2, .inr (6, [.ref z5, .int 0])), (h3, .inr (6, [.ref z6, .int 0])), (h4, .inr (6, [.ref z7, .int 0])), (h5, .inr (6, [.ref z8, .int 0]))] sz) := by
  refine Met.ofW (cc := cX3_order) (maxL := 3) (ret := (some .int)) (by decide) rfl ?_
  intro p e s m args below meth c s₁ B hml hv
  obtain ⟨rfl, hsz, hP, hK, hD0⟩ := hv
  have hx := B.exec
  have hb := B.bytes
  have hr := B.returns
  have hts := atoms_spec (ws := wsX3_order) B.pre
  have hown : s.vm.findClass RX3 = some m.cls := findClass_of_methodNamed B.named
  have hlocks := B.notSynchronized
  subst hsz
  have hD := hD0.self (sz := s.heap.size)
  generalize hAe : va_A [(h0, .inr (7, [.ref h1, .ref z0, .ref z1, .ref z2, .ref z3, .ref z4, .int 0, .int 0, .int 0])), (h1, .inl (k0, 4, .inr (.inr (.inr (.inr (va_up (va_up (va_up (va_up (fun _ => none) 0 (some h2)) 1 (some h3)) 2 (some h4)) 3 (some h5))))))), (h2, .inr (6, [.ref z5, .int 0])), (h3, .inr (6, [.ref z6, .int 0])), (h4, .inr (6, [.ref z7, .int 0])), (h5, .inr (6, [.ref z8, .int 0]))] s.heap.size = A at hD ⊢
  have hA : ∀ q : Nat, s.heap.size ≤ q → A q := fun q h => by rw [← hAe]; exact Or.inr h
  have hS : va_S A s.heap s.heap [] := va_S.rf
  have hP : va_P (dC, dI) vwCl [(h0, .inr (7, [.ref h1, .ref z0, .ref z1, .ref z2, .ref z3, .ref z4, .int 0, .int 0, .int 0])), (h1, .inl (k0, 4, .inr (.inr (.inr (.inr (va_up (va_up (va_up (va_up (fun _ => none) 0 (some h2)) 1 (some h3)) 2 (some h4)) 3 (some h5))))))), (h2, .inr (6, [.ref z5, .int 0])), (h3, .inr (6, [.ref z6, .int 0])), (h4, .inr (6, [.ref z7, .int 0])), (h5, .inr (6, [.ref z8, .int 0]))] s.heap := hP
  have hl := lv_entry ([.ref h0, .int 0, .int 1]) (n := 3) (Nat.le_of_ble_eq_true rfl)
  rw [lg_entry_eq]
  generalize (lg_sl ([.ref h0, .int 0, .int 1]) ++ List.replicate (3 - (lg_sl ([.ref h0, .int 0, .int 1])).length) Slot.unset).toArray = ls at hl ⊢
  have hl : lv_has ls 3 [(0, .ref h0), (1, .int 0), (2, .int 1)] := hl
  refine lv_iload_n hx hb dX3_order_0 rfl (lv_at hl 1 rfl) ?_
  have hPc := hP.sub (ws' := []) [] rfl
  have hDc := hD.sub (ws' := []) [] (by decide) rfl
  have hKc := hK.sub (tys' := []) [] rfl
  have hFc := va_free (wc := []) hD hS hA [] rfl
  refine va_callv (va_runS (As := [.int 0]) (rest := []) ⟨hx, hb, hml, hown, hts⟩ (kx_X3_needRope_0 l dC dI s.heap.size) (cwS 1 hts gX3_order_X3_needRope rfl rfl rfl (by decide +kernel) ⟨Nat.le_of_ble_eq_true rfl, Nat.le_of_ble_eq_true rfl⟩) ⟨fun a U g mk q => by obtain ⟨q0, q1, qP, qK, qD⟩ := q; exact ⟨q0, q1, qP, va_K.moved (u := U) (U := U.calling g mk a) (Vm.Alike.refl U.vm) qK, qD⟩, fun U hU hW => ⟨rfl, by rw [hU], by rw [hU]; exact hPc, va_K.moved hW.alike hKc, hDc.weaken (fun _ _ _ _ => trivial)⟩⟩ rfl rfl hl.1 rfl (lv_room (Nat.le_of_ble_eq_true rfl)) dX3_order_1 ⟨Nat.le_of_ble_eq_true rfl, Nat.le_of_ble_eq_true rfl⟩) hS (fun q _ h => hFc q h) hFc (fun u t H1 locs ht hvm hw hB hz1 hk1 hS => ?_)
  obtain ⟨hP1, hK1, hD1⟩ := hB
  rw [ht] at hP1
  have hK1 := va_K.moved hvm.symm hK1
  obtain ⟨hP, hD⟩ := va_join (wr := [(h0, .inr (7, [.ref h1, .ref z0, .ref z1, .ref z2, .ref z3, .ref z4, .int 0, .int 0, .int 0])), (h1, .inl (k0, 4, .inr (.inr (.inr (.inr (va_up (va_up (va_up (va_up (fun _ => none) 0 (some h2)) 1 (some h3)) 2 (some h4)) 3 (some h5))))))), (h2, .inr (6, [.ref z5, .int 0])), (h3, .inr (6, [.ref z6, .int 0])), (h4, .inr (6, [.ref z7, .int 0])), (h5, .inr (6, [.ref z8, .int 0]))]) (w1 := []) hP hD [] [0, 1, 2, 3, 4, 5] rfl rfl (by decide) (by decide) hk1 hFc hP1 hD1
  generalize H1 = H at hP hS ⊢
  have hP : va_P (dC, dI) vwCl [(h0, .inr (7, [.ref h1, .ref z0, .ref z1, .ref z2, .ref z3, .ref z4, .int 0, .int 0, .int 0])), (h1, .inl (k0, 4, .inr (.inr (.inr (.inr (va_up (va_up (va_up (va_up (fun _ => none) 0 (some h2)) 1 (some h3)) 2 (some h4)) 3 (some h5))))))), (h2, .inr (6, [.ref z5, .int 0])), (h3, .inr (6, [.ref z6, .int 0])), (h4, .inr (6, [.ref z7, .int 0])), (h5, .inr (6, [.ref z8, .int 0]))] H := hP
  have hD : va_D A [(h0, .inr (7, [.ref h1, .ref z0, .ref z1, .ref z2, .ref z3, .ref z4, .int 0, .int 0, .int 0])), (h1, .inl (k0, 4, .inr (.inr (.inr (.inr (va_up (va_up (va_up (va_up (fun _ => none) 0 (some h2)) 1 (some h3)) 2 (some h4)) 3 (some h5))))))), (h2, .inr (6, [.ref z5, .int 0])), (h3, .inr (6, [.ref z6, .int 0])), (h4, .inr (6, [.ref z7, .int 0])), (h5, .inr (6, [.ref z8, .int 0]))] := hD
  refine lv_iload_n hx hb dX3_order_4 rfl (lv_at hl 2 rfl) ?_
  have hPc := hP.sub (ws' := []) [] rfl
  have hDc := hD.sub (ws' := []) [] (by decide) rfl
  have hKc := hK.sub (tys' := []) [] rfl
  have hFc := va_free (wc := []) hD hS hA [] rfl
  refine va_callv (va_runS (As := [.int 1]) (rest := []) ⟨hx, hb, hml, hown, hts⟩ (kx_X3_needRope_1 l dC dI H.size) (cwS 1 hts gX3_order_X3_needRope rfl rfl rfl (by decide +kernel) ⟨Nat.le_of_ble_eq_true rfl, Nat.le_of_ble_eq_true rfl⟩) ⟨fun a U g mk q => by obtain ⟨q0, q1, qP, qK, qD⟩ := q; exact ⟨q0, q1, qP, va_K.moved (u := U) (U := U.calling g mk a) (Vm.Alike.refl U.vm) qK, qD⟩, fun U hU hW => ⟨rfl, by rw [hU], by rw [hU]; exact hPc, va_K.moved hW.alike hKc, hDc.weaken (fun _ _ _ _ => trivial)⟩⟩ rfl rfl hl.1 rfl (lv_room (Nat.le_of_ble_eq_true rfl)) dX3_order_5 ⟨Nat.le_of_ble_eq_true rfl, Nat.le_of_ble_eq_true rfl⟩) hS (fun q _ h => hFc q h) hFc (fun u t H1 locs ht hvm hw hB hz1 hk1 hS => ?_)
  obtain ⟨hP1, hK1, hD1⟩ := hB
  rw [ht] at hP1
  have hK1 := va_K.moved hvm.symm hK1
  obtain ⟨hP, hD⟩ := va_join (wr := [(h0, .inr (7, [.ref h1, .ref z0, .ref z1, .ref z2, .ref z3, .ref z4, .int 0, .int 0, .int 0])), (h1, .inl (k0, 4, .inr (.inr (.inr (.inr (va_up (va_up (va_up (va_up (fun _ => none) 0 (some h2)) 1 (some h3)) 2 (some h4)) 3 (some h5))))))), (h2, .inr (6, [.ref z5, .int 0])), (h3, .inr (6, [.ref z6, .int 0])), (h4, .inr (6, [.ref z7, .int 0])), (h5, .inr (6, [.ref z8, .int 0]))]) (w1 := []) hP hD [] [0, 1, 2, 3, 4, 5] rfl rfl (by decide) (by decide) hk1 hFc hP1 hD1
  generalize H1 = H at hP hS ⊢
  have hP : va_P (dC, dI) vwCl [(h0, .inr (7, [.ref h1, .ref z0, .ref z1, .ref z2, .ref z3, .ref z4, .int 0, .int 0, .int 0])), (h1, .inl (k0, 4, .inr (.inr (.inr (.inr (va_up (va_up (va_up (va_up (fun _ => none) 0 (some h2)) 1 (some h3)) 2 (some h4)) 3 (some h5))))))), (h2, .inr (6, [.ref z5, .int 0])), (h3, .inr (6, [.ref z6, .int 0])), (h4, .inr (6, [.ref z7, .int 0])), (h5, .inr (6, [.ref z8, .int 0]))] H := hP
  have hD : va_D A [(h0, .inr (7, [.ref h1, .ref z0, .ref z1, .ref z2, .ref z3, .ref z4, .int 0, .int 0, .int 0])), (h1, .inl (k0, 4, .inr (.inr (.inr (.inr (va_up (va_up (va_up (va_up (fun _ => none) 0 (some h2)) 1 (some h3)) 2 (some h4)) 3 (some h5))))))), (h2, .inr (6, [.ref z5, .int 0])), (h3, .inr (6, [.ref z6, .int 0])), (h4, .inr (6, [.ref z7, .int 0])), (h5, .inr (6, [.ref z8, .int 0]))] := hD
  refine lv_aload_n hx hb dX3_order_8 rfl (lv_at hl 0 rfl) ?_
  refine va_get (D := (dC, dI)) (ci := 7) (v := .ref h1) (C := RX3) (T := TX3) (N := 9) hx hb hts (by decide +kernel) hown hK hP 0 rfl rfl 0 (by decide) (hts (.fieldLink RX3 11 "Rewriterope" "ropes" "[LRewriterope$Text;") (by decide +kernel)) (fun _ h9 => h9) rfl dX3_order_9 ?_
  refine lv_iload_n hx hb dX3_order_12 rfl (lv_at hl 1 rfl) ?_
  refine va_aldq (D := (dC, dI)) hx hb hK hP 1 0 rfl rfl (by unfold vp_in; decide) dX3_order_13 ?_
  refine W.eq (g2 := F0 m 14 ls [.ref h2]) rfl ?_
  refine lv_aload_n hx hb dX3_order_14 rfl (lv_at hl 0 rfl) ?_
  refine va_get (D := (dC, dI)) (ci := 7) (v := .ref h1) (C := RX3) (T := TX3) (N := 9) hx hb hts (by decide +kernel) hown hK hP 0 rfl rfl 0 (by decide) (hts (.fieldLink RX3 11 "Rewriterope" "ropes" "[LRewriterope$Text;") (by decide +kernel)) (fun _ h9 => h9) rfl dX3_order_15 ?_
  refine lv_iload_n hx hb dX3_order_18 rfl (lv_at hl 2 rfl) ?_
  refine va_aldq (D := (dC, dI)) hx hb hK hP 1 0 rfl rfl (by unfold vp_in; decide) dX3_order_19 ?_
  refine W.eq (g2 := F0 m 20 ls [.ref h3, .ref h2]) rfl ?_
  have hPc := hP.sub (ws' := [(h2, .inr (6, [.ref z5, .int 0])), (h3, .inr (6, [.ref z6, .int 0]))]) [2, 3] rfl
  have hDc := hD.sub (ws' := [(h2, .inr (6, [.ref z5, .int 0])), (h3, .inr (6, [.ref z6, .int 0]))]) [2, 3] (by decide) rfl
  have hKc := hK.sub (tys' := []) [] rfl
  have hFc := va_free (wc := [(h2, .inr (6, [.ref z5, .int 0])), (h3, .inr (6, [.ref z6, .int 0]))]) hD hS hA [2, 3] rfl
  refine va_calli (va_runV (As := [.ref h3]) (rest := []) ⟨hx, hb, hml, hown, hts⟩ (kx_X2_compareWith_1 l dC dI h2 h3 z5 z6 H.size) (cwV 1 hts gX3_order_X2_compareWith rfl rfl rfl (by decide +kernel) ⟨Nat.le_of_ble_eq_true rfl, Nat.le_of_ble_eq_true rfl⟩) ⟨fun a U g mk q => by obtain ⟨q0, q1, qP, qK, qD⟩ := q; exact ⟨q0, q1, qP, va_K.moved (u := U) (U := U.calling g mk a) (Vm.Alike.refl U.vm) qK, qD⟩, va_recv hKc hPc (ci := 6) (q0 := 0) rfl rfl, fun U hU hW => ⟨rfl, by rw [hU], by rw [hU]; exact hPc, va_K.moved hW.alike hKc, hDc.weaken (fun _ _ _ _ => trivial)⟩⟩ rfl rfl hl.1 rfl (lv_room (Nat.le_of_ble_eq_true rfl)) dX3_order_20 ⟨Nat.le_of_ble_eq_true rfl, Nat.le_of_ble_eq_true rfl⟩) hS (fun q _ h => hFc q h) hFc (fun r9 u t H1 locs ht hvm hw hB hz1 hk1 hS => ?_)
  obtain rfl := hw
  obtain ⟨hP1, hK1, hD1⟩ := hB
  rw [ht] at hP1
  have hK1 := va_K.moved hvm.symm hK1
  obtain ⟨hP, hD⟩ := va_join (wr := [(h0, .inr (7, [.ref h1, .ref z0, .ref z1, .ref z2, .ref z3, .ref z4, .int 0, .int 0, .int 0])), (h1, .inl (k0, 4, .inr (.inr (.inr (.inr (va_up (va_up (va_up (va_up (fun _ => none) 0 (some h2)) 1 (some h3)) 2 (some h4)) 3 (some h5))))))), (h4, .inr (6, [.ref z7, .int 0])), (h5, .inr (6, [.ref z8, .int 0]))]) (w1 := [(h2, .inr (6, [.ref z5, .int 0])), (h3, .inr (6, [.ref z6, .int 0]))]) hP hD [2, 3] [0, 1, 4, 5] rfl rfl (by decide) (by decide) hk1 hFc hP1 hD1
  generalize H1 = H at hP hS ⊢
  have hP : va_P (dC, dI) vwCl [(h0, .inr (7, [.ref h1, .ref z0, .ref z1, .ref z2, .ref z3, .ref z4, .int 0, .int 0, .int 0])), (h1, .inl (k0, 4, .inr (.inr (.inr (.inr (va_up (va_up (va_up (va_up (fun _ => none) 0 (some h2)) 1 (some h3)) 2 (some h4)) 3 (some h5))))))), (h4, .inr (6, [.ref z7, .int 0])), (h5, .inr (6, [.ref z8, .int 0])), (h2, .inr (6, [.ref z5, .int 0])), (h3, .inr (6, [.ref z6, .int 0]))] H := hP
  have hD : va_D A [(h0, .inr (7, [.ref h1, .ref z0, .ref z1, .ref z2, .ref z3, .ref z4, .int 0, .int 0, .int 0])), (h1, .inl (k0, 4, .inr (.inr (.inr (.inr (va_up (va_up (va_up (va_up (fun _ => none) 0 (some h2)) 1 (some h3)) 2 (some h4)) 3 (some h5))))))), (h4, .inr (6, [.ref z7, .int 0])), (h5, .inr (6, [.ref z8, .int 0])), (h2, .inr (6, [.ref z5, .int 0])), (h3, .inr (6, [.ref z6, .int 0]))] := hD
  have hP := hP.sub (ws' := [(h0, .inr (7, [.ref h1, .ref z0, .ref z1, .ref z2, .ref z3, .ref z4, .int 0, .int 0, .int 0])), (h1, .inl (k0, 4, .inr (.inr (.inr (.inr (va_up (va_up (va_up (va_up (fun _ => none) 0 (some h2)) 1 (some h3)) 2 (some h4)) 3 (some h5))))))), (h2, .inr (6, [.ref z5, .int 0])), (h3, .inr (6, [.ref z6, .int 0])), (h4, .inr (6, [.ref z7, .int 0])), (h5, .inr (6, [.ref z8, .int 0]))]) [0, 1, 4, 5, 2, 3] rfl
  have hD := hD.sub (ws' := [(h0, .inr (7, [.ref h1, .ref z0, .ref z1, .ref z2, .ref z3, .ref z4, .int 0, .int 0, .int 0])), (h1, .inl (k0, 4, .inr (.inr (.inr (.inr (va_up (va_up (va_up (va_up (fun _ => none) 0 (some h2)) 1 (some h3)) 2 (some h4)) 3 (some h5))))))), (h2, .inr (6, [.ref z5, .int 0])), (h3, .inr (6, [.ref z6, .int 0])), (h4, .inr (6, [.ref z7, .int 0])), (h5, .inr (6, [.ref z8, .int 0]))]) [0, 1, 4, 5, 2, 3] (by decide) rfl
  exact W.iret (v := 0) hx hb hr (fun t ht hW => ⟨⟨0, (), rfl, rfl, by rw [ht]; exact hP, va_K.moved hW.alike hK, hD⟩, hS.F ht⟩) hS.2.2 dX3_order_23
set_option maxHeartbeats 4000000 in
set_option maxRecDepth 100000 in
theorem kx_X3_order_2 (l : Launch) (dC : Nat → ClassId) (dI : Nat → Nat → Nat) (h0 : Nat) (h1 : Nat) (h2 : Nat) (h3 : Nat) (h4 : Nat) (h5 : Nat) (z0 : Nat) (z1 : Nat) (z2 : Nat) (z3 : Nat) (z4 : Nat) (z5 : Nat) (z6 : Nat) (z7 : Nat) (z8 : Nat) (k0 : ClassId) (sz : Nat) : Met l yX3_order wsX3_order ({ frames := 1, cells := 0, slots := 0, locals := 22 }) (va_Pc [.ref h0, .int 0, .int 2] (fun U => U.heap.size = sz ∧ va_P (dC, dI) vwCl [(h0, .inr (7, [.ref h1, .ref z0, .ref z1, .ref z2, .ref z3, .ref z4, .int 0, .int 0, .int 0])), (h1, .inl (k0, 4, .inr (.inr (.inr (.inr (va_up (va_up (va_up (va_up (fun _ => none) 0 (some h2)) 1 (some h3)) 2 (some h4)) 3 (some h5))))))), (h2, .inr (6, [.ref z5, .int 0])), (h3, .inr (6, [.ref z6, .int 0])), (h4, .inr (6, [.ref z7, .int 0])), (h5, .inr (6, [.ref z8, .int 0]))] U.heap ∧ va_K (dC, dI) vwCl [(k0, .object "Rewriterope$Text")] U ∧ va_D (fun _ => True) [(h0, .inr (7, [.ref h1, .ref z0, .ref z1, .ref z2, .ref z3, .ref z4, .int 0, .int 0, .int 0])), (h1, .inl (k0, 4, .inr (.inr (.inr (.inr (va_up (va_up (va_up (va_up (fun _ => none) 0 (some h2)) 1 (some h3)) 2 (some h4)) 3 (some h5))))))), (h2, .inr (6, [.ref z5, .int 0])), (h3, .inr (6, [.ref z6, .int 0])), (h4, .inr (6, [.ref z7, .int 0])), (h5, .inr (6, [.ref z8, .int 0]))])) (va_Qi (fun (r : Int32) (_ : Unit) => r = 0) (fun (_ : Unit) (t : State) => va_P (dC, dI) vwCl [(h0, .inr (7, [.ref h1, .ref z0, .ref z1, .ref z2, .ref z3, .ref z4, .int 0, .int 0, .int 0])), (h1, .inl (k0, 4, .inr (.inr (.inr (.inr (va_up (va_up (va_up (va_up (fun _ => none) 0 (some h2)) 1 (some h3)) 2 (some h4)) 3 (some h5))))))), (h2, .inr (6, [.ref z5, .int 0])), (h3, .inr (6, [.ref z6, .int 0])), (h4, .inr (6, [.ref z7, .int 0])), (h5, .inr (6, [.ref z8, .int 0]))] t.heap ∧ va_K (dC, dI) vwCl [(k0, .object "Rewriterope$Text")] t ∧ va_D (va_A [(h0, .inr (7, [.ref h1, .ref z0, .ref z1, .ref z2, .ref z3, .ref z4, .int 0, .int 0, .int 0])), (h1, .inl (k0, 4, .inr (.inr (.inr (.inr (va_up (va_up (va_up (va_up (fun _ => none) 0 (some h2)) 1 (some h3)) 2 (some h4)) 3 (some h5))))))), (h2, .inr (6, [.ref z5, .int 0])), (h3, .inr (6, [.ref z6, .int 0])), (h4, .inr (6, [.ref z7, .int 0])), (h5, .inr (6, [.ref z8, .int 0]))] sz) [(h0, .inr (7, [.ref h1, .ref z0, .ref z1, .ref z2, .ref z3, .ref z4, .int 0, .int 0, .int 0])), (h1, .inl (k0, 4, .inr (.inr (.inr (.inr (va_up (va_up (va_up (va_up (fun _ => none) 0 (some h2)) 1 (some h3)) 2 (some h4)) 3 (some h5))))))), (h2, .inr (6, [.ref z5, .int 0])), (h3, .inr (6, [.ref z6, .int 0])), (h4, .inr (6, [.ref z7, .int 0])), (h5, .inr (6, [.ref z8, .int 0]))]) (va_A [(h0, .inr (7, [.ref h1, .ref z0, .ref z1, .ref z2, .ref z3, .ref z4, .int 0, .int 0, .int 0])), (h1, .inl (k0, 4, .inr (.inr (.inr (.inr (va_up (va_up (va_up (va_up (fun _ => none) 0 (some h2)) 1 (some h3)) 2 (some h4)) 3 (some h5))))))), (h2, .inr (6, [.ref z5, .int 0])), (h3, .inr (6, [.ref z6, .int 0])), (h4, .inr (6, [.ref z7, .int 0])), (h5, .inr (6, [.ref z8, .int 0]))] sz)) 0 0 (va_A [(h0, .inr (7, [.ref h1, .ref z0, .ref z1, .ref z2, .ref z3, .ref z4, .int 0, .int 0, .int 0])), (h1, .inl (k0, 4, .inr (.inr (.inr (.inr (va_up (va_up (va_up (va_up (fun _ => none) 0 (some h2)) 1 (some h3)) 2 (some h4)) 3 (some h5))))))), (h2, .inr (6, [.ref z5, .int 0])), (h3, .inr (6, [.ref z6, .int 0])), (h4, .inr (6, [.ref z7, .int 0])), (h5, .inr (6, [.ref z8, .int 0]))] sz) := by
  refine Met.ofW (cc := cX3_order) (maxL := 3) (ret := (some .int)) (by decide) rfl ?_
  intro p e s m args below meth c s₁ B hml hv
  obtain ⟨rfl, hsz, hP, hK, hD0⟩ := hv
  have hx := B.exec
  have hb := B.bytes
  have hr := B.returns
  have hts := atoms_spec (ws := wsX3_order) B.pre
  have hown : s.vm.findClass RX3 = some m.cls := findClass_of_methodNamed B.named
  have hlocks := B.notSynchronized
  subst hsz
  have hD := hD0.self (sz := s.heap.size)
  generalize hAe : va_A [(h0, .inr (7, [.ref h1, .ref z0, .ref z1, .ref z2, .ref z3, .ref z4, .int 0, .int 0, .int 0])), (h1, .inl (k0, 4, .inr (.inr (.inr (.inr (va_up (va_up (va_up (va_up (fun _ => none) 0 (some h2)) 1 (some h3)) 2 (some h4)) 3 (some h5))))))), (h2, .inr (6, [.ref z5, .int 0])), (h3, .inr (6, [.ref z6, .int 0])), (h4, .inr (6, [.ref z7, .int 0])), (h5, .inr (6, [.ref z8, .int 0]))] s.heap.size = A at hD ⊢
  have hA : ∀ q : Nat, s.heap.size ≤ q → A q := fun q h => by rw [← hAe]; exact Or.inr h
  have hS : va_S A s.heap s.heap [] := va_S.rf
  have hP : va_P (dC, dI) vwCl [(h0, .inr (7, [.ref h1, .ref z0, .ref z1, .ref z2, .ref z3, .ref z4, .int 0, .int 0, .int 0])), (h1, .inl (k0, 4, .inr (.inr (.inr (.inr (va_up (va_up (va_up (va_up (fun _ => none) 0 (some h2)) 1 (some h3)) 2 (some h4)) 3 (some h5))))))), (h2, .inr (6, [.ref z5, .int 0])), (h3, .inr (6, [.ref z6, .int 0])), (h4, .inr (6, [.ref z7, .int 0])), (h5, .inr (6, [.ref z8, .int 0]))] s.heap := hP
  have hl := lv_entry ([.ref h0, .int 0, .int 2]) (n := 3) (Nat.le_of_ble_eq_true rfl)
  rw [lg_entry_eq]
  generalize (lg_sl ([.ref h0, .int 0, .int 2]) ++ List.replicate (3 - (lg_sl ([.ref h0, .int 0, .int 2])).length) Slot.unset).toArray = ls at hl ⊢
  have hl : lv_has ls 3 [(0, .ref h0), (1, .int 0), (2, .int 2)] := hl
  refine lv_iload_n hx hb dX3_order_0 rfl (lv_at hl 1 rfl) ?_
  have hPc := hP.sub (ws' := []) [] rfl
  have hDc := hD.sub (ws' := []) [] (by decide) rfl
  have hKc := hK.sub (tys' := []) [] rfl
  have hFc := va_free (wc := []) hD hS hA [] rfl
  refine va_callv (va_runS (As := [.int 0]) (rest := []) ⟨hx, hb, hml, hown, hts⟩ (kx_X3_needRope_0 l dC dI s.heap.size) (cwS 1 hts gX3_order_X3_needRope rfl rfl rfl (by decide +kernel) ⟨Nat.le_of_ble_eq_true rfl, Nat.le_of_ble_eq_true rfl⟩) ⟨fun a U g mk q => by obtain ⟨q0, q1, qP, qK, qD⟩ := q; exact ⟨q0, q1, qP, va_K.moved (u := U) (U := U.calling g mk a) (Vm.Alike.refl U.vm) qK, qD⟩, fun U hU hW => ⟨rfl, by rw [hU], by rw [hU]; exact hPc, va_K.moved hW.alike hKc, hDc.weaken (fun _ _ _ _ => trivial)⟩⟩ rfl rfl hl.1 rfl (lv_room (Nat.le_of_ble_eq_true rfl)) dX3_order_1 ⟨Nat.le_of_ble_eq_true rfl, Nat.le_of_ble_eq_true rfl⟩) hS (fun q _ h => hFc q h) hFc (fun u t H1 locs ht hvm hw hB hz1 hk1 hS => ?_)
  obtain ⟨hP1, hK1, hD1⟩ := hB
  rw [ht] at hP1
  have hK1 := va_K.moved hvm.symm hK1
  obtain ⟨hP, hD⟩ := va_join (wr := [(h0, .inr (7, [.ref h1, .ref z0, .ref z1, .ref z2, .ref z3, .ref z4, .int 0, .int 0, .int 0])), (h1, .inl (k0, 4, .inr (.inr (.inr (.inr (va_up (va_up (va_up (va_up (fun _ => none) 0 (some h2)) 1 (some h3)) 2 (some h4)) 3 (some h5))))))), (h2, .inr (6, [.ref z5, .int 0])), (h3, .inr (6, [.ref z6, .int 0])), (h4, .inr (6, [.ref z7, .int 0])), (h5, .inr (6, [.ref z8, .int 0]))]) (w1 := []) hP hD [] [0, 1, 2, 3, 4, 5] rfl rfl (by decide) (by decide) hk1 hFc hP1 hD1
  generalize H1 = H at hP hS ⊢
  have hP : va_P (dC, dI) vwCl [(h0, .inr (7, [.ref h1, .ref z0, .ref z1, .ref z2, .ref z3, .ref z4, .int 0, .int 0, .int 0])), (h1, .inl (k0, 4, .inr (.inr (.inr (.inr (va_up (va_up (va_up (va_up (fun _ => none) 0 (some h2)) 1 (some h3)) 2 (some h4)) 3 (some h5))))))), (h2, .inr (6, [.ref z5, .int 0])), (h3, .inr (6, [.ref z6, .int 0])), (h4, .inr (6, [.ref z7, .int 0])), (h5, .inr (6, [.ref z8, .int 0]))] H := hP
  have hD : va_D A [(h0, .inr (7, [.ref h1, .ref z0, .ref z1, .ref z2, .ref z3, .ref z4, .int 0, .int 0, .int 0])), (h1, .inl (k0, 4, .inr (.inr (.inr (.inr (va_up (va_up (va_up (va_up (fun _ => none) 0 (some h2)) 1 (some h3)) 2 (some h4)) 3 (some h5))))))), (h2, .inr (6, [.ref z5, .int 0])), (h3, .inr (6, [.ref z6, .int 0])), (h4, .inr (6, [.ref z7, .int 0])), (h5, .inr (6, [.ref z8, .int 0]))] := hD
  refine lv_iload_n hx hb dX3_order_4 rfl (lv_at hl 2 rfl) ?_
  have hPc := hP.sub (ws' := []) [] rfl
  have hDc := hD.sub (ws' := []) [] (by decide) rfl
  have hKc := hK.sub (tys' := []) [] rfl
  have hFc := va_free (wc := []) hD hS hA [] rfl
  refine va_callv (va_runS (As := [.int 2]) (rest := []) ⟨hx, hb, hml, hown, hts⟩ (kx_X3_needRope_2 l dC dI H.size) (cwS 1 hts gX3_order_X3_needRope rfl rfl rfl (by decide +kernel) ⟨Nat.le_of_ble_eq_true rfl, Nat.le_of_ble_eq_true rfl⟩) ⟨fun a U g mk q => by obtain ⟨q0, q1, qP, qK, qD⟩ := q; exact ⟨q0, q1, qP, va_K.moved (u := U) (U := U.calling g mk a) (Vm.Alike.refl U.vm) qK, qD⟩, fun U hU hW => ⟨rfl, by rw [hU], by rw [hU]; exact hPc, va_K.moved hW.alike hKc, hDc.weaken (fun _ _ _ _ => trivial)⟩⟩ rfl rfl hl.1 rfl (lv_room (Nat.le_of_ble_eq_true rfl)) dX3_order_5 ⟨Nat.le_of_ble_eq_true rfl, Nat.le_of_ble_eq_true rfl⟩) hS (fun q _ h => hFc q h) hFc (fun u t H1 locs ht hvm hw hB hz1 hk1 hS => ?_)
  obtain ⟨hP1, hK1, hD1⟩ := hB
  rw [ht] at hP1
  have hK1 := va_K.moved hvm.symm hK1
  obtain ⟨hP, hD⟩ := va_join (wr := [(h0, .inr (7, [.ref h1, .ref z0, .ref z1, .ref z2, .ref z3, .ref z4, .int 0, .int 0, .int 0])), (h1, .inl (k0, 4, .inr (.inr (.inr (.inr (va_up (va_up (va_up (va_up (fun _ => none) 0 (some h2)) 1 (some h3)) 2 (some h4)) 3 (some h5))))))), (h2, .inr (6, [.ref z5, .int 0])), (h3, .inr (6, [.ref z6, .int 0])), (h4, .inr (6, [.ref z7, .int 0])), (h5, .inr (6, [.ref z8, .int 0]))]) (w1 := []) hP hD [] [0, 1, 2, 3, 4, 5] rfl rfl (by decide) (by decide) hk1 hFc hP1 hD1
  generalize H1 = H at hP hS ⊢
  have hP : va_P (dC, dI) vwCl [(h0, .inr (7, [.ref h1, .ref z0, .ref z1, .ref z2, .ref z3, .ref z4, .int 0, .int 0, .int 0])), (h1, .inl (k0, 4, .inr (.inr (.inr (.inr (va_up (va_up (va_up (va_up (fun _ => none) 0 (some h2)) 1 (some h3)) 2 (some h4)) 3 (some h5))))))), (h2, .inr (6, [.ref z5, .int 0])), (h3, .inr (6, [.ref z6, .int 0])), (h4, .inr (6, [.ref z7, .int 0])), (h5, .inr (6, [.ref z8, .int 0]))] H := hP
  have hD : va_D A [(h0, .inr (7, [.ref h1, .ref z0, .ref z1, .ref z2, .ref z3, .ref z4, .int 0, .int 0, .int 0])), (h1, .inl (k0, 4, .inr (.inr (.inr (.inr (va_up (va_up (va_up (va_up (fun _ => none) 0 (some h2)) 1 (some h3)) 2 (some h4)) 3 (some h5))))))), (h2, .inr (6, [.ref z5, .int 0])), (h3, .inr (6, [.ref z6, .int 0])), (h4, .inr (6, [.ref z7, .int 0])), (h5, .inr (6, [.ref z8, .int 0]))] := hD
  refine lv_aload_n hx hb dX3_order_8 rfl (lv_at hl 0 rfl) ?_
  refine va_get (D := (dC, dI)) (ci := 7) (v := .ref h1) (C := RX3) (T := TX3) (N := 9) hx hb hts (by decide +kernel) hown hK hP 0 rfl rfl 0 (by decide) (hts (.fieldLink RX3 11 "Rewriterope" "ropes" "[LRewriterope$Text;") (by decide +kernel)) (fun _ h9 => h9) rfl dX3_order_9 ?_
  refine lv_iload_n hx hb dX3_order_12 rfl (lv_at hl 1 rfl) ?_
  refine va_aldq (D := (dC, dI)) hx hb hK hP 1 0 rfl rfl (by unfold vp_in; decide) dX3_order_13 ?_
  refine W.eq (g2 := F0 m 14 ls [.ref h2]) rfl ?_
  refine lv_aload_n hx hb dX3_order_14 rfl (lv_at hl 0 rfl) ?_
  refine va_get (D := (dC, dI)) (ci := 7) (v := .ref h1) (C := RX3) (T := TX3) (N := 9) hx hb hts (by decide +kernel) hown hK hP 0 rfl rfl 0 (by decide) (hts (.fieldLink RX3 11 "Rewriterope" "ropes" "[LRewriterope$Text;") (by decide +kernel)) (fun _ h9 => h9) rfl dX3_order_15 ?_
  refine lv_iload_n hx hb dX3_order_18 rfl (lv_at hl 2 rfl) ?_
  refine va_aldq (D := (dC, dI)) hx hb hK hP 1 0 rfl rfl (by unfold vp_in; decide) dX3_order_19 ?_
  refine W.eq (g2 := F0 m 20 ls [.ref h4, .ref h2]) rfl ?_
  have hPc := hP.sub (ws' := [(h2, .inr (6, [.ref z5, .int 0])), (h4, .inr (6, [.ref z7, .int 0]))]) [2, 4] rfl
  have hDc := hD.sub (ws' := [(h2, .inr (6, [.ref z5, .int 0])), (h4, .inr (6, [.ref z7, .int 0]))]) [2, 4] (by decide) rfl
  have hKc := hK.sub (tys' := []) [] rfl
  have hFc := va_free (wc := [(h2, .inr (6, [.ref z5, .int 0])), (h4, .inr (6, [.ref z7, .int 0]))]) hD hS hA [2, 4] rfl
  refine va_calli (va_runV (As := [.ref h4]) (rest := []) ⟨hx, hb, hml, hown, hts⟩ (kx_X2_compareWith_1 l dC dI h2 h4 z5 z7 H.size) (cwV 1 hts gX3_order_X2_compareWith rfl rfl rfl (by decide +kernel) ⟨Nat.le_of_ble_eq_true rfl, Nat.le_of_ble_eq_true rfl⟩) ⟨fun a U g mk q => by obtain ⟨q0, q1, qP, qK, qD⟩ := q; exact ⟨q0, q1, qP, va_K.moved (u := U) (U := U.calling g mk a) (Vm.Alike.refl U.vm) qK, qD⟩, va_recv hKc hPc (ci := 6) (q0 := 0) rfl rfl, fun U hU hW => ⟨rfl, by rw [hU], by rw [hU]; exact hPc, va_K.moved hW.alike hKc, hDc.weaken (fun _ _ _ _ => trivial)⟩⟩ rfl rfl hl.1 rfl (lv_room (Nat.le_of_ble_eq_true rfl)) dX3_order_20 ⟨Nat.le_of_ble_eq_true rfl, Nat.le_of_ble_eq_true rfl⟩) hS (fun q _ h => hFc q h) hFc (fun r9 u t H1 locs ht hvm hw hB hz1 hk1 hS => ?_)
  obtain rfl := hw
  obtain ⟨hP1, hK1, hD1⟩ := hB
  rw [ht] at hP1
  have hK1 := va_K.moved hvm.symm hK1
  obtain ⟨hP, hD⟩ := va_join (wr := [(h0, .inr (7, [.ref h1, .ref z0, .ref z1, .ref z2, .ref z3, .ref z4, .int 0, .int 0, .int 0])), (h1, .inl (k0, 4, .inr (.inr (.inr (.inr (va_up (va_up (va_up (va_up (fun _ => none) 0 (some h2)) 1 (some h3)) 2 (some h4)) 3 (some h5))))))), (h3, .inr (6, [.ref z6, .int 0])), (h5, .inr (6, [.ref z8, .int 0]))]) (w1 := [(h2, .inr (6, [.ref z5, .int 0])), (h4, .inr (6, [.ref z7, .int 0]))]) hP hD [2, 4] [0, 1, 3, 5] rfl rfl (by decide) (by decide) hk1 hFc hP1 hD1
  generalize H1 = H at hP hS ⊢
  have hP : va_P (dC, dI) vwCl [(h0, .inr (7, [.ref h1, .ref z0, .ref z1, .ref z2, .ref z3, .ref z4, .int 0, .int 0, .int 0])), (h1, .inl (k0, 4, .inr (.inr (.inr (.inr (va_up (va_up (va_up (va_up (fun _ => none) 0 (some h2)) 1 (some h3)) 2 (some h4)) 3 (some h5))))))), (h3, .inr (6, [.ref z6, .int 0])), (h5, .inr (6, [.ref z8, .int 0])), (h2, .inr (6, [.ref z5, .int 0])), (h4, .inr (6, [.ref z7, .int 0]))] H := hP
  have hD : va_D A [(h0, .inr (7, [.ref h1, .ref z0, .ref z1, .ref z2, .ref z3, .ref z4, .int 0, .int 0, .int 0])), (h1, .inl (k0, 4, .inr (.inr (.inr (.inr (va_up (va_up (va_up (va_up (fun _ => none) 0 (some h2)) 1 (some h3)) 2 (some h4)) 3 (some h5))))))), (h3, .inr (6, [.ref z6, .int 0])), (h5, .inr (6, [.ref z8, .int 0])), (h2, .inr (6, [.ref z5, .int 0])), (h4, .inr (6, [.ref z7, .int 0]))] := hD
  have hP := hP.sub (ws' := [(h0, .inr (7, [.ref h1, .ref z0, .ref z1, .ref z2, .ref z3, .ref z4, .int 0, .int 0, .int 0])), (h1, .inl (k0, 4, .inr (.inr (.inr (.inr (va_up (va_up (va_up (va_up (fun _ => none) 0 (some h2)) 1 (some h3)) 2 (some h4)) 3 (some h5))))))), (h2, .inr (6, [.ref z5, .int 0])), (h3, .inr (6, [.ref z6, .int 0])), (h4, .inr (6, [.ref z7, .int 0])), (h5, .inr (6, [.ref z8, .int 0]))]) [0, 1, 4, 2, 5, 3] rfl
  have hD := hD.sub (ws' := [(h0, .inr (7, [.ref h1, .ref z0, .ref z1, .ref z2, .ref z3, .ref z4, .int 0, .int 0, .int 0])), (h1, .inl (k0, 4, .inr (.inr (.inr (.inr (va_up (va_up (va_up (va_up (fun _ => none) 0 (some h2)) 1 (some h3)) 2 (some h4)) 3 (some h5))))))), (h2, .inr (6, [.ref z5, .int 0])), (h3, .inr (6, [.ref z6, .int 0])), (h4, .inr (6, [.ref z7, .int 0])), (h5, .inr (6, [.ref z8, .int 0]))]) [0, 1, 4, 2, 5, 3] (by decide) rfl
  exact W.iret (v := 0) hx hb hr (fun t ht hW => ⟨⟨0, (), rfl, rfl, by rw [ht]; exact hP, va_K.moved hW.alike hK, hD⟩, hS.F ht⟩) hS.2.2 dX3_order_23
set_option maxHeartbeats 4000000 in
set_option maxRecDepth 100000 in
theorem kx_X3_order_3 (l : Launch) (dC : Nat → ClassId) (dI : Nat → Nat → Nat) (h0 : Nat) (h1 : Nat) (h2 : Nat) (h3 : Nat) (h4 : Nat) (h5 : Nat) (z0 : Nat) (z1 : Nat) (z2 : Nat) (z3 : Nat) (z4 : Nat) (z5 : Nat) (z6 : Nat) (z7 : Nat) (z8 : Nat) (k0 : ClassId) (sz : Nat) : Met l yX3_order wsX3_order ({ frames := 1, cells := 0, slots := 0, locals := 22 }) (va_Pc [.ref h0, .int 0, .int 3] (fun U => U.heap.size = sz ∧ va_P (dC, dI) vwCl [(h0, .inr (7, [.ref h1, .ref z0, .ref z1, .ref z2, .ref z3, .ref z4, .int 0, .int 0, .int 0])), (h1, .inl (k0, 4, .inr (.inr (.inr (.inr (va_up (va_up (va_up (va_up (fun _ => none) 0 (some h2)) 1 (some h3)) 2 (some h4)) 3 (some h5))))))), (h2, .inr (6, [.ref z5, .int 0])), (h3, .inr (6, [.ref z6, .int 0])), (h4, .inr (6, [.ref z7, .int 0])), (h5, .inr (6, [.ref z8, .int 0]))] U.heap ∧ va_K (dC, dI) vwCl [(k0, .object "Rewriterope$Text")] U ∧ va_D (fun _ => True) [(h0, .inr (7, [.ref h1, .ref z0, .ref z1, .ref z2, .ref z3, .ref z4, .int 0, .int 0, .int 0])), (h1, .inl (k0, 4, .inr (.inr (.inr (.inr (va_up (va_up (va_up (va_up (fun _ => none) 0 (some h2)) 1 (some h3)) 2 (some h4)) 3 (some h5))))))), (h2, .inr (6, [.ref z5, .int 0])), (h3, .inr (6, [.ref z6, .int 0])), (h4, .inr (6, [.ref z7, .int 0])), (h5, .inr (6, [.ref z8, .int 0]))])) (va_Qi (fun (r : Int32) (_ : Unit) => r = 0) (fun (_ : Unit) (t : State) => va_P (dC, dI) vwCl [(h0, .inr (7, [.ref h1, .ref z0, .ref z1, .ref z2, .ref z3, .ref z4, .int 0, .int 0, .int 0])), (h1, .inl (k0, 4, .inr (.inr (.inr (.inr (va_up (va_up (va_up (va_up (fun _ => none) 0 (some h2)) 1 (some h3)) 2 (some h4)) 3 (some h5))))))), (h2, .inr (6, [.ref z5, .int 0])), (h3, .inr (6, [.ref z6, .int 0])), (h4, .inr (6, [.ref z7, .int 0])), (h5, .inr (6, [.ref z8, .int 0]))] t.heap ∧ va_K (dC, dI) vwCl [(k0, .object "Rewriterope$Text")] t ∧ va_D (va_A [(h0, .inr (7, [.ref h1, .ref z0, .ref z1, .ref z2, .ref z3, .ref z4, .int 0, .int 0, .int 0])), (h1, .inl (k0, 4, .inr (.inr (.inr (.inr (va_up (va_up (va_up (va_up (fun _ => none) 0 (some h2)) 1 (some h3)) 2 (some h4)) 3 (some h5))))))), (h2, .inr (6, [.ref z5, .int 0])), (h3, .inr (6, [.ref z6, .int 0])), (h4, .inr (6, [.ref z7, .int 0])), (h5, .inr (6, [.ref z8, .int 0]))] sz) [(h0, .inr (7, [.ref h1, .ref z0, .ref z1, .ref z2, .ref z3, .ref z4, .int 0, .int 0, .int 0])), (h1, .inl (k0, 4, .inr (.inr (.inr (.inr (va_up (va_up (va_up (va_up (fun _ => none) 0 (some h2)) 1 (some h3)) 2 (some h4)) 3 (some h5))))))), (h2, .inr (6, [.ref z5, .int 0])), (h3, .inr (6, [.ref z6, .int 0])), (h4, .inr (6, [.ref z7, .int 0])), (h5, .inr (6, [.ref z8, .int 0]))]) (va_A [(h0, .inr (7, [.ref h1, .ref z0, .ref z1, .ref z2, .ref z3, .ref z4, .int 0, .int 0, .int 0])), (h1, .inl (k0, 4, .inr (.inr (.inr (.inr (va_up (va_up (va_up (va_up (fun _ => none) 0 (some h2)) 1 (some h3)) 2 (some h4)) 3 (some h5))))))), (h2, .inr (6, [.ref z5, .int 0])), (h3, .inr (6, [.ref z6, .int 0])), (h4, .inr (6, [.ref z7, .int 0])), (h5, .inr (6, [.ref z8, .int 0]))] sz)) 0 0 (va_A [(h0, .inr (7, [.ref h1, .ref z0, .ref z1, .ref z2, .ref z3, .ref z4, .int 0, .int 0, .int 0])), (h1, .inl (k0, 4, .inr (.inr (.inr (.inr (va_up (va_up (va_up (va_up (fun _ => none) 0 (some h2)) 1 (some h3)) 2 (some h4)) 3 (some h5))))))), (h2, .inr (6, [.ref z5, .int 0])), (h3, .inr (6, [.ref z6, .int 0])), (h4, .inr (6, [.ref z7, .int 0])), (h5, .inr (6, [.ref z8, .int 0]))] sz) := by
  refine Met.ofW (cc := cX3_order) (maxL := 3) (ret := (some .int)) (by decide) rfl ?_
  intro p e s m args below meth c s₁ B hml hv
  obtain ⟨rfl, hsz, hP, hK, hD0⟩ := hv
  have hx := B.exec
  have hb := B.bytes
  have hr := B.returns
  have hts := atoms_spec (ws := wsX3_order) B.pre
  have hown : s.vm.findClass RX3 = some m.cls := findClass_of_methodNamed B.named
  have hlocks := B.notSynchronized
  subst hsz
  have hD := hD0.self (sz := s.heap.size)
  generalize hAe : va_A [(h0, .inr (7, [.ref h1, .ref z0, .ref z1, .ref z2, .ref z3, .ref z4, .int 0, .int 0, .int 0])), (h1, .inl (k0, 4, .inr (.inr (.inr (.inr (va_up (va_up (va_up (va_up (fun _ => none) 0 (some h2)) 1 (some h3)) 2 (some h4)) 3 (some h5))))))), (h2, .inr (6, [.ref z5, .int 0])), (h3, .inr (6, [.ref z6, .int 0])), (h4, .inr (6, [.ref z7, .int 0])), (h5, .inr (6, [.ref z8, .int 0]))] s.heap.size = A at hD ⊢
  have hA : ∀ q : Nat, s.heap.size ≤ q → A q := fun q h => by rw [← hAe]; exact Or.inr h
  have hS : va_S A s.heap s.heap [] := va_S.rf
  have hP : va_P (dC, dI) vwCl [(h0, .inr (7, [.ref h1, .ref z0, .ref z1, .ref z2, .ref z3, .ref z4, .int 0, .int 0, .int 0])), (h1, .inl (k0, 4, .inr (.inr (.inr (.inr (va_up (va_up (va_up (va_up (fun _ => none) 0 (some h2)) 1 (some h3)) 2 (some h4)) 3 (some h5))))))), (h2, .inr (6, [.ref z5, .int 0])), (h3, .inr (6, [.ref z6, .int 0])), (h4, .inr (6, [.ref z7, .int 0])), (h5, .inr (6, [.ref z8, .int 0]))] s.heap := hP
  have hl := lv_entry ([.ref h0, .int 0, .int 3]) (n := 3) (Nat.le_of_ble_eq_true rfl)
  rw [lg_entry_eq]
  generalize (lg_sl ([.ref h0, .int 0, .int 3]) ++ List.replicate (3 - (lg_sl ([.ref h0, .int 0, .int 3])).length) Slot.unset).toArray = ls at hl ⊢
  have hl : lv_has ls 3 [(0, .ref h0), (1, .int 0), (2, .int 3)] := hl
  refine lv_iload_n hx hb dX3_order_0 rfl (lv_at hl 1 rfl) ?_
  have hPc := hP.sub (ws' := []) [] rfl
  have hDc := hD.sub (ws' := []) [] (by decide) rfl
  have hKc := hK.sub (tys' := []) [] rfl
  have hFc := va_free (wc := []) hD hS hA [] rfl
  refine va_callv (va_runS (As := [.int 0]) (rest := []) ⟨hx, hb, hml, hown, hts⟩ (kx_X3_needRope_0 l dC dI s.heap.size) (cwS 1 hts gX3_order_X3_needRope rfl rfl rfl (by decide +kernel) ⟨Nat.le_of_ble_eq_true rfl, Nat.le_of_ble_eq_true rfl⟩) ⟨fun a U g mk q => by obtain ⟨q0, q1, qP, qK, qD⟩ := q; exact ⟨q0, q1, qP, va_K.moved (u := U) (U := U.calling g mk a) (Vm.Alike.refl U.vm) qK, qD⟩, fun U hU hW => ⟨rfl, by rw [hU], by rw [hU]; exact hPc, va_K.moved hW.alike hKc, hDc.weaken (fun _ _ _ _ => trivial)⟩⟩ rfl rfl hl.1 rfl (lv_room (Nat.le_of_ble_eq_true rfl)) dX3_order_1 ⟨Nat.le_of_ble_eq_true rfl, Nat.le_of_ble_eq_true rfl⟩) hS (fun q _ h => hFc q h) hFc (fun u t H1 locs ht hvm hw hB hz1 hk1 hS => ?_)
  obtain ⟨hP1, hK1, hD1⟩ := hB
  rw [ht] at hP1
  have hK1 := va_K.moved hvm.symm hK1
  obtain ⟨hP, hD⟩ := va_join (wr := [(h0, .inr (7, [.ref h1, .ref z0, .ref z1, .ref z2, .ref z3, .ref z4, .int 0, .int 0, .int 0])), (h1, .inl (k0, 4, .inr (.inr (.inr (.inr (va_up (va_up (va_up (va_up (fun _ => none) 0 (some h2)) 1 (some h3)) 2 (some h4)) 3 (some h5))))))), (h2, .inr (6, [.ref z5, .int 0])), (h3, .inr (6, [.ref z6, .int 0])), (h4, .inr (6, [.ref z7, .int 0])), (h5, .inr (6, [.ref z8, .int 0]))]) (w1 := []) hP hD [] [0, 1, 2, 3, 4, 5] rfl rfl (by decide) (by decide) hk1 hFc hP1 hD1
  generalize H1 = H at hP hS ⊢
  have hP : va_P (dC, dI) vwCl [(h0, .inr (7, [.ref h1, .ref z0, .ref z1, .ref z2, .ref z3, .ref z4, .int 0, .int 0, .int 0])), (h1, .inl (k0, 4, .inr (.inr (.inr (.inr (va_up (va_up (va_up (va_up (fun _ => none) 0 (some h2)) 1 (some h3)) 2 (some h4)) 3 (some h5))))))), (h2, .inr (6, [.ref z5, .int 0])), (h3, .inr (6, [.ref z6, .int 0])), (h4, .inr (6, [.ref z7, .int 0])), (h5, .inr (6, [.ref z8, .int 0]))] H := hP
  have hD : va_D A [(h0, .inr (7, [.ref h1, .ref z0, .ref z1, .ref z2, .ref z3, .ref z4, .int 0, .int 0, .int 0])), (h1, .inl (k0, 4, .inr (.inr (.inr (.inr (va_up (va_up (va_up (va_up (fun _ => none) 0 (some h2)) 1 (some h3)) 2 (some h4)) 3 (some h5))))))), (h2, .inr (6, [.ref z5, .int 0])), (h3, .inr (6, [.ref z6, .int 0])), (h4, .inr (6, [.ref z7, .int 0])), (h5, .inr (6, [.ref z8, .int 0]))] := hD
  refine lv_iload_n hx hb dX3_order_4 rfl (lv_at hl 2 rfl) ?_
  have hPc := hP.sub (ws' := []) [] rfl
  have hDc := hD.sub (ws' := []) [] (by decide) rfl
  have hKc := hK.sub (tys' := []) [] rfl
  have hFc := va_free (wc := []) hD hS hA [] rfl
  refine va_callv (va_runS (As := [.int 3]) (rest := []) ⟨hx, hb, hml, hown, hts⟩ (kx_X3_needRope_3 l dC dI H.size) (cwS 1 hts gX3_order_X3_needRope rfl rfl rfl (by decide +kernel) ⟨Nat.le_of_ble_eq_true rfl, Nat.le_of_ble_eq_true rfl⟩) ⟨fun a U g mk q => by obtain ⟨q0, q1, qP, qK, qD⟩ := q; exact ⟨q0, q1, qP, va_K.moved (u := U) (U := U.calling g mk a) (Vm.Alike.refl U.vm) qK, qD⟩, fun U hU hW => ⟨rfl, by rw [hU], by rw [hU]; exact hPc, va_K.moved hW.alike hKc, hDc.weaken (fun _ _ _ _ => trivial)⟩⟩ rfl rfl hl.1 rfl (lv_room (Nat.le_of_ble_eq_true rfl)) dX3_order_5 ⟨Nat.le_of_ble_eq_true rfl, Nat.le_of_ble_eq_true rfl⟩) hS (fun q _ h => hFc q h) hFc (fun u t H1 locs ht hvm hw hB hz1 hk1 hS => ?_)
  obtain ⟨hP1, hK1, hD1⟩ := hB
  rw [ht] at hP1
  have hK1 := va_K.moved hvm.symm hK1
  obtain ⟨hP, hD⟩ := va_join (wr := [(h0, .inr (7, [.ref h1, .ref z0, .ref z1, .ref z2, .ref z3, .ref z4, .int 0, .int 0, .int 0])), (h1, .inl (k0, 4, .inr (.inr (.inr (.inr (va_up (va_up (va_up (va_up (fun _ => none) 0 (some h2)) 1 (some h3)) 2 (some h4)) 3 (some h5))))))), (h2, .inr (6, [.ref z5, .int 0])), (h3, .inr (6, [.ref z6, .int 0])), (h4, .inr (6, [.ref z7, .int 0])), (h5, .inr (6, [.ref z8, .int 0]))]) (w1 := []) hP hD [] [0, 1, 2, 3, 4, 5] rfl rfl (by decide) (by decide) hk1 hFc hP1 hD1
  generalize H1 = H at hP hS ⊢
  have hP : va_P (dC, dI) vwCl [(h0, .inr (7, [.ref h1, .ref z0, .ref z1, .ref z2, .ref z3, .ref z4, .int 0, .int 0, .int 0])), (h1, .inl (k0, 4, .inr (.inr (.inr (.inr (va_up (va_up (va_up (va_up (fun _ => none) 0 (some h2)) 1 (some h3)) 2 (some h4)) 3 (some h5))))))), (h2, .inr (6, [.ref z5, .int 0])), (h3, .inr (6, [.ref z6, .int 0])), (h4, .inr (6, [.ref z7, .int 0])), (h5, .inr (6, [.ref z8, .int 0]))] H := hP
  have hD : va_D A [(h0, .inr (7, [.ref h1, .ref z0, .ref z1, .ref z2, .ref z3, .ref z4, .int 0, .int 0, .int 0])), (h1, .inl (k0, 4, .inr (.inr (.inr (.inr (va_up (va_up (va_up (va_up (fun _ => none) 0 (some h2)) 1 (some h3)) 2 (some h4)) 3 (some h5))))))), (h2, .inr (6, [.ref z5, .int 0])), (h3, .inr (6, [.ref z6, .int 0])), (h4, .inr (6, [.ref z7, .int 0])), (h5, .inr (6, [.ref z8, .int 0]))] := hD
  refine lv_aload_n hx hb dX3_order_8 rfl (lv_at hl 0 rfl) ?_
  refine va_get (D := (dC, dI)) (ci := 7) (v := .ref h1) (C := RX3) (T := TX3) (N := 9) hx hb hts (by decide +kernel) hown hK hP 0 rfl rfl 0 (by decide) (hts (.fieldLink RX3 11 "Rewriterope" "ropes" "[LRewriterope$Text;") (by decide +kernel)) (fun _ h9 => h9) rfl dX3_order_9 ?_
  refine lv_iload_n hx hb dX3_order_12 rfl (lv_at hl 1 rfl) ?_
  refine va_aldq (D := (dC, dI)) hx hb hK hP 1 0 rfl rfl (by unfold vp_in; decide) dX3_order_13 ?_
  refine W.eq (g2 := F0 m 14 ls [.ref h2]) rfl ?_
  refine lv_aload_n hx hb dX3_order_14 rfl (lv_at hl 0 rfl) ?_
  refine va_get (D := (dC, dI)) (ci := 7) (v := .ref h1) (C := RX3) (T := TX3) (N := 9) hx hb hts (by decide +kernel) hown hK hP 0 rfl rfl 0 (by decide) (hts (.fieldLink RX3 11 "Rewriterope" "ropes" "[LRewriterope$Text;") (by decide +kernel)) (fun _ h9 => h9) rfl dX3_order_15 ?_
  refine lv_iload_n hx hb dX3_order_18 rfl (lv_at hl 2 rfl) ?_
  refine va_aldq (D := (dC, dI)) hx hb hK hP 1 0 rfl rfl (by unfold vp_in; decide) dX3_order_19 ?_
  refine W.eq (g2 := F0 m 20 ls [.ref h5, .ref h2]) rfl ?_
  have hPc := hP.sub (ws' := [(h2, .inr (6, [.ref z5, .int 0])), (h5, .inr (6, [.ref z8, .int 0]))]) [2, 5] rfl
  have hDc := hD.sub (ws' := [(h2, .inr (6, [.ref z5, .int 0])), (h5, .inr (6, [.ref z8, .int 0]))]) [2, 5] (by decide) rfl
  have hKc := hK.sub (tys' := []) [] rfl
  have hFc := va_free (wc := [(h2, .inr (6, [.ref z5, .int 0])), (h5, .inr (6, [.ref z8, .int 0]))]) hD hS hA [2, 5] rfl
  refine va_calli (va_runV (As := [.ref h5]) (rest := []) ⟨hx, hb, hml, hown, hts⟩ (kx_X2_compareWith_1 l dC dI h2 h5 z5 z8 H.size) (cwV 1 hts gX3_order_X2_compareWith rfl rfl rfl (by decide +kernel) ⟨Nat.le_of_ble_eq_true rfl, Nat.le_of_ble_eq_true rfl⟩) ⟨fun a U g mk q => by obtain ⟨q0, q1, qP, qK, qD⟩ := q; exact ⟨q0, q1, qP, va_K.moved (u := U) (U := U.calling g mk a) (Vm.Alike.refl U.vm) qK, qD⟩, va_recv hKc hPc (ci := 6) (q0 := 0) rfl rfl, fun U hU hW => ⟨rfl, by rw [hU], by rw [hU]; exact hPc, va_K.moved hW.alike hKc, hDc.weaken (fun _ _ _ _ => trivial)⟩⟩ rfl rfl hl.1 rfl (lv_room (Nat.le_of_ble_eq_true rfl)) dX3_order_20 ⟨Nat.le_of_ble_eq_true rfl, Nat.le_of_ble_eq_true rfl⟩) hS (fun q _ h => hFc q h) hFc (fun r9 u t H1 locs ht hvm hw hB hz1 hk1 hS => ?_)
  obtain rfl := hw
  obtain ⟨hP1, hK1, hD1⟩ := hB
  rw [ht] at hP1
  have hK1 := va_K.moved hvm.symm hK1
  obtain ⟨hP, hD⟩ := va_join (wr := [(h0, .inr (7, [.ref h1, .ref z0, .ref z1, .ref z2, .ref z3, .ref z4, .int 0, .int 0, .int 0])), (h1, .inl (k0, 4, .inr (.inr (.inr (.inr (va_up (va_up (va_up (va_up (fun _ => none) 0 (some h2)) 1 (some h3)) 2 (some h4)) 3 (some h5))))))), (h3, .inr (6, [.ref z6, .int 0])), (h4, .inr (6, [.ref z7, .int 0]))]) (w1 := [(h2, .inr (6, [.ref z5, .int 0])), (h5, .inr (6, [.ref z8, .int 0]))]) hP hD [2, 5] [0, 1, 3, 4] rfl rfl (by decide) (by decide) hk1 hFc hP1 hD1
  generalize H1 = H at hP hS ⊢
  have hP : va_P (dC, dI) vwCl [(h0, .inr (7, [.ref h1, .ref z0, .ref z1, .ref z2, .ref z3, .ref z4, .int 0, .int 0, .int 0])), (h1, .inl (k0, 4, .inr (.inr (.inr (.inr (va_up (va_up (va_up (va_up (fun _ => none) 0 (some h2)) 1 (some h3)) 2 (some h4)) 3 (some h5))))))), (h3, .inr (6, [.ref z6, .int 0])), (h4, .inr (6, [.ref z7, .int 0])), (h2, .inr (6, [.ref z5, .int 0])), (h5, .inr (6, [.ref z8, .int 0]))] H := hP
  have hD : va_D A [(h0, .inr (7, [.ref h1, .ref z0, .ref z1, .ref z2, .ref z3, .ref z4, .int 0, .int 0, .int 0])), (h1, .inl (k0, 4, .inr (.inr (.inr (.inr (va_up (va_up (va_up (va_up (fun _ => none) 0 (some h2)) 1 (some h3)) 2 (some h4)) 3 (some h5))))))), (h3, .inr (6, [.ref z6, .int 0])), (h4, .inr (6, [.ref z7, .int 0])), (h2, .inr (6, [.ref z5, .int 0])), (h5, .inr (6, [.ref z8, .int 0]))] := hD
  have hP := hP.sub (ws' := [(h0, .inr (7, [.ref h1, .ref z0, .ref z1, .ref z2, .ref z3, .ref z4, .int 0, .int 0, .int 0])), (h1, .inl (k0, 4, .inr (.inr (.inr (.inr (va_up (va_up (va_up (va_up (fun _ => none) 0 (some h2)) 1 (some h3)) 2 (some h4)) 3 (some h5))))))), (h2, .inr (6, [.ref z5, .int 0])), (h3, .inr (6, [.ref z6, .int 0])), (h4, .inr (6, [.ref z7, .int 0])), (h5, .inr (6, [.ref z8, .int 0]))]) [0, 1, 4, 2, 3, 5] rfl
  have hD := hD.sub (ws' := [(h0, .inr (7, [.ref h1, .ref z0, .ref z1, .ref z2, .ref z3, .ref z4, .int 0, .int 0, .int 0])), (h1, .inl (k0, 4, .inr (.inr (.inr (.inr (va_up (va_up (va_up (va_up (fun _ => none) 0 (some h2)) 1 (some h3)) 2 (some h4)) 3 (some h5))))))), (h2, .inr (6, [.ref z5, .int 0])), (h3, .inr (6, [.ref z6, .int 0])), (h4, .inr (6, [.ref z7, .int 0])), (h5, .inr (6, [.ref z8, .int 0]))]) [0, 1, 4, 2, 3, 5] (by decide) rfl
  exact W.iret (v := 0) hx hb hr (fun t ht hW => ⟨⟨0, (), rfl, rfl, by rw [ht]; exact hP, va_K.moved hW.alike hK, hD⟩, hS.F ht⟩) hS.2.2 dX3_order_23
set_option maxHeartbeats 4000000 in
set_option maxRecDepth 100000 in
theorem kx_X3_order_s0 (l : Launch) (dC : Nat → ClassId) (dI : Nat → Nat → Nat) (h0 : Nat) (h1 : Nat) (h2 : Nat) (h3 : Nat) (h4 : Nat) (h5 : Nat) (z0 : Nat) (z1 : Nat) (z2 : Nat) (z3 : Nat) (z4 : Nat) (z5 : Nat) (z6 : Nat) (z7 : Nat) (z8 : Nat) (k0 : ClassId) (sz : Nat) (j0 : Int32) (j0_l : (0 : Int) ≤ j0.toInt) (j0_u : j0.toInt ≤ (3 : Int)) : Met l yX3_order wsX3_order ({ frames := 1, cells := 0, slots := 0, locals := 22 }) (va_Pc [.ref h0, .int 0, .int j0] (fun U => U.heap.size = sz ∧ va_P (dC, dI) vwCl [(h0, .inr (7, [.ref h1, .ref z0, .ref z1, .ref z2, .ref z3, .ref z4, .int 0, .int 0, .int 0])), (h1, .inl (k0, 4, .inr (.inr (.inr (.inr (va_up (va_up (va_up (va_up (fun _ => none) 0 (some h2)) 1 (some h3)) 2 (some h4)) 3 (some h5))))))), (h2, .inr (6, [.ref z5, .int 0])), (h3, .inr (6, [.ref z6, .int 0])), (h4, .inr (6, [.ref z7, .int 0])), (h5, .inr (6, [.ref z8, .int 0]))] U.heap ∧ va_K (dC, dI) vwCl [(k0, .object "Rewriterope$Text")] U ∧ va_D (fun _ => True) [(h0, .inr (7, [.ref h1, .ref z0, .ref z1, .ref z2, .ref z3, .ref z4, .int 0, .int 0, .int 0])), (h1, .inl (k0, 4, .inr (.inr (.inr (.inr (va_up (va_up (va_up (va_up (fun _ => none) 0 (some h2)) 1 (some h3)) 2 (some h4)) 3 (some h5))))))), (h2, .inr (6, [.ref z5, .int 0])), (h3, .inr (6, [.ref z6, .int 0])), (h4, .inr (6, [.ref z7, .int 0])), (h5, .inr (6, [.ref z8, .int 0]))])) (va_Qi (fun (r : Int32) (_ : Unit) => r = 0) (fun (_ : Unit) (t : State) => va_P (dC, dI) vwCl [(h0, .inr (7, [.ref h1, .ref z0, .ref z1, .ref z2, .ref z3, .ref z4, .int 0, .int 0, .int 0])), (h1, .inl (k0, 4, .inr (.inr (.inr (.inr (va_up (va_up (va_up (va_up (fun _ => none) 0 (some h2)) 1 (some h3)) 2 (some h4)) 3 (some h5))))))), (h2, .inr (6, [.ref z5, .int 0])), (h3, .inr (6, [.ref z6, .int 0])), (h4, .inr (6, [.ref z7, .int 0])), (h5, .inr (6, [.ref z8, .int 0]))] t.heap ∧ va_K (dC, dI) vwCl [(k0, .object "Rewriterope$Text")] t ∧ va_D (va_A [(h0, .inr (7, [.ref h1, .ref z0, .ref z1, .ref z2, .ref z3, .ref z4, .int 0, .int 0, .int 0])), (h1, .inl (k0, 4, .inr (.inr (.inr (.inr (va_up (va_up (va_up (va_up (fun _ => none) 0 (some h2)) 1 (some h3)) 2 (some h4)) 3 (some h5))))))), (h2, .inr (6, [.ref z5, .int 0])), (h3, .inr (6, [.ref z6, .int 0])), (h4, .inr (6, [.ref z7, .int 0])), (h5, .inr (6, [.ref z8, .int 0]))] sz) [(h0, .inr (7, [.ref h1, .ref z0, .ref z1, .ref z2, .ref z3, .ref z4, .int 0, .int 0, .int 0])), (h1, .inl (k0, 4, .inr (.inr (.inr (.inr (va_up (va_up (va_up (va_up (fun _ => none) 0 (some h2)) 1 (some h3)) 2 (some h4)) 3 (some h5))))))), (h2, .inr (6, [.ref z5, .int 0])), (h3, .inr (6, [.ref z6, .int 0])), (h4, .inr (6, [.ref z7, .int 0])), (h5, .inr (6, [.ref z8, .int 0]))]) (va_A [(h0, .inr (7, [.ref h1, .ref z0, .ref z1, .ref z2, .ref z3, .ref z4, .int 0, .int 0, .int 0])), (h1, .inl (k0, 4, .inr (.inr (.inr (.inr (va_up (va_up (va_up (va_up (fun _ => none) 0 (some h2)) 1 (some h3)) 2 (some h4)) 3 (some h5))))))), (h2, .inr (6, [.ref z5, .int 0])), (h3, .inr (6, [.ref z6, .int 0])), (h4, .inr (6, [.ref z7, .int 0])), (h5, .inr (6, [.ref z8, .int 0]))] sz)) 0 0 (va_A [(h0, .inr (7, [.ref h1, .ref z0, .ref z1, .ref z2, .ref z3, .ref z4, .int 0, .int 0, .int 0])), (h1, .inl (k0, 4, .inr (.inr (.inr (.inr (va_up (va_up (va_up (va_up (fun _ => none) 0 (some h2)) 1 (some h3)) 2 (some h4)) 3 (some h5))))))), (h2, .inr (6, [.ref z5, .int 0])), (h3, .inr (6, [.ref z6, .int 0])), (h4, .inr (6, [.ref z7, .int 0])), (h5, .inr (6, [.ref z8, .int 0]))] sz) := by
  have e9 : j0 = 0 ∨ j0 = 1 ∨ j0 = 2 ∨ j0 = 3 := by
    have h9 : j0.toInt = 0 ∨ j0.toInt = 1 ∨ j0.toInt = 2 ∨ j0.toInt = 3 := by omega
    rcases h9 with h9 | h9 | h9 | h9
    · exact Or.inl (Int32.toInt_inj.mp (h9.trans (by decide)))
    · exact Or.inr (Or.inl (Int32.toInt_inj.mp (h9.trans (by decide))))
    · exact Or.inr (Or.inr (Or.inl (Int32.toInt_inj.mp (h9.trans (by decide)))))
    · exact Or.inr (Or.inr (Or.inr (Int32.toInt_inj.mp (h9.trans (by decide)))))
  rcases e9 with rfl | rfl | rfl | rfl
  · exact kx_X3_order_0 l dC dI h0 h1 h2 h3 h4 h5 z0 z1 z2 z3 z4 z5 z6 z7 z8 k0 sz
  · exact kx_X3_order_1 l dC dI h0 h1 h2 h3 h4 h5 z0 z1 z2 z3 z4 z5 z6 z7 z8 k0 sz
  · exact kx_X3_order_2 l dC dI h0 h1 h2 h3 h4 h5 z0 z1 z2 z3 z4 z5 z6 z7 z8 k0 sz
  · exact kx_X3_order_3 l dC dI h0 h1 h2 h3 h4 h5 z0 z1 z2 z3 z4 z5 z6 z7 z8 k0 sz
