set_option maxHeartbeats 4000000 in
set_option maxRecDepth 100000 in
theorem kx_Jxa1e45_init_da8c8_0 (l : Launch) (dC : Nat → ClassId) (dI : Nat → Nat → Nat) (h0 : Nat) (sz : Nat) : Met l yJxa1e45_init_da8c8 wsJxa1e45_init_da8c8 ({ frames := 1, cells := 0, slots := 0, locals := 12 }) (va_Pc [.ref h0] (fun U => U.heap.size = sz ∧ va_P (dC, dI) vwCl [(h0, .inr (3, [.int 0, .null, .int 0]))] U.heap ∧ va_K (dC, dI) vwCl [] U ∧ va_D (fun _ => True) [(h0, .inr (3, [.int 0, .null, .int 0]))])) (va_Qv (fun _ : Unit => True) (fun (_ : Unit) (t : State) => va_P (dC, dI) vwCl [(h0, .inr (3, [.int 0, .null, .int 0]))] t.heap ∧ va_K (dC, dI) vwCl [] t ∧ va_D (va_A [(h0, .inr (3, [.int 0, .null, .int 0]))] sz) [(h0, .inr (3, [.int 0, .null, .int 0]))]) (va_A [(h0, .inr (3, [.int 0, .null, .int 0]))] sz)) 0 0 (va_A [(h0, .inr (3, [.int 0, .null, .int 0]))] sz) := by
  refine Met.ofW (cc := cJxa1e45_init_da8c8) (maxL := 1) (ret := none) (by decide) rfl ?_
  intro p e s m args below meth c s₁ B hml hv
  obtain ⟨rfl, hsz, hP, hK, hD0⟩ := hv
  have hx := B.exec
  have hb := B.bytes
  have hr := B.returns
  have hts := atoms_spec (ws := wsJxa1e45_init_da8c8) B.pre
  have hown : s.vm.findClass RJxa1e45 = some m.cls := findClass_of_methodNamed B.named
  have hlocks := B.notSynchronized
  have hin : meth.name = "<init>" := (name_of_methodNamed B.named B.method).1
  subst hsz
  have hD := hD0.self (sz := s.heap.size)
  generalize hAe : va_A [(h0, .inr (3, [.int 0, .null, .int 0]))] s.heap.size = A at hD ⊢
  have hA : ∀ q : Nat, s.heap.size ≤ q → A q := fun q h => by rw [← hAe]; exact Or.inr h
  have hS : va_S A s.heap s.heap [] := va_S.rf
  have hP : va_P (dC, dI) vwCl [(h0, .inr (3, [.int 0, .null, .int 0]))] s.heap := hP
  have hl := lv_entry ([.ref h0]) (n := 1) (Nat.le_of_ble_eq_true rfl)
  rw [lg_entry_eq]
  generalize (lg_sl ([.ref h0]) ++ List.replicate (1 - (lg_sl ([.ref h0])).length) Slot.unset).toArray = ls at hl ⊢
  have hl : lv_has ls 1 [(0, .ref h0)] := hl
  refine lv_aload_n hx hb dJxa1e45_init_da8c8_0 rfl (lv_at hl 0 rfl) ?_
  refine W.objInit hx hb hown (hts (.methodLink RJxa1e45 1 objectInit) (by decide +kernel)) (hts (.instanceMethod objectInit) (by decide +kernel)) (hts (.code objectInit ⟨#[0xb1]⟩ 1 none) (by decide +kernel)) rfl (by rw [hml]; exact hl.1) rfl dJxa1e45_init_da8c8_1 (Nat.le_of_ble_eq_true rfl) (Nat.le_of_ble_eq_true rfl) ?_
  refine W.eq (g2 := F0 m 4 ls []) rfl ?_
  exact W.vret hx hb hr (fun t ht hW => ⟨⟨(), rfl, trivial, by rw [ht]; exact hP, va_K.moved hW.alike hK, hD⟩, hS.F ht⟩) hS.2.2 dJxa1e45_init_da8c8_4
set_option maxHeartbeats 4000000 in
set_option maxRecDepth 100000 in
theorem kx_Jxc12de_init_da8c8_0 (l : Launch) (dC : Nat → ClassId) (dI : Nat → Nat → Nat) (h0 : Nat) (sz : Nat) : Met l yJxc12de_init_da8c8 wsJxc12de_init_da8c8 ({ frames := 2, cells := 0, slots := 0, locals := 32 }) (va_Pc [.ref h0] (fun U => U.heap.size = sz ∧ va_P (dC, dI) vwCl [(h0, .inr (3, [.int 0, .null, .int 0]))] U.heap ∧ va_K (dC, dI) vwCl [] U ∧ va_D (fun _ => True) [(h0, .inr (3, [.int 0, .null, .int 0]))])) (va_Qv (fun _ : Unit => True) (fun (_ : Unit) (t : State) => va_P (dC, dI) vwCl [(h0, .inr (3, [.int 0, .null, .int 0]))] t.heap ∧ va_K (dC, dI) vwCl [] t ∧ va_D (va_A [(h0, .inr (3, [.int 0, .null, .int 0]))] sz) [(h0, .inr (3, [.int 0, .null, .int 0]))]) (va_A [(h0, .inr (3, [.int 0, .null, .int 0]))] sz)) 0 0 (va_A [(h0, .inr (3, [.int 0, .null, .int 0]))] sz) := by
  refine Met.ofW (cc := cJxc12de_init_da8c8) (maxL := 1) (ret := none) (by decide) rfl ?_
  intro p e s m args below meth c s₁ B hml hv
  obtain ⟨rfl, hsz, hP, hK, hD0⟩ := hv
  have hx := B.exec
  have hb := B.bytes
  have hr := B.returns
  have hts := atoms_spec (ws := wsJxc12de_init_da8c8) B.pre
  have hown : s.vm.findClass RJxc12de = some m.cls := findClass_of_methodNamed B.named
  have hlocks := B.notSynchronized
  have hin : meth.name = "<init>" := (name_of_methodNamed B.named B.method).1
  subst hsz
  have hD := hD0.self (sz := s.heap.size)
  generalize hAe : va_A [(h0, .inr (3, [.int 0, .null, .int 0]))] s.heap.size = A at hD ⊢
  have hA : ∀ q : Nat, s.heap.size ≤ q → A q := fun q h => by rw [← hAe]; exact Or.inr h
  have hS : va_S A s.heap s.heap [] := va_S.rf
  have hP : va_P (dC, dI) vwCl [(h0, .inr (3, [.int 0, .null, .int 0]))] s.heap := hP
  have hl := lv_entry ([.ref h0]) (n := 1) (Nat.le_of_ble_eq_true rfl)
  rw [lg_entry_eq]
  generalize (lg_sl ([.ref h0]) ++ List.replicate (1 - (lg_sl ([.ref h0])).length) Slot.unset).toArray = ls at hl ⊢
  have hl : lv_has ls 1 [(0, .ref h0)] := hl
  refine lv_aload_n hx hb dJxc12de_init_da8c8_0 rfl (lv_at hl 0 rfl) ?_
  have hPc := hP.sub (ws' := [(h0, .inr (3, [.int 0, .null, .int 0]))]) [0] rfl
  have hDc := hD.sub (ws' := [(h0, .inr (3, [.int 0, .null, .int 0]))]) [0] (by decide) rfl
  have hKc := hK.sub (tys' := []) [] rfl
  have hFc := va_free (wc := [(h0, .inr (3, [.int 0, .null, .int 0]))]) hD hS hA [0] rfl
  refine va_callv (va_runI (As := []) (rest := []) ⟨hx, hb, hml, hown, hts⟩ (kx_Jxa1e45_init_da8c8_0 l dC dI h0 s.heap.size) (cwI 0 hts gJxc12de_init_da8c8_Jxa1e45_init_da8c8 rfl rfl rfl (hts (.initialized RJxa1e45) (by decide +kernel)) (hts (.methodLink RJxc12de 1 yJxa1e45_init_da8c8) (by decide +kernel)) (hts (.instanceMethod yJxa1e45_init_da8c8) (by decide +kernel)) rfl (by decide +kernel) ⟨Nat.le_of_ble_eq_true rfl, Nat.le_of_ble_eq_true rfl⟩) ⟨fun a U g mk q => by obtain ⟨q0, q1, qP, qK, qD⟩ := q; exact ⟨q0, q1, qP, va_K.moved (u := U) (U := U.calling g mk a) (Vm.Alike.refl U.vm) qK, qD⟩, fun U hU hW => ⟨rfl, by rw [hU], by rw [hU]; exact hPc, va_K.moved hW.alike hKc, hDc.weaken (fun _ _ _ _ => trivial)⟩⟩ rfl rfl hl.1 rfl (lv_room (Nat.le_of_ble_eq_true rfl)) dJxc12de_init_da8c8_1 ⟨Nat.le_of_ble_eq_true rfl, Nat.le_of_ble_eq_true rfl⟩) hS (fun q _ h => hFc q h) hFc (fun u t H1 locs ht hvm hw hB hz1 hk1 hS => ?_)
  obtain ⟨hP1, hK1, hD1⟩ := hB
  rw [ht] at hP1
  have hK1 := va_K.moved hvm.symm hK1
  obtain ⟨hP, hD⟩ := va_join (wr := []) (w1 := [(h0, .inr (3, [.int 0, .null, .int 0]))]) hP hD [0] [] rfl rfl (by decide) (by decide) hk1 hFc hP1 hD1
  generalize H1 = H at hP hS ⊢
  have hP : va_P (dC, dI) vwCl [(h0, .inr (3, [.int 0, .null, .int 0]))] H := hP
  have hD : va_D A [(h0, .inr (3, [.int 0, .null, .int 0]))] := hD
  refine lv_aload_n hx hb dJxc12de_init_da8c8_4 rfl (lv_at hl 0 rfl) ?_
  refine lv_iconst (v := 0) hx hb dJxc12de_init_da8c8_5 (by decide) ?_
  refine va_put (D := (dC, dI)) (ci := 3) (v := .int 0) (ty := .int) (C := RJx4a65c) (T := TJx4a65c) (N := 3) hx hb hts (by decide +kernel) tyJx4a65c tyJx4a65c_ok nmJx4a65c hown hK hP hD hS 0 rfl rfl 0 (by decide) (hts (.fieldLink RJxc12de 7 "java/util/AbstractList" "modCount" "I") (by decide +kernel)) (fun _ h9 => h9) rfl (by decide +kernel) rfl rfl (Nat.le_of_ble_eq_true rfl) dJxc12de_init_da8c8_6 (fun H locs hP hD hS => ?_)
  have hP : va_P (dC, dI) vwCl [(h0, .inr (3, [.int 0, .null, .int 0]))] H := hP
  have hD : va_D A [(h0, .inr (3, [.int 0, .null, .int 0]))] := hD
  exact W.vret hx hb hr (fun t ht hW => ⟨⟨(), rfl, trivial, by rw [ht]; exact hP, va_K.moved hW.alike hK, hD⟩, hS.F ht⟩) hS.2.2 dJxc12de_init_da8c8_9
set_option maxHeartbeats 4000000 in
set_option maxRecDepth 100000 in
theorem kx_Jx4a65c_init_da8c8_0 (l : Launch) (dC : Nat → ClassId) (dI : Nat → Nat → Nat) (ge5 gea gv5 gva gde gic gi0 : Nat) (h0 : Nat) (sz : Nat) : Met l yJx4a65c_init_da8c8 wsJx4a65c_init_da8c8 ({ frames := 3, cells := 0, slots := 0, locals := 52 }) (va_Pc [.ref h0] (fun U => U.heap.size = sz ∧ va_P (dC, dI) vwCl [(h0, .inr (3, [.int 0, .null, .int 0]))] U.heap ∧ va_K (dC, dI) vwCl [] U ∧ va_D (fun _ => True) [(h0, .inr (3, [.int 0, .null, .int 0]))] ∧ gv ge5 gea gv5 gva gde gic gi0 (va_A [(h0, .inr (3, [.int 0, .null, .int 0]))] sz) U U.heap)) (va_Qv (fun _ : Unit => True) (fun (_ : Unit) (t : State) => va_P (dC, dI) vwCl [(h0, .inr (3, [.int 0, .ref gde, .int 0]))] t.heap ∧ va_K (dC, dI) vwCl [] t ∧ va_D (va_A [(h0, .inr (3, [.int 0, .null, .int 0]))] sz) [(h0, .inr (3, [.int 0, .ref gde, .int 0]))]) (va_A [(h0, .inr (3, [.int 0, .null, .int 0]))] sz)) 0 0 (va_A [(h0, .inr (3, [.int 0, .null, .int 0]))] sz) := by
  refine Met.ofW (cc := cJx4a65c_init_da8c8) (maxL := 1) (ret := none) (by decide) rfl ?_
  intro p e s m args below meth c s₁ B hml hv
  obtain ⟨rfl, hsz, hP, hK, hD0, hG⟩ := hv
  have hx := B.exec
  have hb := B.bytes
  have hr := B.returns
  have hts := atoms_spec (ws := wsJx4a65c_init_da8c8) B.pre
  have hown : s.vm.findClass RJx4a65c = some m.cls := findClass_of_methodNamed B.named
  have hlocks := B.notSynchronized
  have hin : meth.name = "<init>" := (name_of_methodNamed B.named B.method).1
  subst hsz
  have hD := hD0.self (sz := s.heap.size)
  generalize hAe : va_A [(h0, .inr (3, [.int 0, .null, .int 0]))] s.heap.size = A at hD hG ⊢
  obtain ⟨⟨g_AO_Text, g_AO_String, g_AO_Object, g_nm_RX1_20, g_nm_RX0_17, g_nm_RX3_31, g_nm_RX2_44, g_nm_RL_121, g_nf_RL_13, g_nf_RL_47, g_ca_IO, g_ca_IA, g_ca_IS, g_ca_IntObj, g_ca_StrObj, g_de_RT, g_de_EX, g_de_TH, g_nc_IA_IO, g_nc_IS_IO, g_nc_IS_IA⟩, ⟨g_s3, g_s5, g_sa, g_x278, g_x280, g_x282, g_x284, g_x286, g_x180, g_x238, g_x250⟩, ⟨g_o5, g_c5, g_v5, g_t5, g_oa, g_ca, g_va, g_ta, g_zc, g_zd, g_td, g_zf, g_zU, g_zN, g_zh, g_zk, g_tk, g_oi, g_vi⟩⟩ := id hG
  have hA : ∀ q : Nat, s.heap.size ≤ q → A q := fun q h => by rw [← hAe]; exact Or.inr h
  have hS : va_S A s.heap s.heap [] := va_S.rf
  have hP : va_P (dC, dI) vwCl [(h0, .inr (3, [.int 0, .null, .int 0]))] s.heap := hP
  have hl := lv_entry ([.ref h0]) (n := 1) (Nat.le_of_ble_eq_true rfl)
  rw [lg_entry_eq]
  generalize (lg_sl ([.ref h0]) ++ List.replicate (1 - (lg_sl ([.ref h0])).length) Slot.unset).toArray = ls at hl ⊢
  have hl : lv_has ls 1 [(0, .ref h0)] := hl
  refine lv_aload_n hx hb dJx4a65c_init_da8c8_0 rfl (lv_at hl 0 rfl) ?_
  have hPc := hP.sub (ws' := [(h0, .inr (3, [.int 0, .null, .int 0]))]) [0] rfl
  have hDc := hD.sub (ws' := [(h0, .inr (3, [.int 0, .null, .int 0]))]) [0] (by decide) rfl
  have hKc := hK.sub (tys' := []) [] rfl
  have hFc := va_free (wc := [(h0, .inr (3, [.int 0, .null, .int 0]))]) hD hS hA [0] rfl
  refine va_callv (va_runI (As := []) (rest := []) ⟨hx, hb, hml, hown, hts⟩ (kx_Jxc12de_init_da8c8_0 l dC dI h0 s.heap.size) (cwI 0 hts gJx4a65c_init_da8c8_Jxc12de_init_da8c8 rfl rfl rfl (hts (.initialized RJxc12de) (by decide +kernel)) (hts (.methodLink RJx4a65c 1 yJxc12de_init_da8c8) (by decide +kernel)) (hts (.instanceMethod yJxc12de_init_da8c8) (by decide +kernel)) rfl (by decide +kernel) ⟨Nat.le_of_ble_eq_true rfl, Nat.le_of_ble_eq_true rfl⟩) ⟨fun a U g mk q => by obtain ⟨q0, q1, qP, qK, qD⟩ := q; exact ⟨q0, q1, qP, va_K.moved (u := U) (U := U.calling g mk a) (Vm.Alike.refl U.vm) qK, qD⟩, fun U hU hW => ⟨rfl, by rw [hU], by rw [hU]; exact hPc, va_K.moved hW.alike hKc, hDc.weaken (fun _ _ _ _ => trivial)⟩⟩ rfl rfl hl.1 rfl (lv_room (Nat.le_of_ble_eq_true rfl)) dJx4a65c_init_da8c8_1 ⟨Nat.le_of_ble_eq_true rfl, Nat.le_of_ble_eq_true rfl⟩) hS (fun q _ h => hFc q h) hFc (fun u t H1 locs ht hvm hw hB hz1 hk1 hS => ?_)
  obtain ⟨hP1, hK1, hD1⟩ := hB
  rw [ht] at hP1
  have hK1 := va_K.moved hvm.symm hK1
  obtain ⟨hP, hD⟩ := va_join (wr := []) (w1 := [(h0, .inr (3, [.int 0, .null, .int 0]))]) hP hD [0] [] rfl rfl (by decide) (by decide) hk1 hFc hP1 hD1
  generalize H1 = H at hP hS ⊢
  have hP : va_P (dC, dI) vwCl [(h0, .inr (3, [.int 0, .null, .int 0]))] H := hP
  have hD : va_D A [(h0, .inr (3, [.int 0, .null, .int 0]))] := hD
  refine lv_aload_n hx hb dJx4a65c_init_da8c8_4 rfl (lv_at hl 0 rfl) ?_
  refine va_gets (v := .ref gde) hx hb g_zd hS hown (hts (.fieldLink RJx4a65c 39 "java/util/ArrayList" "DEFAULTCAPACITY_EMPTY_ELEMENTDATA" "[Ljava/lang/Object;") (by decide +kernel)) (fun _ h9 => h9) dJx4a65c_init_da8c8_5 ?_
  refine va_put (D := (dC, dI)) (ci := 3) (v := .ref gde) (ty := .array (.object "java/lang/Object")) (C := RJx4a65c) (T := TJx4a65c) (N := 3) hx hb hts (by decide +kernel) tyJx4a65c tyJx4a65c_ok nmJx4a65c hown hK hP hD hS 0 rfl rfl 1 (by decide) (hts (.fieldLink RJx4a65c 9 "java/util/ArrayList" "elementData" "[Ljava/lang/Object;") (by decide +kernel)) (fun _ h9 => h9) rfl (by decide +kernel) rfl rfl (Nat.le_of_ble_eq_true rfl) dJx4a65c_init_da8c8_8 (fun H locs hP hD hS => ?_)
  have hP : va_P (dC, dI) vwCl [(h0, .inr (3, [.int 0, .ref gde, .int 0]))] H := hP
  have hD : va_D A [(h0, .inr (3, [.int 0, .ref gde, .int 0]))] := hD
  exact W.vret hx hb hr (fun t ht hW => ⟨⟨(), rfl, trivial, by rw [ht]; exact hP, va_K.moved hW.alike hK, hD⟩, hS.F ht⟩) hS.2.2 dJx4a65c_init_da8c8_11
set_option maxHeartbeats 4000000 in
set_option maxRecDepth 100000 in
theorem kx_X3_needRope_0 (l : Launch) (dC : Nat → ClassId) (dI : Nat → Nat → Nat) (sz : Nat) (i0 : Int32) (i0_l : (0 : Int) ≤ i0.toInt) (i0_u : i0.toInt ≤ (3 : Int)) : Met l yX3_needRope wsX3_needRope ({ frames := 0, cells := 0, slots := 0, locals := 0 }) (va_Pc [.int i0] (fun U => U.heap.size = sz ∧ va_P (dC, dI) vwCl [] U.heap ∧ va_K (dC, dI) vwCl [] U ∧ va_D (fun _ => True) [])) (va_Qv (fun _ : Unit => True) (fun (_ : Unit) (t : State) => va_P (dC, dI) vwCl [] t.heap ∧ va_K (dC, dI) vwCl [] t ∧ va_D (va_A [] sz) []) (va_A [] sz)) 0 0 (va_A [] sz) := by
  refine Met.ofW (cc := cX3_needRope) (maxL := 1) (ret := none) (by decide) rfl ?_
  intro p e s m args below meth c s₁ B hml hv
  obtain ⟨rfl, hsz, hP, hK, hD0⟩ := hv
  have hx := B.exec
  have hb := B.bytes
  have hr := B.returns
  have hts := atoms_spec (ws := wsX3_needRope) B.pre
  have hown : s.vm.findClass RX3 = some m.cls := findClass_of_methodNamed B.named
  have hlocks := B.notSynchronized
  subst hsz
  have hD := hD0.self (sz := s.heap.size)
  generalize hAe : va_A [] s.heap.size = A at hD ⊢
  have hA : ∀ q : Nat, s.heap.size ≤ q → A q := fun q h => by rw [← hAe]; exact Or.inr h
  have hS : va_S A s.heap s.heap [] := va_S.rf
  have hP : va_P (dC, dI) vwCl [] s.heap := hP
  have hl := lv_entry ([.int i0]) (n := 1) (Nat.le_of_ble_eq_true rfl)
  rw [lg_entry_eq]
  generalize (lg_sl ([.int i0]) ++ List.replicate (1 - (lg_sl ([.int i0])).length) Slot.unset).toArray = ls at hl ⊢
  have hl : lv_has ls 1 [(0, .int i0)] := hl
  refine lv_iload_n hx hb dX3_needRope_0 rfl (lv_at hl 0 rfl) ?_
  refine lv_if_lt (tgt := 9) hx hb dX3_needRope_1 (by decide) (fun c9 => absurd c9 (fun c8 => absurd (Int32.lt_iff_toInt_lt.mp c8) (by rw [show (0 : Int32).toInt = 0 from by decide]; omega))) (fun _ => ?_)
  refine lv_iload_n hx hb dX3_needRope_4 rfl (lv_at hl 0 rfl) ?_
  refine lv_iconst (v := 4) hx hb dX3_needRope_5 (by decide) ?_
  refine lv_icmp_lt (tgt := 20) hx hb dX3_needRope_6 (by decide) (fun _ => ?_) (fun c9 => absurd (Int32.lt_iff_toInt_lt.mpr (by rw [show (4 : Int32).toInt = 4 from by decide]; omega)) c9)
  exact W.vret hx hb hr (fun t ht hW => ⟨⟨(), rfl, trivial, by rw [ht]; exact hP, va_K.moved hW.alike hK, hD⟩, hS.F ht⟩) hS.2.2 dX3_needRope_20
set_option maxHeartbeats 4000000 in
set_option maxRecDepth 100000 in
theorem kx_X3_needRope_1 (l : Launch) (dC : Nat → ClassId) (dI : Nat → Nat → Nat) (sz : Nat) : Met l yX3_needRope wsX3_needRope ({ frames := 0, cells := 0, slots := 0, locals := 0 }) (va_Pc [.int 0] (fun U => U.heap.size = sz ∧ va_P (dC, dI) vwCl [] U.heap ∧ va_K (dC, dI) vwCl [] U ∧ va_D (fun _ => True) [])) (va_Qv (fun _ : Unit => True) (fun (_ : Unit) (t : State) => va_P (dC, dI) vwCl [] t.heap ∧ va_K (dC, dI) vwCl [] t ∧ va_D (va_A [] sz) []) (va_A [] sz)) 0 0 (va_A [] sz) := by
  refine Met.ofW (cc := cX3_needRope) (maxL := 1) (ret := none) (by decide) rfl ?_
  intro p e s m args below meth c s₁ B hml hv
  obtain ⟨rfl, hsz, hP, hK, hD0⟩ := hv
  have hx := B.exec
  have hb := B.bytes
  have hr := B.returns
  have hts := atoms_spec (ws := wsX3_needRope) B.pre
  have hown : s.vm.findClass RX3 = some m.cls := findClass_of_methodNamed B.named
  have hlocks := B.notSynchronized
  subst hsz
  have hD := hD0.self (sz := s.heap.size)
  generalize hAe : va_A [] s.heap.size = A at hD ⊢
  have hA : ∀ q : Nat, s.heap.size ≤ q → A q := fun q h => by rw [← hAe]; exact Or.inr h
  have hS : va_S A s.heap s.heap [] := va_S.rf
  have hP : va_P (dC, dI) vwCl [] s.heap := hP
  have hl := lv_entry ([.int 0]) (n := 1) (Nat.le_of_ble_eq_true rfl)
  rw [lg_entry_eq]
  generalize (lg_sl ([.int 0]) ++ List.replicate (1 - (lg_sl ([.int 0])).length) Slot.unset).toArray = ls at hl ⊢
  have hl : lv_has ls 1 [(0, .int 0)] := hl
  refine lv_iload_n hx hb dX3_needRope_0 rfl (lv_at hl 0 rfl) ?_
  refine lv_if_lt (tgt := 9) hx hb dX3_needRope_1 (by decide) (fun c9 => absurd c9 (by decide)) (fun _ => ?_)
  refine lv_iload_n hx hb dX3_needRope_4 rfl (lv_at hl 0 rfl) ?_
  refine lv_iconst (v := 4) hx hb dX3_needRope_5 (by decide) ?_
  refine lv_icmp_lt (tgt := 20) hx hb dX3_needRope_6 (by decide) (fun _ => ?_) (fun c9 => absurd (by decide) c9)
  exact W.vret hx hb hr (fun t ht hW => ⟨⟨(), rfl, trivial, by rw [ht]; exact hP, va_K.moved hW.alike hK, hD⟩, hS.F ht⟩) hS.2.2 dX3_needRope_20
set_option maxHeartbeats 4000000 in
set_option maxRecDepth 100000 in
theorem kx_X2_makeEmpty_0 (l : Launch) (dC : Nat → ClassId) (dI : Nat → Nat → Nat) (h0 : Nat) (z0 : Nat) (sz : Nat) : Met l yX2_makeEmpty wsX2_makeEmpty ({ frames := 0, cells := 0, slots := 0, locals := 0 }) (va_Pc [.ref h0] (fun U => U.heap.size = sz ∧ va_P (dC, dI) vwCl [(h0, .inr (6, [.ref z0, .int 0]))] U.heap ∧ va_K (dC, dI) vwCl [] U ∧ va_D (fun _ => True) [(h0, .inr (6, [.ref z0, .int 0]))])) (va_Qv (fun _ : Unit => True) (fun (_ : Unit) (t : State) => va_P (dC, dI) vwCl [(h0, .inr (6, [.ref z0, .int 0]))] t.heap ∧ va_K (dC, dI) vwCl [] t ∧ va_D (va_A [(h0, .inr (6, [.ref z0, .int 0]))] sz) [(h0, .inr (6, [.ref z0, .int 0]))]) (va_A [(h0, .inr (6, [.ref z0, .int 0]))] sz)) 0 0 (va_A [(h0, .inr (6, [.ref z0, .int 0]))] sz) := by
  refine Met.ofW (cc := cX2_makeEmpty) (maxL := 1) (ret := none) (by decide) rfl ?_
  intro p e s m args below meth c s₁ B hml hv
  obtain ⟨rfl, hsz, hP, hK, hD0⟩ := hv
  have hx := B.exec
  have hb := B.bytes
  have hr := B.returns
  have hts := atoms_spec (ws := wsX2_makeEmpty) B.pre
  have hown : s.vm.findClass RX2 = some m.cls := findClass_of_methodNamed B.named
  have hlocks := B.notSynchronized
  subst hsz
  have hD := hD0.self (sz := s.heap.size)
  generalize hAe : va_A [(h0, .inr (6, [.ref z0, .int 0]))] s.heap.size = A at hD ⊢
  have hA : ∀ q : Nat, s.heap.size ≤ q → A q := fun q h => by rw [← hAe]; exact Or.inr h
  have hS : va_S A s.heap s.heap [] := va_S.rf
  have hP : va_P (dC, dI) vwCl [(h0, .inr (6, [.ref z0, .int 0]))] s.heap := hP
  have hl := lv_entry ([.ref h0]) (n := 1) (Nat.le_of_ble_eq_true rfl)
  rw [lg_entry_eq]
  generalize (lg_sl ([.ref h0]) ++ List.replicate (1 - (lg_sl ([.ref h0])).length) Slot.unset).toArray = ls at hl ⊢
  have hl : lv_has ls 1 [(0, .ref h0)] := hl
  refine lv_aload_n hx hb dX2_makeEmpty_0 rfl (lv_at hl 0 rfl) ?_
  refine lv_iconst (v := 0) hx hb dX2_makeEmpty_1 (by decide) ?_
  refine va_put (D := (dC, dI)) (ci := 6) (v := .int 0) (ty := .int) (C := RX2) (T := TX2) (N := 2) hx hb hts (by decide +kernel) tyX2 tyX2_ok nmX2 hown hK hP hD hS 0 rfl rfl 1 (by decide) (hts (.fieldLink RX2 15 "Rewriterope$Text" "length" "I") (by decide +kernel)) (fun _ h9 => h9) rfl (by decide +kernel) rfl rfl (Nat.le_of_ble_eq_true rfl) dX2_makeEmpty_2 (fun H locs hP hD hS => ?_)
  have hP : va_P (dC, dI) vwCl [(h0, .inr (6, [.ref z0, .int 0]))] H := hP
  have hD : va_D A [(h0, .inr (6, [.ref z0, .int 0]))] := hD
  exact W.vret hx hb hr (fun t ht hW => ⟨⟨(), rfl, trivial, by rw [ht]; exact hP, va_K.moved hW.alike hK, hD⟩, hS.F ht⟩) hS.2.2 dX2_makeEmpty_5
set_option maxHeartbeats 4000000 in
set_option maxRecDepth 100000 in
theorem kx_X3_needRope_2 (l : Launch) (dC : Nat → ClassId) (dI : Nat → Nat → Nat) (sz : Nat) : Met l yX3_needRope wsX3_needRope ({ frames := 0, cells := 0, slots := 0, locals := 0 }) (va_Pc [.int 1] (fun U => U.heap.size = sz ∧ va_P (dC, dI) vwCl [] U.heap ∧ va_K (dC, dI) vwCl [] U ∧ va_D (fun _ => True) [])) (va_Qv (fun _ : Unit => True) (fun (_ : Unit) (t : State) => va_P (dC, dI) vwCl [] t.heap ∧ va_K (dC, dI) vwCl [] t ∧ va_D (va_A [] sz) []) (va_A [] sz)) 0 0 (va_A [] sz) := by
  refine Met.ofW (cc := cX3_needRope) (maxL := 1) (ret := none) (by decide) rfl ?_
  intro p e s m args below meth c s₁ B hml hv
  obtain ⟨rfl, hsz, hP, hK, hD0⟩ := hv
  have hx := B.exec
  have hb := B.bytes
  have hr := B.returns
  have hts := atoms_spec (ws := wsX3_needRope) B.pre
  have hown : s.vm.findClass RX3 = some m.cls := findClass_of_methodNamed B.named
  have hlocks := B.notSynchronized
  subst hsz
  have hD := hD0.self (sz := s.heap.size)
  generalize hAe : va_A [] s.heap.size = A at hD ⊢
  have hA : ∀ q : Nat, s.heap.size ≤ q → A q := fun q h => by rw [← hAe]; exact Or.inr h
  have hS : va_S A s.heap s.heap [] := va_S.rf
  have hP : va_P (dC, dI) vwCl [] s.heap := hP
  have hl := lv_entry ([.int 1]) (n := 1) (Nat.le_of_ble_eq_true rfl)
  rw [lg_entry_eq]
  generalize (lg_sl ([.int 1]) ++ List.replicate (1 - (lg_sl ([.int 1])).length) Slot.unset).toArray = ls at hl ⊢
  have hl : lv_has ls 1 [(0, .int 1)] := hl
  refine lv_iload_n hx hb dX3_needRope_0 rfl (lv_at hl 0 rfl) ?_
  refine lv_if_lt (tgt := 9) hx hb dX3_needRope_1 (by decide) (fun c9 => absurd c9 (by decide)) (fun _ => ?_)
  refine lv_iload_n hx hb dX3_needRope_4 rfl (lv_at hl 0 rfl) ?_
  refine lv_iconst (v := 4) hx hb dX3_needRope_5 (by decide) ?_
  refine lv_icmp_lt (tgt := 20) hx hb dX3_needRope_6 (by decide) (fun _ => ?_) (fun c9 => absurd (by decide) c9)
  exact W.vret hx hb hr (fun t ht hW => ⟨⟨(), rfl, trivial, by rw [ht]; exact hP, va_K.moved hW.alike hK, hD⟩, hS.F ht⟩) hS.2.2 dX3_needRope_20
set_option maxHeartbeats 4000000 in
set_option maxRecDepth 100000 in
theorem kx_X3_needRope_3 (l : Launch) (dC : Nat → ClassId) (dI : Nat → Nat → Nat) (sz : Nat) : Met l yX3_needRope wsX3_needRope ({ frames := 0, cells := 0, slots := 0, locals := 0 }) (va_Pc [.int 2] (fun U => U.heap.size = sz ∧ va_P (dC, dI) vwCl [] U.heap ∧ va_K (dC, dI) vwCl [] U ∧ va_D (fun _ => True) [])) (va_Qv (fun _ : Unit => True) (fun (_ : Unit) (t : State) => va_P (dC, dI) vwCl [] t.heap ∧ va_K (dC, dI) vwCl [] t ∧ va_D (va_A [] sz) []) (va_A [] sz)) 0 0 (va_A [] sz) := by
  refine Met.ofW (cc := cX3_needRope) (maxL := 1) (ret := none) (by decide) rfl ?_
  intro p e s m args below meth c s₁ B hml hv
  obtain ⟨rfl, hsz, hP, hK, hD0⟩ := hv
  have hx := B.exec
  have hb := B.bytes
  have hr := B.returns
  have hts := atoms_spec (ws := wsX3_needRope) B.pre
  have hown : s.vm.findClass RX3 = some m.cls := findClass_of_methodNamed B.named
  have hlocks := B.notSynchronized
  subst hsz
  have hD := hD0.self (sz := s.heap.size)
  generalize hAe : va_A [] s.heap.size = A at hD ⊢
  have hA : ∀ q : Nat, s.heap.size ≤ q → A q := fun q h => by rw [← hAe]; exact Or.inr h
  have hS : va_S A s.heap s.heap [] := va_S.rf
  have hP : va_P (dC, dI) vwCl [] s.heap := hP
  have hl := lv_entry ([.int 2]) (n := 1) (Nat.le_of_ble_eq_true rfl)
  rw [lg_entry_eq]
  generalize (lg_sl ([.int 2]) ++ List.replicate (1 - (lg_sl ([.int 2])).length) Slot.unset).toArray = ls at hl ⊢
  have hl : lv_has ls 1 [(0, .int 2)] := hl
  refine lv_iload_n hx hb dX3_needRope_0 rfl (lv_at hl 0 rfl) ?_
  refine lv_if_lt (tgt := 9) hx hb dX3_needRope_1 (by decide) (fun c9 => absurd c9 (by decide)) (fun _ => ?_)
  refine lv_iload_n hx hb dX3_needRope_4 rfl (lv_at hl 0 rfl) ?_
  refine lv_iconst (v := 4) hx hb dX3_needRope_5 (by decide) ?_
  refine lv_icmp_lt (tgt := 20) hx hb dX3_needRope_6 (by decide) (fun _ => ?_) (fun c9 => absurd (by decide) c9)
  exact W.vret hx hb hr (fun t ht hW => ⟨⟨(), rfl, trivial, by rw [ht]; exact hP, va_K.moved hW.alike hK, hD⟩, hS.F ht⟩) hS.2.2 dX3_needRope_20
set_option maxHeartbeats 4000000 in
set_option maxRecDepth 100000 in
theorem kx_X3_needRope_4 (l : Launch) (dC : Nat → ClassId) (dI : Nat → Nat → Nat) (sz : Nat) : Met l yX3_needRope wsX3_needRope ({ frames := 0, cells := 0, slots := 0, locals := 0 }) (va_Pc [.int 3] (fun U => U.heap.size = sz ∧ va_P (dC, dI) vwCl [] U.heap ∧ va_K (dC, dI) vwCl [] U ∧ va_D (fun _ => True) [])) (va_Qv (fun _ : Unit => True) (fun (_ : Unit) (t : State) => va_P (dC, dI) vwCl [] t.heap ∧ va_K (dC, dI) vwCl [] t ∧ va_D (va_A [] sz) []) (va_A [] sz)) 0 0 (va_A [] sz) := by
  refine Met.ofW (cc := cX3_needRope) (maxL := 1) (ret := none) (by decide) rfl ?_
  intro p e s m args below meth c s₁ B hml hv
  obtain ⟨rfl, hsz, hP, hK, hD0⟩ := hv
  have hx := B.exec
  have hb := B.bytes
  have hr := B.returns
  have hts := atoms_spec (ws := wsX3_needRope) B.pre
  have hown : s.vm.findClass RX3 = some m.cls := findClass_of_methodNamed B.named
  have hlocks := B.notSynchronized
  subst hsz
  have hD := hD0.self (sz := s.heap.size)
  generalize hAe : va_A [] s.heap.size = A at hD ⊢
  have hA : ∀ q : Nat, s.heap.size ≤ q → A q := fun q h => by rw [← hAe]; exact Or.inr h
  have hS : va_S A s.heap s.heap [] := va_S.rf
  have hP : va_P (dC, dI) vwCl [] s.heap := hP
  have hl := lv_entry ([.int 3]) (n := 1) (Nat.le_of_ble_eq_true rfl)
  rw [lg_entry_eq]
  generalize (lg_sl ([.int 3]) ++ List.replicate (1 - (lg_sl ([.int 3])).length) Slot.unset).toArray = ls at hl ⊢
  have hl : lv_has ls 1 [(0, .int 3)] := hl
  refine lv_iload_n hx hb dX3_needRope_0 rfl (lv_at hl 0 rfl) ?_
  refine lv_if_lt (tgt := 9) hx hb dX3_needRope_1 (by decide) (fun c9 => absurd c9 (by decide)) (fun _ => ?_)
  refine lv_iload_n hx hb dX3_needRope_4 rfl (lv_at hl 0 rfl) ?_
  refine lv_iconst (v := 4) hx hb dX3_needRope_5 (by decide) ?_
  refine lv_icmp_lt (tgt := 20) hx hb dX3_needRope_6 (by decide) (fun _ => ?_) (fun c9 => absurd (by decide) c9)
  exact W.vret hx hb hr (fun t ht hW => ⟨⟨(), rfl, trivial, by rw [ht]; exact hP, va_K.moved hW.alike hK, hD⟩, hS.F ht⟩) hS.2.2 dX3_needRope_20
set_option maxHeartbeats 4000000 in
set_option maxRecDepth 100000 in
theorem kx_X3_clear_0 (l : Launch) (dC : Nat → ClassId) (dI : Nat → Nat → Nat) (h0 : Nat) (h1 : Nat) (h2 : Nat) (h3 : Nat) (h4 : Nat) (h5 : Nat) (z0 : Nat) (z1 : Nat) (z2 : Nat) (z3 : Nat) (z4 : Nat) (z5 : Nat) (z6 : Nat) (z7 : Nat) (z8 : Nat) (k0 : ClassId) (sz : Nat) : Met l yX3_clear wsX3_clear ({ frames := 1, cells := 0, slots := 0, locals := 20 }) (va_Pc [.ref h0, .int 0] (fun U => U.heap.size = sz ∧ va_P (dC, dI) vwCl [(h0, .inr (7, [.ref h1, .ref z0, .ref z1, .ref z2, .ref z3, .ref z4, .int 0, .int 0, .int 0])), (h1, .inl (k0, 4, .inr (.inr (.inr (.inr (va_up (va_up (va_up (va_up (fun _ => none) 0 (some h2)) 1 (some h3)) 2 (some h4)) 3 (some h5))))))), (h2, .inr (6, [.ref z5, .int 0])), (h3, .inr (6, [.ref z6, .int 0])), (h4, .inr (6, [.ref z7, .int 0])), (h5, .inr (6, [.ref z8, .int 0]))] U.heap ∧ va_K (dC, dI) vwCl [(k0, .object "Rewriterope$Text")] U ∧ va_D (fun _ => True) [(h0, .inr (7, [.ref h1, .ref z0, .ref z1, .ref z2, .ref z3, .ref z4, .int 0, .int 0, .int 0])), (h1, .inl (k0, 4, .inr (.inr (.inr (.inr (va_up (va_up (va_up (va_up (fun _ => none) 0 (some h2)) 1 (some h3)) 2 (some h4)) 3 (some h5))))))), (h2, .inr (6, [.ref z5, .int 0])), (h3, .inr (6, [.ref z6, .int 0])), (h4, .inr (6, [.ref z7, .int 0])), (h5, .inr (6, [.ref z8, .int 0]))])) (va_Qi (fun (r : Int32) (_ : Unit) => r = 0) (fun (_ : Unit) (t : State) => va_P (dC, dI) vwCl [(h0, .inr (7, [.ref h1, .ref z0, .ref z1, .ref z2, .ref z3, .ref z4, .int 0, .int 0, .int 0])), (h1, .inl (k0, 4, .inr (.inr (.inr (.inr (va_up (va_up (va_up (va_up (fun _ => none) 0 (some h2)) 1 (some h3)) 2 (some h4)) 3 (some h5))))))), (h2, .inr (6, [.ref z5, .int 0])), (h3, .inr (6, [.ref z6, .int 0])), (h4, .inr (6, [.ref z7, .int 0])), (h5, .inr (6, [.ref z8, .int 0]))] t.heap ∧ va_K (dC, dI) vwCl [(k0, .object "Rewriterope$Text")] t ∧ va_D (va_A [(h0, .inr (7, [.ref h1, .ref z0, .ref z1, .ref z2, .ref z3, .ref z4, .int 0, .int 0, .int 0])), (h1, .inl (k0, 4, .inr (.inr (.inr (.inr (va_up (va_up (va_up (va_up (fun _ => none) 0 (some h2)) 1 (some h3)) 2 (some h4)) 3 (some h5))))))), (h2, .inr (6, [.ref z5, .int 0])), (h3, .inr (6, [.ref z6, .int 0])), (h4, .inr (6, [.ref z7, .int 0])), (h5, .inr (6, [.ref z8, .int 0]))] sz) [(h0, .inr (7, [.ref h1, .ref z0, .ref z1, .ref z2, .ref z3, .ref z4, .int 0, .int 0, .int 0])), (h1, .inl (k0, 4, .inr (.inr (.inr (.inr (va_up (va_up (va_up (va_up (fun _ => none) 0 (some h2)) 1 (some h3)) 2 (some h4)) 3 (some h5))))))), (h2, .inr (6, [.ref z5, .int 0])), (h3, .inr (6, [.ref z6, .int 0])), (h4, .inr (6, [.ref z7, .int 0])), (h5, .inr (6, [.ref z8, .int 0]))]) (va_A [(h0, .inr (7, [.ref h1, .ref z0, .ref z1, .ref z2, .ref z3, .ref z4, .int 0, .int 0, .int 0])), (h1, .inl (k0, 4, .inr (.inr (.inr (.inr (va_up (va_up (va_up (va_up (fun _ => none) 0 (some h2)) 1 (some h3)) 2 (some h4)) 3 (some h5))))))), (h2, .inr (6, [.ref z5, .int 0])), (h3, .inr (6, [.ref z6, .int 0])), (h4, .inr (6, [.ref z7, .int 0])), (h5, .inr (6, [.ref z8, .int 0]))] sz)) 0 0 (va_A [(h0, .inr (7, [.ref h1, .ref z0, .ref z1, .ref z2, .ref z3, .ref z4, .int 0, .int 0, .int 0])), (h1, .inl (k0, 4, .inr (.inr (.inr (.inr (va_up (va_up (va_up (va_up (fun _ => none) 0 (some h2)) 1 (some h3)) 2 (some h4)) 3 (some h5))))))), (h2, .inr (6, [.ref z5, .int 0])), (h3, .inr (6, [.ref z6, .int 0])), (h4, .inr (6, [.ref z7, .int 0])), (h5, .inr (6, [.ref z8, .int 0]))] sz) := by
  refine Met.ofW (cc := cX3_clear) (maxL := 3) (ret := (some .int)) (by decide) rfl ?_
  intro p e s m args below meth c s₁ B hml hv
  obtain ⟨rfl, hsz, hP, hK, hD0⟩ := hv
  have hx := B.exec
  have hb := B.bytes
  have hr := B.returns
  have hts := atoms_spec (ws := wsX3_clear) B.pre
  have hown : s.vm.findClass RX3 = some m.cls := findClass_of_methodNamed B.named
  have hlocks := B.notSynchronized
  subst hsz
  have hD := hD0.self (sz := s.heap.size)
  generalize hAe : va_A [(h0, .inr (7, [.ref h1, .ref z0, .ref z1, .ref z2, .ref z3, .ref z4, .int 0, .int 0, .int 0])), (h1, .inl (k0, 4, .inr (.inr (.inr (.inr (va_up (va_up (va_up (va_up (fun _ => none) 0 (some h2)) 1 (some h3)) 2 (some h4)) 3 (some h5))))))), (h2, .inr (6, [.ref z5, .int 0])), (h3, .inr (6, [.ref z6, .int 0])), (h4, .inr (6, [.ref z7, .int 0])), (h5, .inr (6, [.ref z8, .int 0]))] s.heap.size = A at hD ⊢
  have hA : ∀ q : Nat, s.heap.size ≤ q → A q := fun q h => by rw [← hAe]; exact Or.inr h
  have hS : va_S A s.heap s.heap [] := va_S.rf
  have hP : va_P (dC, dI) vwCl [(h0, .inr (7, [.ref h1, .ref z0, .ref z1, .ref z2, .ref z3, .ref z4, .int 0, .int 0, .int 0])), (h1, .inl (k0, 4, .inr (.inr (.inr (.inr (va_up (va_up (va_up (va_up (fun _ => none) 0 (some h2)) 1 (some h3)) 2 (some h4)) 3 (some h5))))))), (h2, .inr (6, [.ref z5, .int 0])), (h3, .inr (6, [.ref z6, .int 0])), (h4, .inr (6, [.ref z7, .int 0])), (h5, .inr (6, [.ref z8, .int 0]))] s.heap := hP
  have hl := lv_entry ([.ref h0, .int 0]) (n := 3) (Nat.le_of_ble_eq_true rfl)
  rw [lg_entry_eq]
  generalize (lg_sl ([.ref h0, .int 0]) ++ List.replicate (3 - (lg_sl ([.ref h0, .int 0])).length) Slot.unset).toArray = ls at hl ⊢
  have hl : lv_has ls 3 [(0, .ref h0), (1, .int 0)] := hl
  refine lv_iload_n hx hb dX3_clear_0 rfl (lv_at hl 1 rfl) ?_
  have hPc := hP.sub (ws' := []) [] rfl
  have hDc := hD.sub (ws' := []) [] (by decide) rfl
  have hKc := hK.sub (tys' := []) [] rfl
  have hFc := va_free (wc := []) hD hS hA [] rfl
  refine va_callv (va_runS (As := [.int 0]) (rest := []) ⟨hx, hb, hml, hown, hts⟩ (kx_X3_needRope_1 l dC dI s.heap.size) (cwS 1 hts gX3_clear_X3_needRope rfl rfl rfl (by decide +kernel) ⟨Nat.le_of_ble_eq_true rfl, Nat.le_of_ble_eq_true rfl⟩) ⟨fun a U g mk q => by obtain ⟨q0, q1, qP, qK, qD⟩ := q; exact ⟨q0, q1, qP, va_K.moved (u := U) (U := U.calling g mk a) (Vm.Alike.refl U.vm) qK, qD⟩, fun U hU hW => ⟨rfl, by rw [hU], by rw [hU]; exact hPc, va_K.moved hW.alike hKc, hDc.weaken (fun _ _ _ _ => trivial)⟩⟩ rfl rfl hl.1 rfl (lv_room (Nat.le_of_ble_eq_true rfl)) dX3_clear_1 ⟨Nat.le_of_ble_eq_true rfl, Nat.le_of_ble_eq_true rfl⟩) hS (fun q _ h => hFc q h) hFc (fun u t H1 locs ht hvm hw hB hz1 hk1 hS => ?_)
  obtain ⟨hP1, hK1, hD1⟩ := hB
  rw [ht] at hP1
  have hK1 := va_K.moved hvm.symm hK1
  obtain ⟨hP, hD⟩ := va_join (wr := [(h0, .inr (7, [.ref h1, .ref z0, .ref z1, .ref z2, .ref z3, .ref z4, .int 0, .int 0, .int 0])), (h1, .inl (k0, 4, .inr (.inr (.inr (.inr (va_up (va_up (va_up (va_up (fun _ => none) 0 (some h2)) 1 (some h3)) 2 (some h4)) 3 (some h5))))))), (h2, .inr (6, [.ref z5, .int 0])), (h3, .inr (6, [.ref z6, .int 0])), (h4, .inr (6, [.ref z7, .int 0])), (h5, .inr (6, [.ref z8, .int 0]))]) (w1 := []) hP hD [] [0, 1, 2, 3, 4, 5] rfl rfl (by decide) (by decide) hk1 hFc hP1 hD1
  generalize H1 = H at hP hS ⊢
  have hP : va_P (dC, dI) vwCl [(h0, .inr (7, [.ref h1, .ref z0, .ref z1, .ref z2, .ref z3, .ref z4, .int 0, .int 0, .int 0])), (h1, .inl (k0, 4, .inr (.inr (.inr (.inr (va_up (va_up (va_up (va_up (fun _ => none) 0 (some h2)) 1 (some h3)) 2 (some h4)) 3 (some h5))))))), (h2, .inr (6, [.ref z5, .int 0])), (h3, .inr (6, [.ref z6, .int 0])), (h4, .inr (6, [.ref z7, .int 0])), (h5, .inr (6, [.ref z8, .int 0]))] H := hP
  have hD : va_D A [(h0, .inr (7, [.ref h1, .ref z0, .ref z1, .ref z2, .ref z3, .ref z4, .int 0, .int 0, .int 0])), (h1, .inl (k0, 4, .inr (.inr (.inr (.inr (va_up (va_up (va_up (va_up (fun _ => none) 0 (some h2)) 1 (some h3)) 2 (some h4)) 3 (some h5))))))), (h2, .inr (6, [.ref z5, .int 0])), (h3, .inr (6, [.ref z6, .int 0])), (h4, .inr (6, [.ref z7, .int 0])), (h5, .inr (6, [.ref z8, .int 0]))] := hD
  refine lv_aload_n hx hb dX3_clear_4 rfl (lv_at hl 0 rfl) ?_
  refine va_get (D := (dC, dI)) (ci := 7) (v := .ref h1) (C := RX3) (T := TX3) (N := 9) hx hb hts (by decide +kernel) hown hK hP 0 rfl rfl 0 (by decide) (hts (.fieldLink RX3 11 "Rewriterope" "ropes" "[LRewriterope$Text;") (by decide +kernel)) (fun _ h9 => h9) rfl dX3_clear_5 ?_
  refine lv_iload_n hx hb dX3_clear_8 rfl (lv_at hl 1 rfl) ?_
  refine va_aldq (D := (dC, dI)) hx hb hK hP 1 0 rfl rfl (by unfold vp_in; decide) dX3_clear_9 ?_
  refine W.eq (g2 := F0 m 10 ls [.ref h2]) rfl ?_
  refine va_get (D := (dC, dI)) (ci := 6) (v := .int 0) (C := RX2) (T := TX2) (N := 2) hx hb hts (by decide +kernel) hown hK hP 2 rfl rfl 1 (by decide) (hts (.fieldLink RX3 65 "Rewriterope$Text" "length" "I") (by decide +kernel)) (fun _ h9 => h9) rfl dX3_clear_10 ?_
  refine lv_istore_n (lv' := [(2, .int 0), (0, .ref h0), (1, .int 0)]) hx hb dX3_clear_13 rfl hl (by decide) rfl (fun ls hl => ?_)
  refine lv_aload_n hx hb dX3_clear_14 rfl (lv_at hl 1 rfl) ?_
  refine va_get (D := (dC, dI)) (ci := 7) (v := .ref h1) (C := RX3) (T := TX3) (N := 9) hx hb hts (by decide +kernel) hown hK hP 0 rfl rfl 0 (by decide) (hts (.fieldLink RX3 11 "Rewriterope" "ropes" "[LRewriterope$Text;") (by decide +kernel)) (fun _ h9 => h9) rfl dX3_clear_15 ?_
  refine lv_iload_n hx hb dX3_clear_18 rfl (lv_at hl 2 rfl) ?_
  refine va_aldq (D := (dC, dI)) hx hb hK hP 1 0 rfl rfl (by unfold vp_in; decide) dX3_clear_19 ?_
  refine W.eq (g2 := F0 m 20 ls [.ref h2]) rfl ?_
  have hPc := hP.sub (ws' := [(h2, .inr (6, [.ref z5, .int 0]))]) [2] rfl
  have hDc := hD.sub (ws' := [(h2, .inr (6, [.ref z5, .int 0]))]) [2] (by decide) rfl
  have hKc := hK.sub (tys' := []) [] rfl
  have hFc := va_free (wc := [(h2, .inr (6, [.ref z5, .int 0]))]) hD hS hA [2] rfl
  refine va_callv (va_runV (As := []) (rest := []) ⟨hx, hb, hml, hown, hts⟩ (kx_X2_makeEmpty_0 l dC dI h2 z5 H.size) (cwV 0 hts gX3_clear_X2_makeEmpty rfl rfl rfl (by decide +kernel) ⟨Nat.le_of_ble_eq_true rfl, Nat.le_of_ble_eq_true rfl⟩) ⟨fun a U g mk q => by obtain ⟨q0, q1, qP, qK, qD⟩ := q; exact ⟨q0, q1, qP, va_K.moved (u := U) (U := U.calling g mk a) (Vm.Alike.refl U.vm) qK, qD⟩, va_recv hKc hPc (ci := 6) (q0 := 0) rfl rfl, fun U hU hW => ⟨rfl, by rw [hU], by rw [hU]; exact hPc, va_K.moved hW.alike hKc, hDc.weaken (fun _ _ _ _ => trivial)⟩⟩ rfl rfl hl.1 rfl (lv_room (Nat.le_of_ble_eq_true rfl)) dX3_clear_20 ⟨Nat.le_of_ble_eq_true rfl, Nat.le_of_ble_eq_true rfl⟩) hS (fun q _ h => hFc q h) hFc (fun u t H1 locs ht hvm hw hB hz1 hk1 hS => ?_)
  obtain ⟨hP1, hK1, hD1⟩ := hB
  rw [ht] at hP1
  have hK1 := va_K.moved hvm.symm hK1
  obtain ⟨hP, hD⟩ := va_join (wr := [(h0, .inr (7, [.ref h1, .ref z0, .ref z1, .ref z2, .ref z3, .ref z4, .int 0, .int 0, .int 0])), (h1, .inl (k0, 4, .inr (.inr (.inr (.inr (va_up (va_up (va_up (va_up (fun _ => none) 0 (some h2)) 1 (some h3)) 2 (some h4)) 3 (some h5))))))), (h3, .inr (6, [.ref z6, .int 0])), (h4, .inr (6, [.ref z7, .int 0])), (h5, .inr (6, [.ref z8, .int 0]))]) (w1 := [(h2, .inr (6, [.ref z5, .int 0]))]) hP hD [2] [0, 1, 3, 4, 5] rfl rfl (by decide) (by decide) hk1 hFc hP1 hD1
  generalize H1 = H at hP hS ⊢
  have hP : va_P (dC, dI) vwCl [(h0, .inr (7, [.ref h1, .ref z0, .ref z1, .ref z2, .ref z3, .ref z4, .int 0, .int 0, .int 0])), (h1, .inl (k0, 4, .inr (.inr (.inr (.inr (va_up (va_up (va_up (va_up (fun _ => none) 0 (some h2)) 1 (some h3)) 2 (some h4)) 3 (some h5))))))), (h3, .inr (6, [.ref z6, .int 0])), (h4, .inr (6, [.ref z7, .int 0])), (h5, .inr (6, [.ref z8, .int 0])), (h2, .inr (6, [.ref z5, .int 0]))] H := hP
  have hD : va_D A [(h0, .inr (7, [.ref h1, .ref z0, .ref z1, .ref z2, .ref z3, .ref z4, .int 0, .int 0, .int 0])), (h1, .inl (k0, 4, .inr (.inr (.inr (.inr (va_up (va_up (va_up (va_up (fun _ => none) 0 (some h2)) 1 (some h3)) 2 (some h4)) 3 (some h5))))))), (h3, .inr (6, [.ref z6, .int 0])), (h4, .inr (6, [.ref z7, .int 0])), (h5, .inr (6, [.ref z8, .int 0])), (h2, .inr (6, [.ref z5, .int 0]))] := hD
  refine lv_iload_n hx hb dX3_clear_23 rfl (lv_at hl 0 rfl) ?_
  have hP := hP.sub (ws' := [(h0, .inr (7, [.ref h1, .ref z0, .ref z1, .ref z2, .ref z3, .ref z4, .int 0, .int 0, .int 0])), (h1, .inl (k0, 4, .inr (.inr (.inr (.inr (va_up (va_up (va_up (va_up (fun _ => none) 0 (some h2)) 1 (some h3)) 2 (some h4)) 3 (some h5))))))), (h2, .inr (6, [.ref z5, .int 0])), (h3, .inr (6, [.ref z6, .int 0])), (h4, .inr (6, [.ref z7, .int 0])), (h5, .inr (6, [.ref z8, .int 0]))]) [0, 1, 5, 2, 3, 4] rfl
  have hD := hD.sub (ws' := [(h0, .inr (7, [.ref h1, .ref z0, .ref z1, .ref z2, .ref z3, .ref z4, .int 0, .int 0, .int 0])), (h1, .inl (k0, 4, .inr (.inr (.inr (.inr (va_up (va_up (va_up (va_up (fun _ => none) 0 (some h2)) 1 (some h3)) 2 (some h4)) 3 (some h5))))))), (h2, .inr (6, [.ref z5, .int 0])), (h3, .inr (6, [.ref z6, .int 0])), (h4, .inr (6, [.ref z7, .int 0])), (h5, .inr (6, [.ref z8, .int 0]))]) [0, 1, 5, 2, 3, 4] (by decide) rfl
  exact W.iret (v := 0) hx hb hr (fun t ht hW => ⟨⟨0, (), rfl, rfl, by rw [ht]; exact hP, va_K.moved hW.alike hK, hD⟩, hS.F ht⟩) hS.2.2 dX3_clear_24
set_option maxHeartbeats 4000000 in
set_option maxRecDepth 100000 in
theorem kx_X3_clear_1 (l : Launch) (dC : Nat → ClassId) (dI : Nat → Nat → Nat) (h0 : Nat) (h1 : Nat) (h2 : Nat) (h3 : Nat) (h4 : Nat) (h5 : Nat) (z0 : Nat) (z1 : Nat) (z2 : Nat) (z3 : Nat) (z4 : Nat) (z5 : Nat) (z6 : Nat) (z7 : Nat) (z8 : Nat) (k0 : ClassId) (sz : Nat) : Met l yX3_clear wsX3_clear ({ frames := 1, cells := 0, slots := 0, locals := 20 }) (va_Pc [.ref h0, .int 1] (fun U => U.heap.size = sz ∧ va_P (dC, dI) vwCl [(h0, .inr (7, [.ref h1, .ref z0, .ref z1, .ref z2, .ref z3, .ref z4, .int 0, .int 0, .int 0])), (h1, .inl (k0, 4, .inr (.inr (.inr (.inr (va_up (va_up (va_up (va_up (fun _ => none) 0 (some h2)) 1 (some h3)) 2 (some h4)) 3 (some h5))))))), (h2, .inr (6, [.ref z5, .int 0])), (h3, .inr (6, [.ref z6, .int 0])), (h4, .inr (6, [.ref z7, .int 0])), (h5, .inr (6, [.ref z8, .int 0]))] U.heap ∧ va_K (dC, dI) vwCl [(k0, .object "Rewriterope$Text")] U ∧ va_D (fun _ => True) [(h0, .inr (7, [.ref h1, .ref z0, .ref z1, .ref z2, .ref z3, .ref z4, .int 0, .int 0, .int 0])), (h1, .inl (k0, 4, .inr (.inr (.inr (.inr (va_up (va_up (va_up (va_up (fun _ => none) 0 (some h2)) 1 (some h3)) 2 (some h4)) 3 (some h5))))))), (h2, .inr (6, [.ref z5, .int 0])), (h3, .inr (6, [.ref z6, .int 0])), (h4, .inr (6, [.ref z7, .int 0])), (h5, .inr (6, [.ref z8, .int 0]))])) (va_Qi (fun (r : Int32) (_ : Unit) => r = 0) (fun (_ : Unit) (t : State) => va_P (dC, dI) vwCl [(h0, .inr (7, [.ref h1, .ref z0, .ref z1, .ref z2, .ref z3, .ref z4, .int 0, .int 0, .int 0])), (h1, .inl (k0, 4, .inr (.inr (.inr (.inr (va_up (va_up (va_up (va_up (fun _ => none) 0 (some h2)) 1 (some h3)) 2 (some h4)) 3 (some h5))))))), (h2, .inr (6, [.ref z5, .int 0])), (h3, .inr (6, [.ref z6, .int 0])), (h4, .inr (6, [.ref z7, .int 0])), (h5, .inr (6, [.ref z8, .int 0]))] t.heap ∧ va_K (dC, dI) vwCl [(k0, .object "Rewriterope$Text")] t ∧ va_D (va_A [(h0, .inr (7, [.ref h1, .ref z0, .ref z1, .ref z2, .ref z3, .ref z4, .int 0, .int 0, .int 0])), (h1, .inl (k0, 4, .inr (.inr (.inr (.inr (va_up (va_up (va_up (va_up (fun _ => none) 0 (some h2)) 1 (some h3)) 2 (some h4)) 3 (some h5))))))), (h2, .inr (6, [.ref z5, .int 0])), (h3, .inr (6, [.ref z6, .int 0])), (h4, .inr (6, [.ref z7, .int 0])), (h5, .inr (6, [.ref z8, .int 0]))] sz) [(h0, .inr (7, [.ref h1, .ref z0, .ref z1, .ref z2, .ref z3, .ref z4, .int 0, .int 0, .int 0])), (h1, .inl (k0, 4, .inr (.inr (.inr (.inr (va_up (va_up (va_up (va_up (fun _ => none) 0 (some h2)) 1 (some h3)) 2 (some h4)) 3 (some h5))))))), (h2, .inr (6, [.ref z5, .int 0])), (h3, .inr (6, [.ref z6, .int 0])), (h4, .inr (6, [.ref z7, .int 0])), (h5, .inr (6, [.ref z8, .int 0]))]) (va_A [(h0, .inr (7, [.ref h1, .ref z0, .ref z1, .ref z2, .ref z3, .ref z4, .int 0, .int 0, .int 0])), (h1, .inl (k0, 4, .inr (.inr (.inr (.inr (va_up (va_up (va_up (va_up (fun _ => none) 0 (some h2)) 1 (some h3)) 2 (some h4)) 3 (some h5))))))), (h2, .inr (6, [.ref z5, .int 0])), (h3, .inr (6, [.ref z6, .int 0])), (h4, .inr (6, [.ref z7, .int 0])), (h5, .inr (6, [.ref z8, .int 0]))] sz)) 0 0 (va_A [(h0, .inr (7, [.ref h1, .ref z0, .ref z1, .ref z2, .ref z3, .ref z4, .int 0, .int 0, .int 0])), (h1, .inl (k0, 4, .inr (.inr (.inr (.inr (va_up (va_up (va_up (va_up (fun _ => none) 0 (some h2)) 1 (some h3)) 2 (some h4)) 3 (some h5))))))), (h2, .inr (6, [.ref z5, .int 0])), (h3, .inr (6, [.ref z6, .int 0])), (h4, .inr (6, [.ref z7, .int 0])), (h5, .inr (6, [.ref z8, .int 0]))] sz) := by
  refine Met.ofW (cc := cX3_clear) (maxL := 3) (ret := (some .int)) (by decide) rfl ?_
  intro p e s m args below meth c s₁ B hml hv
  obtain ⟨rfl, hsz, hP, hK, hD0⟩ := hv
  have hx := B.exec
  have hb := B.bytes
  have hr := B.returns
  have hts := atoms_spec (ws := wsX3_clear) B.pre
  have hown : s.vm.findClass RX3 = some m.cls := findClass_of_methodNamed B.named
  have hlocks := B.notSynchronized
  subst hsz
  have hD := hD0.self (sz := s.heap.size)
  generalize hAe : va_A [(h0, .inr (7, [.ref h1, .ref z0, .ref z1, .ref z2, .ref z3, .ref z4, .int 0, .int 0, .int 0])), (h1, .inl (k0, 4, .inr (.inr (.inr (.inr (va_up (va_up (va_up (va_up (fun _ => none) 0 (some h2)) 1 (some h3)) 2 (some h4)) 3 (some h5))))))), (h2, .inr (6, [.ref z5, .int 0])), (h3, .inr (6, [.ref z6, .int 0])), (h4, .inr (6, [.ref z7, .int 0])), (h5, .inr (6, [.ref z8, .int 0]))] s.heap.size = A at hD ⊢
  have hA : ∀ q : Nat, s.heap.size ≤ q → A q := fun q h => by rw [← hAe]; exact Or.inr h
  have hS : va_S A s.heap s.heap [] := va_S.rf
  have hP : va_P (dC, dI) vwCl [(h0, .inr (7, [.ref h1, .ref z0, .ref z1, .ref z2, .ref z3, .ref z4, .int 0, .int 0, .int 0])), (h1, .inl (k0, 4, .inr (.inr (.inr (.inr (va_up (va_up (va_up (va_up (fun _ => none) 0 (some h2)) 1 (some h3)) 2 (some h4)) 3 (some h5))))))), (h2, .inr (6, [.ref z5, .int 0])), (h3, .inr (6, [.ref z6, .int 0])), (h4, .inr (6, [.ref z7, .int 0])), (h5, .inr (6, [.ref z8, .int 0]))] s.heap := hP
  have hl := lv_entry ([.ref h0, .int 1]) (n := 3) (Nat.le_of_ble_eq_true rfl)
  rw [lg_entry_eq]
  generalize (lg_sl ([.ref h0, .int 1]) ++ List.replicate (3 - (lg_sl ([.ref h0, .int 1])).length) Slot.unset).toArray = ls at hl ⊢
  have hl : lv_has ls 3 [(0, .ref h0), (1, .int 1)] := hl
  refine lv_iload_n hx hb dX3_clear_0 rfl (lv_at hl 1 rfl) ?_
  have hPc := hP.sub (ws' := []) [] rfl
  have hDc := hD.sub (ws' := []) [] (by decide) rfl
  have hKc := hK.sub (tys' := []) [] rfl
  have hFc := va_free (wc := []) hD hS hA [] rfl
  refine va_callv (va_runS (As := [.int 1]) (rest := []) ⟨hx, hb, hml, hown, hts⟩ (kx_X3_needRope_2 l dC dI s.heap.size) (cwS 1 hts gX3_clear_X3_needRope rfl rfl rfl (by decide +kernel) ⟨Nat.le_of_ble_eq_true rfl, Nat.le_of_ble_eq_true rfl⟩) ⟨fun a U g mk q => by obtain ⟨q0, q1, qP, qK, qD⟩ := q; exact ⟨q0, q1, qP, va_K.moved (u := U) (U := U.calling g mk a) (Vm.Alike.refl U.vm) qK, qD⟩, fun U hU hW => ⟨rfl, by rw [hU], by rw [hU]; exact hPc, va_K.moved hW.alike hKc, hDc.weaken (fun _ _ _ _ => trivial)⟩⟩ rfl rfl hl.1 rfl (lv_room (Nat.le_of_ble_eq_true rfl)) dX3_clear_1 ⟨Nat.le_of_ble_eq_true rfl, Nat.le_of_ble_eq_true rfl⟩) hS (fun q _ h => hFc q h) hFc (fun u t H1 locs ht hvm hw hB hz1 hk1 hS => ?_)
  obtain ⟨hP1, hK1, hD1⟩ := hB
  rw [ht] at hP1
  have hK1 := va_K.moved hvm.symm hK1
  obtain ⟨hP, hD⟩ := va_join (wr := [(h0, .inr (7, [.ref h1, .ref z0, .ref z1, .ref z2, .ref z3, .ref z4, .int 0, .int 0, .int 0])), (h1, .inl (k0, 4, .inr (.inr (.inr (.inr (va_up (va_up (va_up (va_up (fun _ => none) 0 (some h2)) 1 (some h3)) 2 (some h4)) 3 (some h5))))))), (h2, .inr (6, [.ref z5, .int 0])), (h3, .inr (6, [.ref z6, .int 0])), (h4, .inr (6, [.ref z7, .int 0])), (h5, .inr (6, [.ref z8, .int 0]))]) (w1 := []) hP hD [] [0, 1, 2, 3, 4, 5] rfl rfl (by decide) (by decide) hk1 hFc hP1 hD1
  generalize H1 = H at hP hS ⊢
  have hP : va_P (dC, dI) vwCl [(h0, .inr (7, [.ref h1, .ref z0, .ref z1, .ref z2, .ref z3, .ref z4, .int 0, .int 0, .int 0])), (h1, .inl (k0, 4, .inr (.inr (.inr (.inr (va_up (va_up (va_up (va_up (fun _ => none) 0 (some h2)) 1 (some h3)) 2 (some h4)) 3 (some h5))))))), (h2, .inr (6, [.ref z5, .int 0])), (h3, .inr (6, [.ref z6, .int 0])), (h4, .inr (6, [.ref z7, .int 0])), (h5, .inr (6, [.ref z8, .int 0]))] H := hP
  have hD : va_D A [(h0, .inr (7, [.ref h1, .ref z0, .ref z1, .ref z2, .ref z3, .ref z4, .int 0, .int 0, .int 0])), (h1, .inl (k0, 4, .inr (.inr (.inr (.inr (va_up (va_up (va_up (va_up (fun _ => none) 0 (some h2)) 1 (some h3)) 2 (some h4)) 3 (some h5))))))), (h2, .inr (6, [.ref z5, .int 0])), (h3, .inr (6, [.ref z6, .int 0])), (h4, .inr (6, [.ref z7, .int 0])), (h5, .inr (6, [.ref z8, .int 0]))] := hD
  refine lv_aload_n hx hb dX3_clear_4 rfl (lv_at hl 0 rfl) ?_
  refine va_get (D := (dC, dI)) (ci := 7) (v := .ref h1) (C := RX3) (T := TX3) (N := 9) hx hb hts (by decide +kernel) hown hK hP 0 rfl rfl 0 (by decide) (hts (.fieldLink RX3 11 "Rewriterope" "ropes" "[LRewriterope$Text;") (by decide +kernel)) (fun _ h9 => h9) rfl dX3_clear_5 ?_
  refine lv_iload_n hx hb dX3_clear_8 rfl (lv_at hl 1 rfl) ?_
  refine va_aldq (D := (dC, dI)) hx hb hK hP 1 0 rfl rfl (by unfold vp_in; decide) dX3_clear_9 ?_
  refine W.eq (g2 := F0 m 10 ls [.ref h3]) rfl ?_
  refine va_get (D := (dC, dI)) (ci := 6) (v := .int 0) (C := RX2) (T := TX2) (N := 2) hx hb hts (by decide +kernel) hown hK hP 3 rfl rfl 1 (by decide) (hts (.fieldLink RX3 65 "Rewriterope$Text" "length" "I") (by decide +kernel)) (fun _ h9 => h9) rfl dX3_clear_10 ?_
  refine lv_istore_n (lv' := [(2, .int 0), (0, .ref h0), (1, .int 1)]) hx hb dX3_clear_13 rfl hl (by decide) rfl (fun ls hl => ?_)
  refine lv_aload_n hx hb dX3_clear_14 rfl (lv_at hl 1 rfl) ?_
  refine va_get (D := (dC, dI)) (ci := 7) (v := .ref h1) (C := RX3) (T := TX3) (N := 9) hx hb hts (by decide +kernel) hown hK hP 0 rfl rfl 0 (by decide) (hts (.fieldLink RX3 11 "Rewriterope" "ropes" "[LRewriterope$Text;") (by decide +kernel)) (fun _ h9 => h9) rfl dX3_clear_15 ?_
  refine lv_iload_n hx hb dX3_clear_18 rfl (lv_at hl 2 rfl) ?_
  refine va_aldq (D := (dC, dI)) hx hb hK hP 1 0 rfl rfl (by unfold vp_in; decide) dX3_clear_19 ?_
  refine W.eq (g2 := F0 m 20 ls [.ref h3]) rfl ?_
  have hPc := hP.sub (ws' := [(h3, .inr (6, [.ref z6, .int 0]))]) [3] rfl
  have hDc := hD.sub (ws' := [(h3, .inr (6, [.ref z6, .int 0]))]) [3] (by decide) rfl
  have hKc := hK.sub (tys' := []) [] rfl
  have hFc := va_free (wc := [(h3, .inr (6, [.ref z6, .int 0]))]) hD hS hA [3] rfl
  refine va_callv (va_runV (As := []) (rest := []) ⟨hx, hb, hml, hown, hts⟩ (kx_X2_makeEmpty_0 l dC dI h3 z6 H.size) (cwV 0 hts gX3_clear_X2_makeEmpty rfl rfl rfl (by decide +kernel) ⟨Nat.le_of_ble_eq_true rfl, Nat.le_of_ble_eq_true rfl⟩) ⟨fun a U g mk q => by obtain ⟨q0, q1, qP, qK, qD⟩ := q; exact ⟨q0, q1, qP, va_K.moved (u := U) (U := U.calling g mk a) (Vm.Alike.refl U.vm) qK, qD⟩, va_recv hKc hPc (ci := 6) (q0 := 0) rfl rfl, fun U hU hW => ⟨rfl, by rw [hU], by rw [hU]; exact hPc, va_K.moved hW.alike hKc, hDc.weaken (fun _ _ _ _ => trivial)⟩⟩ rfl rfl hl.1 rfl (lv_room (Nat.le_of_ble_eq_true rfl)) dX3_clear_20 ⟨Nat.le_of_ble_eq_true rfl, Nat.le_of_ble_eq_true rfl⟩) hS (fun q _ h => hFc q h) hFc (fun u t H1 locs ht hvm hw hB hz1 hk1 hS => ?_)
  obtain ⟨hP1, hK1, hD1⟩ := hB
  rw [ht] at hP1
  have hK1 := va_K.moved hvm.symm hK1
  obtain ⟨hP, hD⟩ := va_join (wr := [(h0, .inr (7, [.ref h1, .ref z0, .ref z1, .ref z2, .ref z3, .ref z4, .int 0, .int 0, .int 0])), (h1, .inl (k0, 4, .inr (.inr (.inr (.inr (va_up (va_up (va_up (va_up (fun _ => none) 0 (some h2)) 1 (some h3)) 2 (some h4)) 3 (some h5))))))), (h2, .inr (6, [.ref z5, .int 0])), (h4, .inr (6, [.ref z7, .int 0])), (h5, .inr (6, [.ref z8, .int 0]))]) (w1 := [(h3, .inr (6, [.ref z6, .int 0]))]) hP hD [3] [0, 1, 2, 4, 5] rfl rfl (by decide) (by decide) hk1 hFc hP1 hD1
  generalize H1 = H at hP hS ⊢
  have hP : va_P (dC, dI) vwCl [(h0, .inr (7, [.ref h1, .ref z0, .ref z1, .ref z2, .ref z3, .ref z4, .int 0, .int 0, .int 0])), (h1, .inl (k0, 4, .inr (.inr (.inr (.inr (va_up (va_up (va_up (va_up (fun _ => none) 0 (some h2)) 1 (some h3)) 2 (some h4)) 3 (some h5))))))), (h2, .inr (6, [.ref z5, .int 0])), (h4, .inr (6, [.ref z7, .int 0])), (h5, .inr (6, [.ref z8, .int 0])), (h3, .inr (6, [.ref z6, .int 0]))] H := hP
  have hD : va_D A [(h0, .inr (7, [.ref h1, .ref z0, .ref z1, .ref z2, .ref z3, .ref z4, .int 0, .int 0, .int 0])), (h1, .inl (k0, 4, .inr (.inr (.inr (.inr (va_up (va_up (va_up (va_up (fun _ => none) 0 (some h2)) 1 (some h3)) 2 (some h4)) 3 (some h5))))))), (h2, .inr (6, [.ref z5, .int 0])), (h4, .inr (6, [.ref z7, .int 0])), (h5, .inr (6, [.ref z8, .int 0])), (h3, .inr (6, [.ref z6, .int 0]))] := hD
  refine lv_iload_n hx hb dX3_clear_23 rfl (lv_at hl 0 rfl) ?_
  have hP := hP.sub (ws' := [(h0, .inr (7, [.ref h1, .ref z0, .ref z1, .ref z2, .ref z3, .ref z4, .int 0, .int 0, .int 0])), (h1, .inl (k0, 4, .inr (.inr (.inr (.inr (va_up (va_up (va_up (va_up (fun _ => none) 0 (some h2)) 1 (some h3)) 2 (some h4)) 3 (some h5))))))), (h2, .inr (6, [.ref z5, .int 0])), (h3, .inr (6, [.ref z6, .int 0])), (h4, .inr (6, [.ref z7, .int 0])), (h5, .inr (6, [.ref z8, .int 0]))]) [0, 1, 2, 5, 3, 4] rfl
  have hD := hD.sub (ws' := [(h0, .inr (7, [.ref h1, .ref z0, .ref z1, .ref z2, .ref z3, .ref z4, .int 0, .int 0, .int 0])), (h1, .inl (k0, 4, .inr (.inr (.inr (.inr (va_up (va_up (va_up (va_up (fun _ => none) 0 (some h2)) 1 (some h3)) 2 (some h4)) 3 (some h5))))))), (h2, .inr (6, [.ref z5, .int 0])), (h3, .inr (6, [.ref z6, .int 0])), (h4, .inr (6, [.ref z7, .int 0])), (h5, .inr (6, [.ref z8, .int 0]))]) [0, 1, 2, 5, 3, 4] (by decide) rfl
  exact W.iret (v := 0) hx hb hr (fun t ht hW => ⟨⟨0, (), rfl, rfl, by rw [ht]; exact hP, va_K.moved hW.alike hK, hD⟩, hS.F ht⟩) hS.2.2 dX3_clear_24
set_option maxHeartbeats 4000000 in
set_option maxRecDepth 100000 in
theorem kx_X3_clear_2 (l : Launch) (dC : Nat → ClassId) (dI : Nat → Nat → Nat) (h0 : Nat) (h1 : Nat) (h2 : Nat) (h3 : Nat) (h4 : Nat) (h5 : Nat) (z0 : Nat) (z1 : Nat) (z2 : Nat) (z3 : Nat) (z4 : Nat) (z5 : Nat) (z6 : Nat) (z7 : Nat) (z8 : Nat) (k0 : ClassId) (sz : Nat) : Met l yX3_clear wsX3_clear ({ frames := 1, cells := 0, slots := 0, locals := 20 }) (va_Pc [.ref h0, .int 2] (fun U => U.heap.size = sz ∧ va_P (dC, dI) vwCl [(h0, .inr (7, [.ref h1, .ref z0, .ref z1, .ref z2, .ref z3, .ref z4, .int 0, .int 0, .int 0])), (h1, .inl (k0, 4, .inr (.inr (.inr (.inr (va_up (va_up (va_up (va_up (fun _ => none) 0 (some h2)) 1 (some h3)) 2 (some h4)) 3 (some h5))))))), (h2, .inr (6, [.ref z5, .int 0])), (h3, .inr (6, [.ref z6, .int 0])), (h4, .inr (6, [.ref z7, .int 0])), (h5, .inr (6, [.ref z8, .int 0]))] U.heap ∧ va_K (dC, dI) vwCl [(k0, .object "Rewriterope$Text")] U ∧ va_D (fun _ => True) [(h0, .inr (7, [.ref h1, .ref z0, .ref z1, .ref z2, .ref z3, .ref z4, .int 0, .int 0, .int 0])), (h1, .inl (k0, 4, .inr (.inr (.inr (.inr (va_up (va_up (va_up (va_up (fun _ => none) 0 (some h2)) 1 (some h3)) 2 (some h4)) 3 (some h5))))))), (h2, .inr (6, [.ref z5, .int 0])), (h3, .inr (6, [.ref z6, .int 0])), (h4, .inr (6, [.ref z7, .int 0])), (h5, .inr (6, [.ref z8, .int 0]))])) (va_Qi (fun (r : Int32) (_ : Unit) => r = 0) (fun (_ : Unit) (t : State) => va_P (dC, dI) vwCl [(h0, .inr (7, [.ref h1, .ref z0, .ref z1, .ref z2, .ref z3, .ref z4, .int 0, .int 0, .int 0])), (h1, .inl (k0, 4, .inr (.inr (.inr (.inr (va_up (va_up (va_up (va_up (fun _ => none) 0 (some h2)) 1 (some h3)) 2 (some h4)) 3 (some h5))))))), (h2, .inr (6, [.ref z5, .int 0])), (h3, .inr (6, [.ref z6, .int 0])), (h4, .inr (6, [.ref z7, .int 0])), (h5, .inr (6, [.ref z8, .int 0]))] t.heap ∧ va_K (dC, dI) vwCl [(k0, .object "Rewriterope$Text")] t ∧ va_D (va_A [(h0, .inr (7, [.ref h1, .ref z0, .ref z1, .ref z2, .ref z3, .ref z4, .int 0, .int 0, .int 0])), (h1, .inl (k0, 4, .inr (.inr (.inr (.inr (va_up (va_up (va_up (va_up (fun _ => none) 0 (some h2)) 1 (some h3)) 2 (some h4)) 3 (some h5))))))), (h2, .inr (6, [.ref z5, .int 0])), (h3, .inr (6, [.ref z6, .int 0])), (h4, .inr (6, [.ref z7, .int 0])), (h5, .inr (6, [.ref z8, .int 0]))] sz) [(h0, .inr (7, [.ref h1, .ref z0, .ref z1, .ref z2, .ref z3, .ref z4, .int 0, .int 0, .int 0])), (h1, .inl (k0, 4, .inr (.inr (.inr (.inr (va_up (va_up (va_up (va_up (fun _ => none) 0 (some h2)) 1 (some h3)) 2 (some h4)) 3 (some h5))))))), (h2, .inr (6, [.ref z5, .int 0])), (h3, .inr (6, [.ref z6, .int 0])), (h4, .inr (6, [.ref z7, .int 0])), (h5, .inr (6, [.ref z8, .int 0]))]) (va_A [(h0, .inr (7, [.ref h1, .ref z0, .ref z1, .ref z2, .ref z3, .ref z4, .int 0, .int 0, .int 0])), (h1, .inl (k0, 4, .inr (.inr (.inr (.inr (va_up (va_up (va_up (va_up (fun _ => none) 0 (some h2)) 1 (some h3)) 2 (some h4)) 3 (some h5))))))), (h2, .inr (6, [.ref z5, .int 0])), (h3, .inr (6, [.ref z6, .int 0])), (h4, .inr (6, [.ref z7, .int 0])), (h5, .inr (6, [.ref z8, .int 0]))] sz)) 0 0 (va_A [(h0, .inr (7, [.ref h1, .ref z0, .ref z1, .ref z2, .ref z3, .ref z4, .int 0, .int 0, .int 0])), (h1, .inl (k0, 4, .inr (.inr (.inr (.inr (va_up (va_up (va_up (va_up (fun _ => none) 0 (some h2)) 1 (some h3)) 2 (some h4)) 3 (some h5))))))), (h2, .inr (6, [.ref z5, .int 0])), (h3, .inr (6, [.ref z6, .int 0])), (h4, .inr (6, [.ref z7, .int 0])), (h5, .inr (6, [.ref z8, .int 0]))] sz) := by
  refine Met.ofW (cc := cX3_clear) (maxL := 3) (ret := (some .int)) (by decide) rfl ?_
  intro p e s m args below meth c s₁ B hml hv
  obtain ⟨rfl, hsz, hP, hK, hD0⟩ := hv
  have hx := B.exec
  have hb := B.bytes
  have hr := B.returns
  have hts := atoms_spec (ws := wsX3_clear) B.pre
  have hown : s.vm.findClass RX3 = some m.cls := findClass_of_methodNamed B.named
  have hlocks := B.notSynchronized
  subst hsz
  have hD := hD0.self (sz := s.heap.size)
  generalize hAe : va_A [(h0, .inr (7, [.ref h1, .ref z0, .ref z1, .ref z2, .ref z3, .ref z4, .int 0, .int 0, .int 0])), (h1, .inl (k0, 4, .inr (.inr (.inr (.inr (va_up (va_up (va_up (va_up (fun _ => none) 0 (some h2)) 1 (some h3)) 2 (some h4)) 3 (some h5))))))), (h2, .inr (6, [.ref z5, .int 0])), (h3, .inr (6, [.ref z6, .int 0])), (h4, .inr (6, [.ref z7, .int 0])), (h5, .inr (6, [.ref z8, .int 0]))] s.heap.size = A at hD ⊢
  have hA : ∀ q : Nat, s.heap.size ≤ q → A q := fun q h => by rw [← hAe]; exact Or.inr h
  have hS : va_S A s.heap s.heap [] := va_S.rf
  have hP : va_P (dC, dI) vwCl [(h0, .inr (7, [.ref h1, .ref z0, .ref z1, .ref z2, .ref z3, .ref z4, .int 0, .int 0, .int 0])), (h1, .inl (k0, 4, .inr (.inr (.inr (.inr (va_up (va_up (va_up (va_up (fun _ => none) 0 (some h2)) 1 (some h3)) 2 (some h4)) 3 (some h5))))))), (h2, .inr (6, [.ref z5, .int 0])), (h3, .inr (6, [.ref z6, .int 0])), (h4, .inr (6, [.ref z7, .int 0])), (h5, .inr (6, [.ref z8, .int 0]))] s.heap := hP
  have hl := lv_entry ([.ref h0, .int 2]) (n := 3) (Nat.le_of_ble_eq_true rfl)
  rw [lg_entry_eq]
  generalize (lg_sl ([.ref h0, .int 2]) ++ List.replicate (3 - (lg_sl ([.ref h0, .int 2])).length) Slot.unset).toArray = ls at hl ⊢
  have hl : lv_has ls 3 [(0, .ref h0), (1, .int 2)] := hl
  refine lv_iload_n hx hb dX3_clear_0 rfl (lv_at hl 1 rfl) ?_
  have hPc := hP.sub (ws' := []) [] rfl
  have hDc := hD.sub (ws' := []) [] (by decide) rfl
  have hKc := hK.sub (tys' := []) [] rfl
  have hFc := va_free (wc := []) hD hS hA [] rfl
  refine va_callv (va_runS (As := [.int 2]) (rest := []) ⟨hx, hb, hml, hown, hts⟩ (kx_X3_needRope_3 l dC dI s.heap.size) (cwS 1 hts gX3_clear_X3_needRope rfl rfl rfl (by decide +kernel) ⟨Nat.le_of_ble_eq_true rfl, Nat.le_of_ble_eq_true rfl⟩) ⟨fun a U g mk q => by obtain ⟨q0, q1, qP, qK, qD⟩ := q; exact ⟨q0, q1, qP, va_K.moved (u := U) (U := U.calling g mk a) (Vm.Alike.refl U.vm) qK, qD⟩, fun U hU hW => ⟨rfl, by rw [hU], by rw [hU]; exact hPc, va_K.moved hW.alike hKc, hDc.weaken (fun _ _ _ _ => trivial)⟩⟩ rfl rfl hl.1 rfl (lv_room (Nat.le_of_ble_eq_true rfl)) dX3_clear_1 ⟨Nat.le_of_ble_eq_true rfl, Nat.le_of_ble_eq_true rfl⟩) hS (fun q _ h => hFc q h) hFc (fun u t H1 locs ht hvm hw hB hz1 hk1 hS => ?_)
  obtain ⟨hP1, hK1, hD1⟩ := hB
  rw [ht] at hP1
  have hK1 := va_K.moved hvm.symm hK1
  obtain ⟨hP, hD⟩ := va_join (wr := [(h0, .inr (7, [.ref h1, .ref z0, .ref z1, .ref z2, .ref z3, .ref z4, .int 0, .int 0, .int 0])), (h1, .inl (k0, 4, .inr (.inr (.inr (.inr (va_up (va_up (va_up (va_up (fun _ => none) 0 (some h2)) 1 (some h3)) 2 (some h4)) 3 (some h5))))))), (h2, .inr (6, [.ref z5, .int 0])), (h3, .inr (6, [.ref z6, .int 0])), (h4, .inr (6, [.ref z7, .int 0])), (h5, .inr (6, [.ref z8, .int 0]))]) (w1 := []) hP hD [] [0, 1, 2, 3, 4, 5] rfl rfl (by decide) (by decide) hk1 hFc hP1 hD1
  generalize H1 = H at hP hS ⊢
  have hP : va_P (dC, dI) vwCl [(h0, .inr (7, [.ref h1, .ref z0, .ref z1, .ref z2, .ref z3, .ref z4, .int 0, .int 0, .int 0])), (h1, .inl (k0, 4, .inr (.inr (.inr (.inr (va_up (va_up (va_up (va_up (fun _ => none) 0 (some h2)) 1 (some h3)) 2 (some h4)) 3 (some h5))))))), (h2, .inr (6, [.ref z5, .int 0])), (h3, .inr (6, [.ref z6, .int 0])), (h4, .inr (6, [.ref z7, .int 0])), (h5, .inr (6, [.ref z8, .int 0]))] H := hP
  have hD : va_D A [(h0, .inr (7, [.ref h1, .ref z0, .ref z1, .ref z2, .ref z3, .ref z4, .int 0, .int 0, .int 0])), (h1, .inl (k0, 4, .inr (.inr (.inr (.inr (va_up (va_up (va_up (va_up (fun _ => none) 0 (some h2)) 1 (some h3)) 2 (some h4)) 3 (some h5))))))), (h2, .inr (6, [.ref z5, .int 0])), (h3, .inr (6, [.ref z6, .int 0])), (h4, .inr (6, [.ref z7, .int 0])), (h5, .inr (6, [.ref z8, .int 0]))] := hD
  refine lv_aload_n hx hb dX3_clear_4 rfl (lv_at hl 0 rfl) ?_
  refine va_get (D := (dC, dI)) (ci := 7) (v := .ref h1) (C := RX3) (T := TX3) (N := 9) hx hb hts (by decide +kernel) hown hK hP 0 rfl rfl 0 (by decide) (hts (.fieldLink RX3 11 "Rewriterope" "ropes" "[LRewriterope$Text;") (by decide +kernel)) (fun _ h9 => h9) rfl dX3_clear_5 ?_
  refine lv_iload_n hx hb dX3_clear_8 rfl (lv_at hl 1 rfl) ?_
  refine va_aldq (D := (dC, dI)) hx hb hK hP 1 0 rfl rfl (by unfold vp_in; decide) dX3_clear_9 ?_
  refine W.eq (g2 := F0 m 10 ls [.ref h4]) rfl ?_
  refine va_get (D := (dC, dI)) (ci := 6) (v := .int 0) (C := RX2) (T := TX2) (N := 2) hx hb hts (by decide +kernel) hown hK hP 4 rfl rfl 1 (by decide) (hts (.fieldLink RX3 65 "Rewriterope$Text" "length" "I") (by decide +kernel)) (fun _ h9 => h9) rfl dX3_clear_10 ?_
  refine lv_istore_n (lv' := [(2, .int 0), (0, .ref h0), (1, .int 2)]) hx hb dX3_clear_13 rfl hl (by decide) rfl (fun ls hl => ?_)
  refine lv_aload_n hx hb dX3_clear_14 rfl (lv_at hl 1 rfl) ?_
  refine va_get (D := (dC, dI)) (ci := 7) (v := .ref h1) (C := RX3) (T := TX3) (N := 9) hx hb hts (by decide +kernel) hown hK hP 0 rfl rfl 0 (by decide) (hts (.fieldLink RX3 11 "Rewriterope" "ropes" "[LRewriterope$Text;") (by decide +kernel)) (fun _ h9 => h9) rfl dX3_clear_15 ?_
  refine lv_iload_n hx hb dX3_clear_18 rfl (lv_at hl 2 rfl) ?_
  refine va_aldq (D := (dC, dI)) hx hb hK hP 1 0 rfl rfl (by unfold vp_in; decide) dX3_clear_19 ?_
  refine W.eq (g2 := F0 m 20 ls [.ref h4]) rfl ?_
  have hPc := hP.sub (ws' := [(h4, .inr (6, [.ref z7, .int 0]))]) [4] rfl
  have hDc := hD.sub (ws' := [(h4, .inr (6, [.ref z7, .int 0]))]) [4] (by decide) rfl
  have hKc := hK.sub (tys' := []) [] rfl
  have hFc := va_free (wc := [(h4, .inr (6, [.ref z7, .int 0]))]) hD hS hA [4] rfl
  refine va_callv (va_runV (As := []) (rest := []) ⟨hx, hb, hml, hown, hts⟩ (kx_X2_makeEmpty_0 l dC dI h4 z7 H.size) (cwV 0 hts gX3_clear_X2_makeEmpty rfl rfl rfl (by decide +kernel) ⟨Nat.le_of_ble_eq_true rfl, Nat.le_of_ble_eq_true rfl⟩) ⟨fun a U g mk q => by obtain ⟨q0, q1, qP, qK, qD⟩ := q; exact ⟨q0, q1, qP, va_K.moved (u := U) (U := U.calling g mk a) (Vm.Alike.refl U.vm) qK, qD⟩, va_recv hKc hPc (ci := 6) (q0 := 0) rfl rfl, fun U hU hW => ⟨rfl, by rw [hU], by rw [hU]; exact hPc, va_K.moved hW.alike hKc, hDc.weaken (fun _ _ _ _ => trivial)⟩⟩ rfl rfl hl.1 rfl (lv_room (Nat.le_of_ble_eq_true rfl)) dX3_clear_20 ⟨Nat.le_of_ble_eq_true rfl, Nat.le_of_ble_eq_true rfl⟩) hS (fun q _ h => hFc q h) hFc (fun u t H1 locs ht hvm hw hB hz1 hk1 hS => ?_)
  obtain ⟨hP1, hK1, hD1⟩ := hB
  rw [ht] at hP1
  have hK1 := va_K.moved hvm.symm hK1
  obtain ⟨hP, hD⟩ := va_join (wr := [(h0, .inr (7, [.ref h1, .ref z0, .ref z1, .ref z2, .ref z3, .ref z4, .int 0, .int 0, .int 0])), (h1, .inl (k0, 4, .inr (.inr (.inr (.inr (va_up (va_up (va_up (va_up (fun _ => none) 0 (some h2)) 1 (some h3)) 2 (some h4)) 3 (some h5))))))), (h2, .inr (6, [.ref z5, .int 0])), (h3, .inr (6, [.ref z6, .int 0])), (h5, .inr (6, [.ref z8, .int 0]))]) (w1 := [(h4, .inr (6, [.ref z7, .int 0]))]) hP hD [4] [0, 1, 2, 3, 5] rfl rfl (by decide) (by decide) hk1 hFc hP1 hD1
  generalize H1 = H at hP hS ⊢
  have hP : va_P (dC, dI) vwCl [(h0, .inr (7, [.ref h1, .ref z0, .ref z1, .ref z2, .ref z3, .ref z4, .int 0, .int 0, .int 0])), (h1, .inl (k0, 4, .inr (.inr (.inr (.inr (va_up (va_up (va_up (va_up (fun _ => none) 0 (some h2)) 1 (some h3)) 2 (some h4)) 3 (some h5))))))), (h2, .inr (6, [.ref z5, .int 0])), (h3, .inr (6, [.ref z6, .int 0])), (h5, .inr (6, [.ref z8, .int 0])), (h4, .inr (6, [.ref z7, .int 0]))] H := hP
  have hD : va_D A [(h0, .inr (7, [.ref h1, .ref z0, .ref z1, .ref z2, .ref z3, .ref z4, .int 0, .int 0, .int 0])), (h1, .inl (k0, 4, .inr (.inr (.inr (.inr (va_up (va_up (va_up (va_up (fun _ => none) 0 (some h2)) 1 (some h3)) 2 (some h4)) 3 (some h5))))))), (h2, .inr (6, [.ref z5, .int 0])), (h3, .inr (6, [.ref z6, .int 0])), (h5, .inr (6, [.ref z8, .int 0])), (h4, .inr (6, [.ref z7, .int 0]))] := hD
  refine lv_iload_n hx hb dX3_clear_23 rfl (lv_at hl 0 rfl) ?_
  have hP := hP.sub (ws' := [(h0, .inr (7, [.ref h1, .ref z0, .ref z1, .ref z2, .ref z3, .ref z4, .int 0, .int 0, .int 0])), (h1, .inl (k0, 4, .inr (.inr (.inr (.inr (va_up (va_up (va_up (va_up (fun _ => none) 0 (some h2)) 1 (some h3)) 2 (some h4)) 3 (some h5))))))), (h2, .inr (6, [.ref z5, .int 0])), (h3, .inr (6, [.ref z6, .int 0])), (h4, .inr (6, [.ref z7, .int 0])), (h5, .inr (6, [.ref z8, .int 0]))]) [0, 1, 2, 3, 5, 4] rfl
  have hD := hD.sub (ws' := [(h0, .inr (7, [.ref h1, .ref z0, .ref z1, .ref z2, .ref z3, .ref z4, .int 0, .int 0, .int 0])), (h1, .inl (k0, 4, .inr (.inr (.inr (.inr (va_up (va_up (va_up (va_up (fun _ => none) 0 (some h2)) 1 (some h3)) 2 (some h4)) 3 (some h5))))))), (h2, .inr (6, [.ref z5, .int 0])), (h3, .inr (6, [.ref z6, .int 0])), (h4, .inr (6, [.ref z7, .int 0])), (h5, .inr (6, [.ref z8, .int 0]))]) [0, 1, 2, 3, 5, 4] (by decide) rfl
  exact W.iret (v := 0) hx hb hr (fun t ht hW => ⟨⟨0, (), rfl, rfl, by rw [ht]; exact hP, va_K.moved hW.alike hK, hD⟩, hS.F ht⟩) hS.2.2 dX3_clear_24
set_option maxHeartbeats 4000000 in
set_option maxRecDepth 100000 in
theorem kx_X3_clear_3 (l : Launch) (dC : Nat → ClassId) (dI : Nat → Nat → Nat) (h0 : Nat) (h1 : Nat) (h2 : Nat) (h3 : Nat) (h4 : Nat) (h5 : Nat) (z0 : Nat) (z1 : Nat) (z2 : Nat) (z3 : Nat) (z4 : Nat) (z5 : Nat) (z6 : Nat) (z7 : Nat) (z8 : Nat) (k0 : ClassId) (sz : Nat) : Met l yX3_clear wsX3_clear ({ frames := 1, cells := 0, slots := 0, locals := 20 }) (va_Pc [.ref h0, .int 3] (fun U => U.heap.size = sz ∧ va_P (dC, dI) vwCl [(h0, .inr (7, [.ref h1, .ref z0, .ref z1, .ref z2, .ref z3, .ref z4, .int 0, .int 0, .int 0])), (h1, .inl (k0, 4, .inr (.inr (.inr (.inr (va_up (va_up (va_up (va_up (fun _ => none) 0 (some h2)) 1 (some h3)) 2 (some h4)) 3 (some h5))))))), (h2, .inr (6, [.ref z5, .int 0])), (h3, .inr (6, [.ref z6, .int 0])), (h4, .inr (6, [.ref z7, .int 0])), (h5, .inr (6, [.ref z8, .int 0]))] U.heap ∧ va_K (dC, dI) vwCl [(k0, .object "Rewriterope$Text")] U ∧ va_D (fun _ => True) [(h0, .inr (7, [.ref h1, .ref z0, .ref z1, .ref z2, .ref z3, .ref z4, .int 0, .int 0, .int 0])), (h1, .inl (k0, 4, .inr (.inr (.inr (.inr (va_up (va_up (va_up (va_up (fun _ => none) 0 (some h2)) 1 (some h3)) 2 (some h4)) 3 (some h5))))))), (h2, .inr (6, [.ref z5, .int 0])), (h3, .inr (6, [.ref z6, .int 0])), (h4, .inr (6, [.ref z7, .int 0])), (h5, .inr (6, [.ref z8, .int 0]))])) (va_Qi (fun (r : Int32) (_ : Unit) => r = 0) (fun (_ : Unit) (t : State) => va_P (dC, dI) vwCl [(h0, .inr (7, [.ref h1, .ref z0, .ref z1, .ref z2, .ref z3, .ref z4, .int 0, .int 0, .int 0])), (h1, .inl (k0, 4, .inr (.inr (.inr (.inr (va_up (va_up (va_up (va_up (fun _ => none) 0 (some h2)) 1 (some h3)) 2 (some h4)) 3 (some h5))))))), (h2, .inr (6, [.ref z5, .int 0])), (h3, .inr (6, [.ref z6, .int 0])), (h4, .inr (6, [.ref z7, .int 0])), (h5, .inr (6, [.ref z8, .int 0]))] t.heap ∧ va_K (dC, dI) vwCl [(k0, .object "Rewriterope$Text")] t ∧ va_D (va_A [(h0, .inr (7, [.ref h1, .ref z0, .ref z1, .ref z2, .ref z3, .ref z4, .int 0, .int 0, .int 0])), (h1, .inl (k0, 4, .inr (.inr (.inr (.inr (va_up (va_up (va_up (va_up (fun _ => none) 0 (some h2)) 1 (some h3)) 2 (some h4)) 3 (some h5))))))), (h2, .inr (6, [.ref z5, .int 0])), (h3, .inr (6, [.ref z6, .int 0])), (h4, .inr (6, [.ref z7, .int 0])), (h5, .inr (6, [.ref z8, .int 0]))] sz) [(h0, .inr (7, [.ref h1, .ref z0, .ref z1, .ref z2, .ref z3, .ref z4, .int 0, .int 0, .int 0])), (h1, .inl (k0, 4, .inr (.inr (.inr (.inr (va_up (va_up (va_up (va_up (fun _ => none) 0 (some h2)) 1 (some h3)) 2 (some h4)) 3 (some h5))))))), (h2, .inr (6, [.ref z5, .int 0])), (h3, .inr (6, [.ref z6, .int 0])), (h4, .inr (6, [.ref z7, .int 0])), (h5, .inr (6, [.ref z8, .int 0]))]) (va_A [(h0, .inr (7, [.ref h1, .ref z0, .ref z1, .ref z2, .ref z3, .ref z4, .int 0, .int 0, .int 0])), (h1, .inl (k0, 4, .inr (.inr (.inr (.inr (va_up (va_up (va_up (va_up (fun _ => none) 0 (some h2)) 1 (some h3)) 2 (some h4)) 3 (some h5))))))), (h2, .inr (6, [.ref z5, .int 0])), (h3, .inr (6, [.ref z6, .int 0])), (h4, .inr (6, [.ref z7, .int 0])), (h5, .inr (6, [.ref z8, .int 0]))] sz)) 0 0 (va_A [(h0, .inr (7, [.ref h1, .ref z0, .ref z1, .ref z2, .ref z3, .ref z4, .int 0, .int 0, .int 0])), (h1, .inl (k0, 4, .inr (.inr (.inr (.inr (va_up (va_up (va_up (va_up (fun _ => none) 0 (some h2)) 1 (some h3)) 2 (some h4)) 3 (some h5))))))), (h2, .inr (6, [.ref z5, .int 0])), (h3, .inr (6, [.ref z6, .int 0])), (h4, .inr (6, [.ref z7, .int 0])), (h5, .inr (6, [.ref z8, .int 0]))] sz) := by
  refine Met.ofW (cc := cX3_clear) (maxL := 3) (ret := (some .int)) (by decide) rfl ?_
  intro p e s m args below meth c s₁ B hml hv
  obtain ⟨rfl, hsz, hP, hK, hD0⟩ := hv
  have hx := B.exec
  have hb := B.bytes
  have hr := B.returns
  have hts := atoms_spec (ws := wsX3_clear) B.pre
  have hown : s.vm.findClass RX3 = some m.cls := findClass_of_methodNamed B.named
  have hlocks := B.notSynchronized
  subst hsz
  have hD := hD0.self (sz := s.heap.size)
  generalize hAe : va_A [(h0, .inr (7, [.ref h1, .ref z0, .ref z1, .ref z2, .ref z3, .ref z4, .int 0, .int 0, .int 0])), (h1, .inl (k0, 4, .inr (.inr (.inr (.inr (va_up (va_up (va_up (va_up (fun _ => none) 0 (some h2)) 1 (some h3)) 2 (some h4)) 3 (some h5))))))), (h2, .inr (6, [.ref z5, .int 0])), (h3, .inr (6, [.ref z6, .int 0])), (h4, .inr (6, [.ref z7, .int 0])), (h5, .inr (6, [.ref z8, .int 0]))] s.heap.size = A at hD ⊢
  have hA : ∀ q : Nat, s.heap.size ≤ q → A q := fun q h => by rw [← hAe]; exact Or.inr h
  have hS : va_S A s.heap s.heap [] := va_S.rf
  have hP : va_P (dC, dI) vwCl [(h0, .inr (7, [.ref h1, .ref z0, .ref z1, .ref z2, .ref z3, .ref z4, .int 0, .int 0, .int 0])), (h1, .inl (k0, 4, .inr (.inr (.inr (.inr (va_up (va_up (va_up (va_up (fun _ => none) 0 (some h2)) 1 (some h3)) 2 (some h4)) 3 (some h5))))))), (h2, .inr (6, [.ref z5, .int 0])), (h3, .inr (6, [.ref z6, .int 0])), (h4, .inr (6, [.ref z7, .int 0])), (h5, .inr (6, [.ref z8, .int 0]))] s.heap := hP
  have hl := lv_entry ([.ref h0, .int 3]) (n := 3) (Nat.le_of_ble_eq_true rfl)
  rw [lg_entry_eq]
  generalize (lg_sl ([.ref h0, .int 3]) ++ List.replicate (3 - (lg_sl ([.ref h0, .int 3])).length) Slot.unset).toArray = ls at hl ⊢
  have hl : lv_has ls 3 [(0, .ref h0), (1, .int 3)] := hl
  refine lv_iload_n hx hb dX3_clear_0 rfl (lv_at hl 1 rfl) ?_
  have hPc := hP.sub (ws' := []) [] rfl
  have hDc := hD.sub (ws' := []) [] (by decide) rfl
  have hKc := hK.sub (tys' := []) [] rfl
  have hFc := va_free (wc := []) hD hS hA [] rfl
  refine va_callv (va_runS (As := [.int 3]) (rest := []) ⟨hx, hb, hml, hown, hts⟩ (kx_X3_needRope_4 l dC dI s.heap.size) (cwS 1 hts gX3_clear_X3_needRope rfl rfl rfl (by decide +kernel) ⟨Nat.le_of_ble_eq_true rfl, Nat.le_of_ble_eq_true rfl⟩) ⟨fun a U g mk q => by obtain ⟨q0, q1, qP, qK, qD⟩ := q; exact ⟨q0, q1, qP, va_K.moved (u := U) (U := U.calling g mk a) (Vm.Alike.refl U.vm) qK, qD⟩, fun U hU hW => ⟨rfl, by rw [hU], by rw [hU]; exact hPc, va_K.moved hW.alike hKc, hDc.weaken (fun _ _ _ _ => trivial)⟩⟩ rfl rfl hl.1 rfl (lv_room (Nat.le_of_ble_eq_true rfl)) dX3_clear_1 ⟨Nat.le_of_ble_eq_true rfl, Nat.le_of_ble_eq_true rfl⟩) hS (fun q _ h => hFc q h) hFc (fun u t H1 locs ht hvm hw hB hz1 hk1 hS => ?_)
  obtain ⟨hP1, hK1, hD1⟩ := hB
  rw [ht] at hP1
  have hK1 := va_K.moved hvm.symm hK1
  obtain ⟨hP, hD⟩ := va_join (wr := [(h0, .inr (7, [.ref h1, .ref z0, .ref z1, .ref z2, .ref z3, .ref z4, .int 0, .int 0, .int 0])), (h1, .inl (k0, 4, .inr (.inr (.inr (.inr (va_up (va_up (va_up (va_up (fun _ => none) 0 (some h2)) 1 (some h3)) 2 (some h4)) 3 (some h5))))))), (h2, .inr (6, [.ref z5, .int 0])), (h3, .inr (6, [.ref z6, .int 0])), (h4, .inr (6, [.ref z7, .int 0])), (h5, .inr (6, [.ref z8, .int 0]))]) (w1 := []) hP hD [] [0, 1, 2, 3, 4, 5] rfl rfl (by decide) (by decide) hk1 hFc hP1 hD1
  generalize H1 = H at hP hS ⊢
  have hP : va_P (dC, dI) vwCl [(h0, .inr (7, [.ref h1, .ref z0, .ref z1, .ref z2, .ref z3, .ref z4, .int 0, .int 0, .int 0])), (h1, .inl (k0, 4, .inr (.inr (.inr (.inr (va_up (va_up (va_up (va_up (fun _ => none) 0 (some h2)) 1 (some h3)) 2 (some h4)) 3 (some h5))))))), (h2, .inr (6, [.ref z5, .int 0])), (h3, .inr (6, [.ref z6, .int 0])), (h4, .inr (6, [.ref z7, .int 0])), (h5, .inr (6, [.ref z8, .int 0]))] H := hP
  have hD : va_D A [(h0, .inr (7, [.ref h1, .ref z0, .ref z1, .ref z2, .ref z3, .ref z4, .int 0, .int 0, .int 0])), (h1, .inl (k0, 4, .inr (.inr (.inr (.inr (va_up (va_up (va_up (va_up (fun _ => none) 0 (some h2)) 1 (some h3)) 2 (some h4)) 3 (some h5))))))), (h2, .inr (6, [.ref z5, .int 0])), (h3, .inr (6, [.ref z6, .int 0])), (h4, .inr (6, [.ref z7, .int 0])), (h5, .inr (6, [.ref z8, .int 0]))] := hD
  refine lv_aload_n hx hb dX3_clear_4 rfl (lv_at hl 0 rfl) ?_
  refine va_get (D := (dC, dI)) (ci := 7) (v := .ref h1) (C := RX3) (T := TX3) (N := 9) hx hb hts (by decide +kernel) hown hK hP 0 rfl rfl 0 (by decide) (hts (.fieldLink RX3 11 "Rewriterope" "ropes" "[LRewriterope$Text;") (by decide +kernel)) (fun _ h9 => h9) rfl dX3_clear_5 ?_
  refine lv_iload_n hx hb dX3_clear_8 rfl (lv_at hl 1 rfl) ?_
  refine va_aldq (D := (dC, dI)) hx hb hK hP 1 0 rfl rfl (by unfold vp_in; decide) dX3_clear_9 ?_
  refine W.eq (g2 := F0 m 10 ls [.ref h5]) rfl ?_
  refine va_get (D := (dC, dI)) (ci := 6) (v := .int 0) (C := RX2) (T := TX2) (N := 2) hx hb hts (by decide +kernel) hown hK hP 5 rfl rfl 1 (by decide) (hts (.fieldLink RX3 65 "Rewriterope$Text" "length" "I") (by decide +kernel)) (fun _ h9 => h9) rfl dX3_clear_10 ?_
  refine lv_istore_n (lv' := [(2, .int 0), (0, .ref h0), (1, .int 3)]) hx hb dX3_clear_13 rfl hl (by decide) rfl (fun ls hl => ?_)
  refine lv_aload_n hx hb dX3_clear_14 rfl (lv_at hl 1 rfl) ?_
  refine va_get (D := (dC, dI)) (ci := 7) (v := .ref h1) (C := RX3) (T := TX3) (N := 9) hx hb hts (by decide +kernel) hown hK hP 0 rfl rfl 0 (by decide) (hts (.fieldLink RX3 11 "Rewriterope" "ropes" "[LRewriterope$Text;") (by decide +kernel)) (fun _ h9 => h9) rfl dX3_clear_15 ?_
  refine lv_iload_n hx hb dX3_clear_18 rfl (lv_at hl 2 rfl) ?_
  refine va_aldq (D := (dC, dI)) hx hb hK hP 1 0 rfl rfl (by unfold vp_in; decide) dX3_clear_19 ?_
  refine W.eq (g2 := F0 m 20 ls [.ref h5]) rfl ?_
  have hPc := hP.sub (ws' := [(h5, .inr (6, [.ref z8, .int 0]))]) [5] rfl
  have hDc := hD.sub (ws' := [(h5, .inr (6, [.ref z8, .int 0]))]) [5] (by decide) rfl
  have hKc := hK.sub (tys' := []) [] rfl
  have hFc := va_free (wc := [(h5, .inr (6, [.ref z8, .int 0]))]) hD hS hA [5] rfl
  refine va_callv (va_runV (As := []) (rest := []) ⟨hx, hb, hml, hown, hts⟩ (kx_X2_makeEmpty_0 l dC dI h5 z8 H.size) (cwV 0 hts gX3_clear_X2_makeEmpty rfl rfl rfl (by decide +kernel) ⟨Nat.le_of_ble_eq_true rfl, Nat.le_of_ble_eq_true rfl⟩) ⟨fun a U g mk q => by obtain ⟨q0, q1, qP, qK, qD⟩ := q; exact ⟨q0, q1, qP, va_K.moved (u := U) (U := U.calling g mk a) (Vm.Alike.refl U.vm) qK, qD⟩, va_recv hKc hPc (ci := 6) (q0 := 0) rfl rfl, fun U hU hW => ⟨rfl, by rw [hU], by rw [hU]; exact hPc, va_K.moved hW.alike hKc, hDc.weaken (fun _ _ _ _ => trivial)⟩⟩ rfl rfl hl.1 rfl (lv_room (Nat.le_of_ble_eq_true rfl)) dX3_clear_20 ⟨Nat.le_of_ble_eq_true rfl, Nat.le_of_ble_eq_true rfl⟩) hS (fun q _ h => hFc q h) hFc (fun u t H1 locs ht hvm hw hB hz1 hk1 hS => ?_)
  obtain ⟨hP1, hK1, hD1⟩ := hB
  rw [ht] at hP1
  have hK1 := va_K.moved hvm.symm hK1
  obtain ⟨hP, hD⟩ := va_join (wr := [(h0, .inr (7, [.ref h1, .ref z0, .ref z1, .ref z2, .ref z3, .ref z4, .int 0, .int 0, .int 0])), (h1, .inl (k0, 4, .inr (.inr (.inr (.inr (va_up (va_up (va_up (va_up (fun _ => none) 0 (some h2)) 1 (some h3)) 2 (some h4)) 3 (some h5))))))), (h2, .inr (6, [.ref z5, .int 0])), (h3, .inr (6, [.ref z6, .int 0])), (h4, .inr (6, [.ref z7, .int 0]))]) (w1 := [(h5, .inr (6, [.ref z8, .int 0]))]) hP hD [5] [0, 1, 2, 3, 4] rfl rfl (by decide) (by decide) hk1 hFc hP1 hD1
  generalize H1 = H at hP hS ⊢
  have hP : va_P (dC, dI) vwCl [(h0, .inr (7, [.ref h1, .ref z0, .ref z1, .ref z2, .ref z3, .ref z4, .int 0, .int 0, .int 0])), (h1, .inl (k0, 4, .inr (.inr (.inr (.inr (va_up (va_up (va_up (va_up (fun _ => none) 0 (some h2)) 1 (some h3)) 2 (some h4)) 3 (some h5))))))), (h2, .inr (6, [.ref z5, .int 0])), (h3, .inr (6, [.ref z6, .int 0])), (h4, .inr (6, [.ref z7, .int 0])), (h5, .inr (6, [.ref z8, .int 0]))] H := hP
  have hD : va_D A [(h0, .inr (7, [.ref h1, .ref z0, .ref z1, .ref z2, .ref z3, .ref z4, .int 0, .int 0, .int 0])), (h1, .inl (k0, 4, .inr (.inr (.inr (.inr (va_up (va_up (va_up (va_up (fun _ => none) 0 (some h2)) 1 (some h3)) 2 (some h4)) 3 (some h5))))))), (h2, .inr (6, [.ref z5, .int 0])), (h3, .inr (6, [.ref z6, .int 0])), (h4, .inr (6, [.ref z7, .int 0])), (h5, .inr (6, [.ref z8, .int 0]))] := hD
  refine lv_iload_n hx hb dX3_clear_23 rfl (lv_at hl 0 rfl) ?_
  exact W.iret (v := 0) hx hb hr (fun t ht hW => ⟨⟨0, (), rfl, rfl, by rw [ht]; exact hP, va_K.moved hW.alike hK, hD⟩, hS.F ht⟩) hS.2.2 dX3_clear_24
set_option maxHeartbeats 4000000 in
set_option maxRecDepth 100000 in
theorem kx_X3_clear_s0 (l : Launch) (dC : Nat → ClassId) (dI : Nat → Nat → Nat) (h0 : Nat) (h1 : Nat) (h2 : Nat) (h3 : Nat) (h4 : Nat) (h5 : Nat) (z0 : Nat) (z1 : Nat) (z2 : Nat) (z3 : Nat) (z4 : Nat) (z5 : Nat) (z6 : Nat) (z7 : Nat) (z8 : Nat) (k0 : ClassId) (sz : Nat) (j0 : Int32) (j0_l : (0 : Int) ≤ j0.toInt) (j0_u : j0.toInt ≤ (3 : Int)) : Met l yX3_clear wsX3_clear ({ frames := 1, cells := 0, slots := 0, locals := 20 }) (va_Pc [.ref h0, .int j0] (fun U => U.heap.size = sz ∧ va_P (dC, dI) vwCl [(h0, .inr (7, [.ref h1, .ref z0, .ref z1, .ref z2, .ref z3, .ref z4, .int 0, .int 0, .int 0])), (h1, .inl (k0, 4, .inr (.inr (.inr (.inr (va_up (va_up (va_up (va_up (fun _ => none) 0 (some h2)) 1 (some h3)) 2 (some h4)) 3 (some h5))))))), (h2, .inr (6, [.ref z5, .int 0])), (h3, .inr (6, [.ref z6, .int 0])), (h4, .inr (6, [.ref z7, .int 0])), (h5, .inr (6, [.ref z8, .int 0]))] U.heap ∧ va_K (dC, dI) vwCl [(k0, .object "Rewriterope$Text")] U ∧ va_D (fun _ => True) [(h0, .inr (7, [.ref h1, .ref z0, .ref z1, .ref z2, .ref z3, .ref z4, .int 0, .int 0, .int 0])), (h1, .inl (k0, 4, .inr (.inr (.inr (.inr (va_up (va_up (va_up (va_up (fun _ => none) 0 (some h2)) 1 (some h3)) 2 (some h4)) 3 (some h5))))))), (h2, .inr (6, [.ref z5, .int 0])), (h3, .inr (6, [.ref z6, .int 0])), (h4, .inr (6, [.ref z7, .int 0])), (h5, .inr (6, [.ref z8, .int 0]))])) (va_Qi (fun (r : Int32) (_ : Unit) => r = 0) (fun (_ : Unit) (t : State) => va_P (dC, dI) vwCl [(h0, .inr (7, [.ref h1, .ref z0, .ref z1, .ref z2, .ref z3, .ref z4, .int 0, .int 0, .int 0])), (h1, .inl (k0, 4, .inr (.inr (.inr (.inr (va_up (va_up (va_up (va_up (fun _ => none) 0 (some h2)) 1 (some h3)) 2 (some h4)) 3 (some h5))))))), (h2, .inr (6, [.ref z5, .int 0])), (h3, .inr (6, [.ref z6, .int 0])), (h4, .inr (6, [.ref z7, .int 0])), (h5, .inr (6, [.ref z8, .int 0]))] t.heap ∧ va_K (dC, dI) vwCl [(k0, .object "Rewriterope$Text")] t ∧ va_D (va_A [(h0, .inr (7, [.ref h1, .ref z0, .ref z1, .ref z2, .ref z3, .ref z4, .int 0, .int 0, .int 0])), (h1, .inl (k0, 4, .inr (.inr (.inr (.inr (va_up (va_up (va_up (va_up (fun _ => none) 0 (some h2)) 1 (some h3)) 2 (some h4)) 3 (some h5))))))), (h2, .inr (6, [.ref z5, .int 0])), (h3, .inr (6, [.ref z6, .int 0])), (h4, .inr (6, [.ref z7, .int 0])), (h5, .inr (6, [.ref z8, .int 0]))] sz) [(h0, .inr (7, [.ref h1, .ref z0, .ref z1, .ref z2, .ref z3, .ref z4, .int 0, .int 0, .int 0])), (h1, .inl (k0, 4, .inr (.inr (.inr (.inr (va_up (va_up (va_up (va_up (fun _ => none) 0 (some h2)) 1 (some h3)) 2 (some h4)) 3 (some h5))))))), (h2, .inr (6, [.ref z5, .int 0])), (h3, .inr (6, [.ref z6, .int 0])), (h4, .inr (6, [.ref z7, .int 0])), (h5, .inr (6, [.ref z8, .int 0]))]) (va_A [(h0, .inr (7, [.ref h1, .ref z0, .ref z1, .ref z2, .ref z3, .ref z4, .int 0, .int 0, .int 0])), (h1, .inl (k0, 4, .inr (.inr (.inr (.inr (va_up (va_up (va_up (va_up (fun _ => none) 0 (some h2)) 1 (some h3)) 2 (some h4)) 3 (some h5))))))), (h2, .inr (6, [.ref z5, .int 0])), (h3, .inr (6, [.ref z6, .int 0])), (h4, .inr (6, [.ref z7, .int 0])), (h5, .inr (6, [.ref z8, .int 0]))] sz)) 0 0 (va_A [(h0, .inr (7, [.ref h1, .ref z0, .ref z1, .ref z2, .ref z3, .ref z4, .int 0, .int 0, .int 0])), (h1, .inl (k0, 4, .inr (.inr (.inr (.inr (va_up (va_up (va_up (va_up (fun _ => none) 0 (some h2)) 1 (some h3)) 2 (some h4)) 3 (some h5))))))), (h2, .inr (6, [.ref z5, .int 0])), (h3, .inr (6, [.ref z6, .int 0])), (h4, .inr (6, [.ref z7, .int 0])), (h5, .inr (6, [.ref z8, .int 0]))] sz) := by
  have e9 : j0 = 0 ∨ j0 = 1 ∨ j0 = 2 ∨ j0 = 3 := by
    have h9 : j0.toInt = 0 ∨ j0.toInt = 1 ∨ j0.toInt = 2 ∨ j0.toInt = 3 := by omega
    rcases h9 with h9 | h9 | h9 | h9
    · exact Or.inl (Int32.toInt_inj.mp (h9.trans (by decide)))
    · exact Or.inr (Or.inl (Int32.toInt_inj.mp (h9.trans (by decide))))
    · exact Or.inr (Or.inr (Or.inl (Int32.toInt_inj.mp (h9.trans (by decide)))))
    · exact Or.inr (Or.inr (Or.inr (Int32.toInt_inj.mp (h9.trans (by decide)))))
  rcases e9 with rfl | rfl | rfl | rfl
  · exact kx_X3_clear_0 l dC dI h0 h1 h2 h3 h4 h5 z0 z1 z2 z3 z4 z5 z6 z7 z8 k0 sz
  · exact kx_X3_clear_1 l dC dI h0 h1 h2 h3 h4 h5 z0 z1 z2 z3 z4 z5 z6 z7 z8 k0 sz
  · exact kx_X3_clear_2 l dC dI h0 h1 h2 h3 h4 h5 z0 z1 z2 z3 z4 z5 z6 z7 z8 k0 sz
  · exact kx_X3_clear_3 l dC dI h0 h1 h2 h3 h4 h5 z0 z1 z2 z3 z4 z5 z6 z7 z8 k0 sz
set_option maxHeartbeats 4000000 in
set_option maxRecDepth 100000 in
theorem kx_L_clear_0 (l : Launch) (dC : Nat → ClassId) (dI : Nat → Nat → Nat) (ge5 gea gv5 gva gde gic gi0 : Nat) (h0 : Nat) (h1 : Nat) (h2 : Nat) (h3 : Nat) (h4 : Nat) (h5 : Nat) (h6 : Nat) (z0 : Nat) (z1 : Nat) (z2 : Nat) (z3 : Nat) (z4 : Nat) (z5 : Nat) (z6 : Nat) (z7 : Nat) (z8 : Nat) (k0 : ClassId) (sz : Nat) (i0 : Int32) (i0_l : (0 : Int) ≤ i0.toInt) (i0_u : i0.toInt ≤ (3 : Int)) : Met l yL_clear wsL_clear ({ frames := 2, cells := 0, slots := 0, locals := 42 }) (va_Pc [.ref h0, .int i0, .ref h6] (fun U => U.heap.size = sz ∧ va_P (dC, dI) vwCl [(h0, .inr (7, [.ref h1, .ref z0, .ref z1, .ref z2, .ref z3, .ref z4, .int 0, .int 0, .int 0])), (h1, .inl (k0, 4, .inr (.inr (.inr (.inr (va_up (va_up (va_up (va_up (fun _ => none) 0 (some h2)) 1 (some h3)) 2 (some h4)) 3 (some h5))))))), (h2, .inr (6, [.ref z5, .int 0])), (h3, .inr (6, [.ref z6, .int 0])), (h4, .inr (6, [.ref z7, .int 0])), (h5, .inr (6, [.ref z8, .int 0])), (h6, .inr (8, [.long 0, .null]))] U.heap ∧ va_K (dC, dI) vwCl [(k0, .object "Rewriterope$Text")] U ∧ va_D (fun _ => True) [(h0, .inr (7, [.ref h1, .ref z0, .ref z1, .ref z2, .ref z3, .ref z4, .int 0, .int 0, .int 0])), (h1, .inl (k0, 4, .inr (.inr (.inr (.inr (va_up (va_up (va_up (va_up (fun _ => none) 0 (some h2)) 1 (some h3)) 2 (some h4)) 3 (some h5))))))), (h2, .inr (6, [.ref z5, .int 0])), (h3, .inr (6, [.ref z6, .int 0])), (h4, .inr (6, [.ref z7, .int 0])), (h5, .inr (6, [.ref z8, .int 0])), (h6, .inr (8, [.long 0, .null]))] ∧ gv ge5 gea gv5 gva gde gic gi0 (va_A [(h0, .inr (7, [.ref h1, .ref z0, .ref z1, .ref z2, .ref z3, .ref z4, .int 0, .int 0, .int 0])), (h1, .inl (k0, 4, .inr (.inr (.inr (.inr (va_up (va_up (va_up (va_up (fun _ => none) 0 (some h2)) 1 (some h3)) 2 (some h4)) 3 (some h5))))))), (h2, .inr (6, [.ref z5, .int 0])), (h3, .inr (6, [.ref z6, .int 0])), (h4, .inr (6, [.ref z7, .int 0])), (h5, .inr (6, [.ref z8, .int 0])), (h6, .inr (8, [.long 0, .null]))] sz) U U.heap)) (va_Qi (fun (r : Int32) (_ : Unit) => r = 0) (fun (_ : Unit) (t : State) => va_P (dC, dI) vwCl [(h0, .inr (7, [.ref h1, .ref z0, .ref z1, .ref z2, .ref z3, .ref z4, .int 0, .int 0, .int 0])), (h1, .inl (k0, 4, .inr (.inr (.inr (.inr (va_up (va_up (va_up (va_up (fun _ => none) 0 (some h2)) 1 (some h3)) 2 (some h4)) 3 (some h5))))))), (h2, .inr (6, [.ref z5, .int 0])), (h3, .inr (6, [.ref z6, .int 0])), (h4, .inr (6, [.ref z7, .int 0])), (h5, .inr (6, [.ref z8, .int 0])), (h6, .inr (8, [.long 0, .null]))] t.heap ∧ va_K (dC, dI) vwCl [(k0, .object "Rewriterope$Text")] t ∧ va_D (va_A [(h0, .inr (7, [.ref h1, .ref z0, .ref z1, .ref z2, .ref z3, .ref z4, .int 0, .int 0, .int 0])), (h1, .inl (k0, 4, .inr (.inr (.inr (.inr (va_up (va_up (va_up (va_up (fun _ => none) 0 (some h2)) 1 (some h3)) 2 (some h4)) 3 (some h5))))))), (h2, .inr (6, [.ref z5, .int 0])), (h3, .inr (6, [.ref z6, .int 0])), (h4, .inr (6, [.ref z7, .int 0])), (h5, .inr (6, [.ref z8, .int 0])), (h6, .inr (8, [.long 0, .null]))] sz) [(h0, .inr (7, [.ref h1, .ref z0, .ref z1, .ref z2, .ref z3, .ref z4, .int 0, .int 0, .int 0])), (h1, .inl (k0, 4, .inr (.inr (.inr (.inr (va_up (va_up (va_up (va_up (fun _ => none) 0 (some h2)) 1 (some h3)) 2 (some h4)) 3 (some h5))))))), (h2, .inr (6, [.ref z5, .int 0])), (h3, .inr (6, [.ref z6, .int 0])), (h4, .inr (6, [.ref z7, .int 0])), (h5, .inr (6, [.ref z8, .int 0])), (h6, .inr (8, [.long 0, .null]))]) (va_A [(h0, .inr (7, [.ref h1, .ref z0, .ref z1, .ref z2, .ref z3, .ref z4, .int 0, .int 0, .int 0])), (h1, .inl (k0, 4, .inr (.inr (.inr (.inr (va_up (va_up (va_up (va_up (fun _ => none) 0 (some h2)) 1 (some h3)) 2 (some h4)) 3 (some h5))))))), (h2, .inr (6, [.ref z5, .int 0])), (h3, .inr (6, [.ref z6, .int 0])), (h4, .inr (6, [.ref z7, .int 0])), (h5, .inr (6, [.ref z8, .int 0])), (h6, .inr (8, [.long 0, .null]))] sz)) 0 0 (va_A [(h0, .inr (7, [.ref h1, .ref z0, .ref z1, .ref z2, .ref z3, .ref z4, .int 0, .int 0, .int 0])), (h1, .inl (k0, 4, .inr (.inr (.inr (.inr (va_up (va_up (va_up (va_up (fun _ => none) 0 (some h2)) 1 (some h3)) 2 (some h4)) 3 (some h5))))))), (h2, .inr (6, [.ref z5, .int 0])), (h3, .inr (6, [.ref z6, .int 0])), (h4, .inr (6, [.ref z7, .int 0])), (h5, .inr (6, [.ref z8, .int 0])), (h6, .inr (8, [.long 0, .null]))] sz) := by
  refine kz_ofWH (cc := cL_clear) (maxL := 4) (ret := (some .int)) (hh := [(0, 10, 13, 19)]) (by decide) rfl ?_
  intro p e s m args below meth c s₁ B hml hv
  obtain ⟨rfl, hsz, hP, hK, hD0, hG⟩ := hv
  have hx := B.exec
  have hb := B.bytes
  have hr := B.returns
  have hts := atoms_spec (ws := wsL_clear) B.pre
  have hown : s.vm.findClass RL = some m.cls := findClass_of_methodNamed B.named
  have htab := vx_table (x := yL_clear) B (hts (.codeWith yL_clear cL_clear 4 (some .int) [(0, 10, 13, 19)]) (by decide +kernel))
  have hlocks := B.notSynchronized
  subst hsz
  have hD := hD0.self (sz := s.heap.size)
  generalize hAe : va_A [(h0, .inr (7, [.ref h1, .ref z0, .ref z1, .ref z2, .ref z3, .ref z4, .int 0, .int 0, .int 0])), (h1, .inl (k0, 4, .inr (.inr (.inr (.inr (va_up (va_up (va_up (va_up (fun _ => none) 0 (some h2)) 1 (some h3)) 2 (some h4)) 3 (some h5))))))), (h2, .inr (6, [.ref z5, .int 0])), (h3, .inr (6, [.ref z6, .int 0])), (h4, .inr (6, [.ref z7, .int 0])), (h5, .inr (6, [.ref z8, .int 0])), (h6, .inr (8, [.long 0, .null]))] s.heap.size = A at hD hG ⊢
  obtain ⟨⟨g_AO_Text, g_AO_String, g_AO_Object, g_nm_RX1_20, g_nm_RX0_17, g_nm_RX3_31, g_nm_RX2_44, g_nm_RL_121, g_nf_RL_13, g_nf_RL_47, g_ca_IO, g_ca_IA, g_ca_IS, g_ca_IntObj, g_ca_StrObj, g_de_RT, g_de_EX, g_de_TH, g_nc_IA_IO, g_nc_IS_IO, g_nc_IS_IA⟩, ⟨g_s3, g_s5, g_sa, g_x278, g_x280, g_x282, g_x284, g_x286, g_x180, g_x238, g_x250⟩, ⟨g_o5, g_c5, g_v5, g_t5, g_oa, g_ca, g_va, g_ta, g_zc, g_zd, g_td, g_zf, g_zU, g_zN, g_zh, g_zk, g_tk, g_oi, g_vi⟩⟩ := id hG
  have hA : ∀ q : Nat, s.heap.size ≤ q → A q := fun q h => by rw [← hAe]; exact Or.inr h
  have hS : va_S A s.heap s.heap [] := va_S.rf
  have hP : va_P (dC, dI) vwCl [(h0, .inr (7, [.ref h1, .ref z0, .ref z1, .ref z2, .ref z3, .ref z4, .int 0, .int 0, .int 0])), (h1, .inl (k0, 4, .inr (.inr (.inr (.inr (va_up (va_up (va_up (va_up (fun _ => none) 0 (some h2)) 1 (some h3)) 2 (some h4)) 3 (some h5))))))), (h2, .inr (6, [.ref z5, .int 0])), (h3, .inr (6, [.ref z6, .int 0])), (h4, .inr (6, [.ref z7, .int 0])), (h5, .inr (6, [.ref z8, .int 0])), (h6, .inr (8, [.long 0, .null]))] s.heap := hP
  have hl := lv_entry ([.ref h0, .int i0, .ref h6]) (n := 4) (Nat.le_of_ble_eq_true rfl)
  rw [lg_entry_eq]
  generalize (lg_sl ([.ref h0, .int i0, .ref h6]) ++ List.replicate (4 - (lg_sl ([.ref h0, .int i0, .ref h6])).length) Slot.unset).toArray = ls at hl ⊢
  have hl : lv_has ls 4 [(0, .ref h0), (1, .int i0), (2, .ref h6)] := hl
  refine lv_aload_n hx hb dL_clear_0 rfl (lv_at hl 2 rfl) ?_
  refine lv_aload_n hx hb dL_clear_1 rfl (lv_at hl 0 rfl) ?_
  refine lv_iload_n hx hb dL_clear_2 rfl (lv_at hl 1 rfl) ?_
  have hPc := hP.sub (ws' := [(h0, .inr (7, [.ref h1, .ref z0, .ref z1, .ref z2, .ref z3, .ref z4, .int 0, .int 0, .int 0])), (h1, .inl (k0, 4, .inr (.inr (.inr (.inr (va_up (va_up (va_up (va_up (fun _ => none) 0 (some h2)) 1 (some h3)) 2 (some h4)) 3 (some h5))))))), (h2, .inr (6, [.ref z5, .int 0])), (h3, .inr (6, [.ref z6, .int 0])), (h4, .inr (6, [.ref z7, .int 0])), (h5, .inr (6, [.ref z8, .int 0]))]) [0, 1, 2, 3, 4, 5] rfl
  have hDc := hD.sub (ws' := [(h0, .inr (7, [.ref h1, .ref z0, .ref z1, .ref z2, .ref z3, .ref z4, .int 0, .int 0, .int 0])), (h1, .inl (k0, 4, .inr (.inr (.inr (.inr (va_up (va_up (va_up (va_up (fun _ => none) 0 (some h2)) 1 (some h3)) 2 (some h4)) 3 (some h5))))))), (h2, .inr (6, [.ref z5, .int 0])), (h3, .inr (6, [.ref z6, .int 0])), (h4, .inr (6, [.ref z7, .int 0])), (h5, .inr (6, [.ref z8, .int 0]))]) [0, 1, 2, 3, 4, 5] (by decide) rfl
  have hKc := hK.sub (tys' := [(k0, .object "Rewriterope$Text")]) [0] rfl
  have hFc := va_free (wc := [(h0, .inr (7, [.ref h1, .ref z0, .ref z1, .ref z2, .ref z3, .ref z4, .int 0, .int 0, .int 0])), (h1, .inl (k0, 4, .inr (.inr (.inr (.inr (va_up (va_up (va_up (va_up (fun _ => none) 0 (some h2)) 1 (some h3)) 2 (some h4)) 3 (some h5))))))), (h2, .inr (6, [.ref z5, .int 0])), (h3, .inr (6, [.ref z6, .int 0])), (h4, .inr (6, [.ref z7, .int 0])), (h5, .inr (6, [.ref z8, .int 0]))]) hD hS hA [0, 1, 2, 3, 4, 5] rfl
  refine va_calli (va_runV (As := [.int i0]) (rest := [.ref h6]) ⟨hx, hb, hml, hown, hts⟩ (kx_X3_clear_s0 l dC dI h0 h1 h2 h3 h4 h5 z0 z1 z2 z3 z4 z5 z6 z7 z8 k0 s.heap.size i0 i0_l i0_u) (cwV 1 hts gL_clear_X3_clear rfl rfl rfl (by decide +kernel) ⟨Nat.le_of_ble_eq_true rfl, Nat.le_of_ble_eq_true rfl⟩) ⟨fun a U g mk q => by obtain ⟨q0, q1, qP, qK, qD⟩ := q; exact ⟨q0, q1, qP, va_K.moved (u := U) (U := U.calling g mk a) (Vm.Alike.refl U.vm) qK, qD⟩, va_recv hKc hPc (ci := 7) (q0 := 0) rfl rfl, fun U hU hW => ⟨rfl, by rw [hU], by rw [hU]; exact hPc, va_K.moved hW.alike hKc, hDc.weaken (fun _ _ _ _ => trivial)⟩⟩ rfl rfl hl.1 rfl (lv_room (Nat.le_of_ble_eq_true rfl)) dL_clear_3 ⟨Nat.le_of_ble_eq_true rfl, Nat.le_of_ble_eq_true rfl⟩) hS (fun q _ h => hFc q h) hFc (fun r9 u t H1 locs ht hvm hw hB hz1 hk1 hS => ?_)
  obtain rfl := hw
  obtain ⟨hP1, hK1, hD1⟩ := hB
  rw [ht] at hP1
  have hK1 := va_K.moved hvm.symm hK1
  obtain ⟨hP, hD⟩ := va_join (wr := [(h6, .inr (8, [.long 0, .null]))]) (w1 := [(h0, .inr (7, [.ref h1, .ref z0, .ref z1, .ref z2, .ref z3, .ref z4, .int 0, .int 0, .int 0])), (h1, .inl (k0, 4, .inr (.inr (.inr (.inr (va_up (va_up (va_up (va_up (fun _ => none) 0 (some h2)) 1 (some h3)) 2 (some h4)) 3 (some h5))))))), (h2, .inr (6, [.ref z5, .int 0])), (h3, .inr (6, [.ref z6, .int 0])), (h4, .inr (6, [.ref z7, .int 0])), (h5, .inr (6, [.ref z8, .int 0]))]) hP hD [0, 1, 2, 3, 4, 5] [6] rfl rfl (by decide) (by decide) hk1 hFc hP1 hD1
  generalize H1 = H at hP hS ⊢
  have hP : va_P (dC, dI) vwCl [(h6, .inr (8, [.long 0, .null])), (h0, .inr (7, [.ref h1, .ref z0, .ref z1, .ref z2, .ref z3, .ref z4, .int 0, .int 0, .int 0])), (h1, .inl (k0, 4, .inr (.inr (.inr (.inr (va_up (va_up (va_up (va_up (fun _ => none) 0 (some h2)) 1 (some h3)) 2 (some h4)) 3 (some h5))))))), (h2, .inr (6, [.ref z5, .int 0])), (h3, .inr (6, [.ref z6, .int 0])), (h4, .inr (6, [.ref z7, .int 0])), (h5, .inr (6, [.ref z8, .int 0]))] H := hP
  have hD : va_D A [(h6, .inr (8, [.long 0, .null])), (h0, .inr (7, [.ref h1, .ref z0, .ref z1, .ref z2, .ref z3, .ref z4, .int 0, .int 0, .int 0])), (h1, .inl (k0, 4, .inr (.inr (.inr (.inr (va_up (va_up (va_up (va_up (fun _ => none) 0 (some h2)) 1 (some h3)) 2 (some h4)) 3 (some h5))))))), (h2, .inr (6, [.ref z5, .int 0])), (h3, .inr (6, [.ref z6, .int 0])), (h4, .inr (6, [.ref z7, .int 0])), (h5, .inr (6, [.ref z8, .int 0]))] := hD
  refine lv_i2l (v := 0) hx hb dL_clear_6 (by decide) ?_
  refine va_putN (D := (dC, dI)) (ci := 8) (v := .long 0) (ty := .long) (C := RX4) (T := TX4) (N := 2) hx hb hts (by decide +kernel) tyX4 tyX4_ok nmX4 hown hK hP hD hS 0 rfl rfl 0 (by decide) (va_Nw.use rfl g_nf_RL_13) (fun _ h9 => h9) rfl (by decide +kernel) rfl rfl (Nat.le_of_ble_eq_true rfl) dL_clear_7 (fun H locs hP hD hS => ?_)
  have hP : va_P (dC, dI) vwCl [(h6, .inr (8, [.long 0, .null])), (h0, .inr (7, [.ref h1, .ref z0, .ref z1, .ref z2, .ref z3, .ref z4, .int 0, .int 0, .int 0])), (h1, .inl (k0, 4, .inr (.inr (.inr (.inr (va_up (va_up (va_up (va_up (fun _ => none) 0 (some h2)) 1 (some h3)) 2 (some h4)) 3 (some h5))))))), (h2, .inr (6, [.ref z5, .int 0])), (h3, .inr (6, [.ref z6, .int 0])), (h4, .inr (6, [.ref z7, .int 0])), (h5, .inr (6, [.ref z8, .int 0]))] H := hP
  have hD : va_D A [(h6, .inr (8, [.long 0, .null])), (h0, .inr (7, [.ref h1, .ref z0, .ref z1, .ref z2, .ref z3, .ref z4, .int 0, .int 0, .int 0])), (h1, .inl (k0, 4, .inr (.inr (.inr (.inr (va_up (va_up (va_up (va_up (fun _ => none) 0 (some h2)) 1 (some h3)) 2 (some h4)) 3 (some h5))))))), (h2, .inr (6, [.ref z5, .int 0])), (h3, .inr (6, [.ref z6, .int 0])), (h4, .inr (6, [.ref z7, .int 0])), (h5, .inr (6, [.ref z8, .int 0]))] := hD
  refine lv_goto (tgt := 16) hx hb dL_clear_10 (by decide) ?_
  refine lv_iconst (v := 0) hx hb dL_clear_16 (by decide) ?_
  have hP := hP.sub (ws' := [(h0, .inr (7, [.ref h1, .ref z0, .ref z1, .ref z2, .ref z3, .ref z4, .int 0, .int 0, .int 0])), (h1, .inl (k0, 4, .inr (.inr (.inr (.inr (va_up (va_up (va_up (va_up (fun _ => none) 0 (some h2)) 1 (some h3)) 2 (some h4)) 3 (some h5))))))), (h2, .inr (6, [.ref z5, .int 0])), (h3, .inr (6, [.ref z6, .int 0])), (h4, .inr (6, [.ref z7, .int 0])), (h5, .inr (6, [.ref z8, .int 0])), (h6, .inr (8, [.long 0, .null]))]) [1, 2, 3, 4, 5, 6, 0] rfl
  have hD := hD.sub (ws' := [(h0, .inr (7, [.ref h1, .ref z0, .ref z1, .ref z2, .ref z3, .ref z4, .int 0, .int 0, .int 0])), (h1, .inl (k0, 4, .inr (.inr (.inr (.inr (va_up (va_up (va_up (va_up (fun _ => none) 0 (some h2)) 1 (some h3)) 2 (some h4)) 3 (some h5))))))), (h2, .inr (6, [.ref z5, .int 0])), (h3, .inr (6, [.ref z6, .int 0])), (h4, .inr (6, [.ref z7, .int 0])), (h5, .inr (6, [.ref z8, .int 0])), (h6, .inr (8, [.long 0, .null]))]) [1, 2, 3, 4, 5, 6, 0] (by decide) rfl
  exact W.iret (v := 0) hx hb hr (fun t ht hW => ⟨⟨0, (), rfl, rfl, by rw [ht]; exact hP, va_K.moved hW.alike hK, hD⟩, hS.F ht⟩) hS.2.2 dL_clear_17
set_option maxHeartbeats 4000000 in
set_option maxRecDepth 100000 in
theorem kx_X5_isIn_0 (l : Launch) (dC : Nat → ClassId) (dI : Nat → Nat → Nat) (sz : Nat) (i0 : Int32) (i0_l : (0 : Int) ≤ i0.toInt) (i0_u : i0.toInt ≤ (3 : Int)) : Met l yX5_isIn wsX5_isIn ({ frames := 0, cells := 0, slots := 0, locals := 0 }) (va_Pc [.int i0, .int 0, .int 3] (fun U => U.heap.size = sz ∧ va_P (dC, dI) vwCl [] U.heap ∧ va_K (dC, dI) vwCl [] U ∧ va_D (fun _ => True) [])) (va_Qi (fun (r : Int32) (_ : Unit) => r = 1) (fun (_ : Unit) (t : State) => va_P (dC, dI) vwCl [] t.heap ∧ va_K (dC, dI) vwCl [] t ∧ va_D (va_A [] sz) []) (va_A [] sz)) 0 0 (va_A [] sz) := by
  refine Met.ofW (cc := cX5_isIn) (maxL := 3) (ret := (some .boolean)) (by decide) rfl ?_
  intro p e s m args below meth c s₁ B hml hv
  obtain ⟨rfl, hsz, hP, hK, hD0⟩ := hv
  have hx := B.exec
  have hb := B.bytes
  have hr := B.returns
  have hts := atoms_spec (ws := wsX5_isIn) B.pre
  have hown : s.vm.findClass RX5 = some m.cls := findClass_of_methodNamed B.named
  have hlocks := B.notSynchronized
  subst hsz
  have hD := hD0.self (sz := s.heap.size)
  generalize hAe : va_A [] s.heap.size = A at hD ⊢
  have hA : ∀ q : Nat, s.heap.size ≤ q → A q := fun q h => by rw [← hAe]; exact Or.inr h
  have hS : va_S A s.heap s.heap [] := va_S.rf
  have hP : va_P (dC, dI) vwCl [] s.heap := hP
  have hl := lv_entry ([.int i0, .int 0, .int 3]) (n := 3) (Nat.le_of_ble_eq_true rfl)
  rw [lg_entry_eq]
  generalize (lg_sl ([.int i0, .int 0, .int 3]) ++ List.replicate (3 - (lg_sl ([.int i0, .int 0, .int 3])).length) Slot.unset).toArray = ls at hl ⊢
  have hl : lv_has ls 3 [(0, .int i0), (1, .int 0), (2, .int 3)] := hl
  refine lv_iload_n hx hb dX5_isIn_0 rfl (lv_at hl 0 rfl) ?_
  refine lv_iload_n hx hb dX5_isIn_1 rfl (lv_at hl 1 rfl) ?_
  refine lv_icmp_lt (tgt := 14) hx hb dX5_isIn_2 (by decide) (fun c9 => absurd c9 (fun c8 => absurd (Int32.lt_iff_toInt_lt.mp c8) (by rw [show (0 : Int32).toInt = 0 from by decide]; omega))) (fun _ => ?_)
  refine lv_iload_n hx hb dX5_isIn_5 rfl (lv_at hl 0 rfl) ?_
  refine lv_iload_n hx hb dX5_isIn_6 rfl (lv_at hl 2 rfl) ?_
  refine lv_icmp_gt (tgt := 14) hx hb dX5_isIn_7 (by decide) (fun c9 => absurd c9 (fun c8 => absurd (Int32.lt_iff_toInt_lt.mp c8) (by rw [show (3 : Int32).toInt = 3 from by decide]; omega))) (fun _ => ?_)
  refine lv_iconst (v := 1) hx hb dX5_isIn_10 (by decide) ?_
  refine lv_goto (tgt := 15) hx hb dX5_isIn_11 (by decide) ?_
  exact W.zret (v := 1) hx hb hr (by decide) (fun t ht hW => ⟨⟨1, (), rfl, rfl, by rw [ht]; exact hP, va_K.moved hW.alike hK, hD⟩, hS.F ht⟩) hS.2.2 dX5_isIn_15
set_option maxHeartbeats 4000000 in
set_option maxRecDepth 100000 in
theorem kx_X5_isNo_0 (l : Launch) (dC : Nat → ClassId) (dI : Nat → Nat → Nat) (sz : Nat) (i0 : Int32) (i0_l : (0 : Int) ≤ i0.toInt) (i0_u : i0.toInt ≤ (3 : Int)) : Met l yX5_isNo wsX5_isNo ({ frames := 1, cells := 0, slots := 0, locals := 22 }) (va_Pc [.int i0] (fun U => U.heap.size = sz ∧ va_P (dC, dI) vwCl [] U.heap ∧ va_K (dC, dI) vwCl [] U ∧ va_D (fun _ => True) [])) (va_Qi (fun (r : Int32) (_ : Unit) => r = 0) (fun (_ : Unit) (t : State) => va_P (dC, dI) vwCl [] t.heap ∧ va_K (dC, dI) vwCl [] t ∧ va_D (va_A [] sz) []) (va_A [] sz)) 0 0 (va_A [] sz) := by
  refine Met.ofW (cc := cX5_isNo) (maxL := 1) (ret := (some .boolean)) (by decide) rfl ?_
  intro p e s m args below meth c s₁ B hml hv
  obtain ⟨rfl, hsz, hP, hK, hD0⟩ := hv
  have hx := B.exec
  have hb := B.bytes
  have hr := B.returns
  have hts := atoms_spec (ws := wsX5_isNo) B.pre
  have hown : s.vm.findClass RX5 = some m.cls := findClass_of_methodNamed B.named
  have hlocks := B.notSynchronized
  subst hsz
  have hD := hD0.self (sz := s.heap.size)
  generalize hAe : va_A [] s.heap.size = A at hD ⊢
  have hA : ∀ q : Nat, s.heap.size ≤ q → A q := fun q h => by rw [← hAe]; exact Or.inr h
  have hS : va_S A s.heap s.heap [] := va_S.rf
  have hP : va_P (dC, dI) vwCl [] s.heap := hP
  have hl := lv_entry ([.int i0]) (n := 1) (Nat.le_of_ble_eq_true rfl)
  rw [lg_entry_eq]
  generalize (lg_sl ([.int i0]) ++ List.replicate (1 - (lg_sl ([.int i0])).length) Slot.unset).toArray = ls at hl ⊢
  have hl : lv_has ls 1 [(0, .int i0)] := hl
  refine lv_iload_n hx hb dX5_isNo_0 rfl (lv_at hl 0 rfl) ?_
  refine lv_iconst (v := 0) hx hb dX5_isNo_1 (by decide) ?_
  refine lv_iconst (v := 3) hx hb dX5_isNo_2 (by decide) ?_
  have hPc := hP.sub (ws' := []) [] rfl
  have hDc := hD.sub (ws' := []) [] (by decide) rfl
  have hKc := hK.sub (tys' := []) [] rfl
  have hFc := va_free (wc := []) hD hS hA [] rfl
  refine va_calli (va_runS (As := [.int i0, .int 0, .int 3]) (rest := []) ⟨hx, hb, hml, hown, hts⟩ (kx_X5_isIn_0 l dC dI s.heap.size i0 i0_l i0_u) (cwS 3 hts gX5_isNo_X5_isIn rfl rfl rfl (by decide +kernel) ⟨Nat.le_of_ble_eq_true rfl, Nat.le_of_ble_eq_true rfl⟩) ⟨fun a U g mk q => by obtain ⟨q0, q1, qP, qK, qD⟩ := q; exact ⟨q0, q1, qP, va_K.moved (u := U) (U := U.calling g mk a) (Vm.Alike.refl U.vm) qK, qD⟩, fun U hU hW => ⟨rfl, by rw [hU], by rw [hU]; exact hPc, va_K.moved hW.alike hKc, hDc.weaken (fun _ _ _ _ => trivial)⟩⟩ rfl rfl hl.1 rfl (lv_room (Nat.le_of_ble_eq_true rfl)) dX5_isNo_3 ⟨Nat.le_of_ble_eq_true rfl, Nat.le_of_ble_eq_true rfl⟩) hS (fun q _ h => hFc q h) hFc (fun r9 u t H1 locs ht hvm hw hB hz1 hk1 hS => ?_)
  obtain rfl := hw
  obtain ⟨hP1, hK1, hD1⟩ := hB
  rw [ht] at hP1
  have hK1 := va_K.moved hvm.symm hK1
  obtain ⟨hP, hD⟩ := va_join (wr := []) (w1 := []) hP hD [] [] rfl rfl (by decide) (by decide) hk1 hFc hP1 hD1
  generalize H1 = H at hP hS ⊢
  have hP : va_P (dC, dI) vwCl [] H := hP
  have hD : va_D A [] := hD
  refine lv_if_ne (tgt := 13) hx hb dX5_isNo_6 (by decide) (fun _ => ?_) (fun c9 => absurd c9 (by decide))
  refine lv_iconst (v := 0) hx hb dX5_isNo_13 (by decide) ?_
  exact W.zret (v := 0) hx hb hr (by decide) (fun t ht hW => ⟨⟨0, (), rfl, rfl, by rw [ht]; exact hP, va_K.moved hW.alike hK, hD⟩, hS.F ht⟩) hS.2.2 dX5_isNo_14
set_option maxHeartbeats 4000000 in
set_option maxRecDepth 100000 in
theorem kx_X5_fails_0 (l : Launch) (dC : Nat → ClassId) (dI : Nat → Nat → Nat) (h0 : Nat) (z0 : Nat) (z1 : Nat) (z2 : Nat) (sz : Nat) : Met l yX5_fails wsX5_fails ({ frames := 0, cells := 0, slots := 0, locals := 0 }) (va_Pc [.ref h0, .int 0, .int 0, .int 0] (fun U => U.heap.size = sz ∧ va_P (dC, dI) vwCl [(h0, .inr (9, [.int 0, .ref z0, .ref z1, .ref z2, .int 0, .int 0, .int 0]))] U.heap ∧ va_K (dC, dI) vwCl [] U ∧ va_D (fun _ => True) [(h0, .inr (9, [.int 0, .ref z0, .ref z1, .ref z2, .int 0, .int 0, .int 0]))])) (va_Qi (fun (r : Int32) (_ : Unit) => r = 0) (fun (_ : Unit) (t : State) => va_P (dC, dI) vwCl [(h0, .inr (9, [.int 0, .ref z0, .ref z1, .ref z2, .int 0, .int 0, .int 0]))] t.heap ∧ va_K (dC, dI) vwCl [] t ∧ va_D (va_A [(h0, .inr (9, [.int 0, .ref z0, .ref z1, .ref z2, .int 0, .int 0, .int 0]))] sz) [(h0, .inr (9, [.int 0, .ref z0, .ref z1, .ref z2, .int 0, .int 0, .int 0]))]) (va_A [(h0, .inr (9, [.int 0, .ref z0, .ref z1, .ref z2, .int 0, .int 0, .int 0]))] sz)) 0 0 (va_A [(h0, .inr (9, [.int 0, .ref z0, .ref z1, .ref z2, .int 0, .int 0, .int 0]))] sz) := by
  refine Met.ofW (cc := cX5_fails) (maxL := 4) (ret := (some .boolean)) (by decide) rfl ?_
  intro p e s m args below meth c s₁ B hml hv
  obtain ⟨rfl, hsz, hP, hK, hD0⟩ := hv
  have hx := B.exec
  have hb := B.bytes
  have hr := B.returns
  have hts := atoms_spec (ws := wsX5_fails) B.pre
  have hown : s.vm.findClass RX5 = some m.cls := findClass_of_methodNamed B.named
  have hlocks := B.notSynchronized
  subst hsz
  have hD := hD0.self (sz := s.heap.size)
  generalize hAe : va_A [(h0, .inr (9, [.int 0, .ref z0, .ref z1, .ref z2, .int 0, .int 0, .int 0]))] s.heap.size = A at hD ⊢
  have hA : ∀ q : Nat, s.heap.size ≤ q → A q := fun q h => by rw [← hAe]; exact Or.inr h
  have hS : va_S A s.heap s.heap [] := va_S.rf
  have hP : va_P (dC, dI) vwCl [(h0, .inr (9, [.int 0, .ref z0, .ref z1, .ref z2, .int 0, .int 0, .int 0]))] s.heap := hP
  have hl := lv_entry ([.ref h0, .int 0, .int 0, .int 0]) (n := 4) (Nat.le_of_ble_eq_true rfl)
  rw [lg_entry_eq]
  generalize (lg_sl ([.ref h0, .int 0, .int 0, .int 0]) ++ List.replicate (4 - (lg_sl ([.ref h0, .int 0, .int 0, .int 0])).length) Slot.unset).toArray = ls at hl ⊢
  have hl : lv_has ls 4 [(0, .ref h0), (1, .int 0), (2, .int 0), (3, .int 0)] := hl
  refine lv_aload_n hx hb dX5_fails_0 rfl (lv_at hl 0 rfl) ?_
  refine lv_iload_n hx hb dX5_fails_1 rfl (lv_at hl 1 rfl) ?_
  refine lv_if_eq (tgt := 9) hx hb dX5_fails_2 (by decide) (fun _ => ?_) (fun c9 => absurd (by decide) c9)
  refine lv_iload_n hx hb dX5_fails_9 rfl (lv_at hl 2 rfl) ?_
  refine lv_if_eq (tgt := 17) hx hb dX5_fails_10 (by decide) (fun _ => ?_) (fun c9 => absurd (by decide) c9)
  refine lv_iload_n hx hb dX5_fails_17 rfl (lv_at hl 3 rfl) ?_
  refine lv_if_eq (tgt := 25) hx hb dX5_fails_18 (by decide) (fun _ => ?_) (fun c9 => absurd (by decide) c9)
  refine lv_iconst (v := 0) hx hb dX5_fails_25 (by decide) ?_
  refine va_put (D := (dC, dI)) (ci := 9) (v := .int 0) (ty := .int) (C := RX5) (T := TX5) (N := 7) hx hb hts (by decide +kernel) tyX5 tyX5_ok nmX5 hown hK hP hD hS 0 rfl rfl 0 (by decide) (hts (.fieldLink RX5 27 "RewriteropeModel" "thrown" "I") (by decide +kernel)) (fun _ h9 => h9) rfl (by decide +kernel) rfl rfl (Nat.le_of_ble_eq_true rfl) dX5_fails_26 (fun H locs hP hD hS => ?_)
  have hP : va_P (dC, dI) vwCl [(h0, .inr (9, [.int 0, .ref z0, .ref z1, .ref z2, .int 0, .int 0, .int 0]))] H := hP
  have hD : va_D A [(h0, .inr (9, [.int 0, .ref z0, .ref z1, .ref z2, .int 0, .int 0, .int 0]))] := hD
  refine lv_aload_n hx hb dX5_fails_29 rfl (lv_at hl 0 rfl) ?_
  refine va_get (D := (dC, dI)) (ci := 9) (v := .int 0) (C := RX5) (T := TX5) (N := 7) hx hb hts (by decide +kernel) hown hK hP 0 rfl rfl 0 (by decide) (hts (.fieldLink RX5 27 "RewriteropeModel" "thrown" "I") (by decide +kernel)) (fun _ h9 => h9) rfl dX5_fails_30 ?_
  refine lv_if_le (tgt := 40) hx hb dX5_fails_33 (by decide) (fun _ => ?_) (fun c9 => absurd (by decide) c9)
  refine lv_iconst (v := 0) hx hb dX5_fails_40 (by decide) ?_
  exact W.zret (v := 0) hx hb hr (by decide) (fun t ht hW => ⟨⟨0, (), rfl, rfl, by rw [ht]; exact hP, va_K.moved hW.alike hK, hD⟩, hS.F ht⟩) hS.2.2 dX5_fails_41
set_option maxHeartbeats 4000000 in
set_option maxRecDepth 100000 in
theorem kx_J0_coder_7d493_0 (l : Launch) (dC : Nat → ClassId) (dI : Nat → Nat → Nat) (ge5 gea gv5 gva gde gic gi0 : Nat) (sz : Nat) : Met l yJ0_coder_7d493 wsJ0_coder_7d493 ({ frames := 0, cells := 0, slots := 0, locals := 0 }) (va_Pc [.ref ge5] (fun U => U.heap.size = sz ∧ va_P (dC, dI) vwCl [] U.heap ∧ va_K (dC, dI) vwCl [] U ∧ va_D (fun _ => True) [] ∧ gv ge5 gea gv5 gva gde gic gi0 (va_A [] sz) U U.heap)) (va_Qi (fun (r : Int32) (_ : Unit) => r = 0) (fun (_ : Unit) (t : State) => va_P (dC, dI) vwCl [] t.heap ∧ va_K (dC, dI) vwCl [] t ∧ va_D (va_A [] sz) []) (va_A [] sz)) 0 0 (va_A [] sz) := by
  refine Met.ofW (cc := cJ0_coder_7d493) (maxL := 1) (ret := (some .byte)) (by decide) rfl ?_
  intro p e s m args below meth c s₁ B hml hv
  obtain ⟨rfl, hsz, hP, hK, hD0, hG⟩ := hv
  have hx := B.exec
  have hb := B.bytes
  have hr := B.returns
  have hts := atoms_spec (ws := wsJ0_coder_7d493) B.pre
  have hown : s.vm.findClass RJ0 = some m.cls := findClass_of_methodNamed B.named
  have hlocks := B.notSynchronized
  subst hsz
  have hD := hD0.self (sz := s.heap.size)
  generalize hAe : va_A [] s.heap.size = A at hD hG ⊢
  obtain ⟨⟨g_AO_Text, g_AO_String, g_AO_Object, g_nm_RX1_20, g_nm_RX0_17, g_nm_RX3_31, g_nm_RX2_44, g_nm_RL_121, g_nf_RL_13, g_nf_RL_47, g_ca_IO, g_ca_IA, g_ca_IS, g_ca_IntObj, g_ca_StrObj, g_de_RT, g_de_EX, g_de_TH, g_nc_IA_IO, g_nc_IS_IO, g_nc_IS_IA⟩, ⟨g_s3, g_s5, g_sa, g_x278, g_x280, g_x282, g_x284, g_x286, g_x180, g_x238, g_x250⟩, ⟨g_o5, g_c5, g_v5, g_t5, g_oa, g_ca, g_va, g_ta, g_zc, g_zd, g_td, g_zf, g_zU, g_zN, g_zh, g_zk, g_tk, g_oi, g_vi⟩⟩ := id hG
  have hA : ∀ q : Nat, s.heap.size ≤ q → A q := fun q h => by rw [← hAe]; exact Or.inr h
  have hS : va_S A s.heap s.heap [] := va_S.rf
  have hP : va_P (dC, dI) vwCl [] s.heap := hP
  have hl := lv_entry ([.ref ge5]) (n := 1) (Nat.le_of_ble_eq_true rfl)
  rw [lg_entry_eq]
  generalize (lg_sl ([.ref ge5]) ++ List.replicate (1 - (lg_sl ([.ref ge5])).length) Slot.unset).toArray = ls at hl ⊢
  have hl : lv_has ls 1 [(0, .ref ge5)] := hl
  refine va_gets (v := .int 1) hx hb g_zc hS hown (hts (.fieldLink RJ0 38 "java/lang/String" "COMPACT_STRINGS" "Z") (by decide +kernel)) (fun _ h9 => h9) dJ0_coder_7d493_0 ?_
  refine lv_if_eq (tgt := 13) hx hb dJ0_coder_7d493_3 (by decide) (fun c9 => absurd c9 (by decide)) (fun _ => ?_)
  refine lv_aload_n hx hb dJ0_coder_7d493_6 rfl (lv_at hl 0 rfl) ?_
  refine vk_getf (v := .int 0) hx hb g_c5 hS hown (hts (.fieldLink RJ0 15 "java/lang/String" "coder" "B") (by decide +kernel)) (fun _ h9 => h9) dJ0_coder_7d493_7 ?_
  refine lv_goto (tgt := 14) hx hb dJ0_coder_7d493_10 (by decide) ?_
  exact W.zret (v := 0) hx hb hr (by decide) (fun t ht hW => ⟨⟨0, (), rfl, rfl, by rw [ht]; exact hP, va_K.moved hW.alike hK, hD⟩, hS.F ht⟩) hS.2.2 dJ0_coder_7d493_14
set_option maxHeartbeats 4000000 in
set_option maxRecDepth 100000 in
theorem kx_J0_length_8abf5_0 (l : Launch) (dC : Nat → ClassId) (dI : Nat → Nat → Nat) (ge5 gea gv5 gva gde gic gi0 : Nat) (sz : Nat) : Met l yJ0_length_8abf5 wsJ0_length_8abf5 ({ frames := 1, cells := 0, slots := 0, locals := 20 }) (va_Pc [.ref ge5] (fun U => U.heap.size = sz ∧ va_P (dC, dI) vwCl [] U.heap ∧ va_K (dC, dI) vwCl [] U ∧ va_D (fun _ => True) [] ∧ gv ge5 gea gv5 gva gde gic gi0 (va_A [] sz) U U.heap)) (va_Qi (fun (r : Int32) (_ : Unit) => r = 0) (fun (_ : Unit) (t : State) => va_P (dC, dI) vwCl [] t.heap ∧ va_K (dC, dI) vwCl [] t ∧ va_D (va_A [] sz) []) (va_A [] sz)) 0 0 (va_A [] sz) := by
  refine Met.ofW (cc := cJ0_length_8abf5) (maxL := 1) (ret := (some .int)) (by decide) rfl ?_
  intro p e s m args below meth c s₁ B hml hv
  obtain ⟨rfl, hsz, hP, hK, hD0, hG⟩ := hv
  have hx := B.exec
  have hb := B.bytes
  have hr := B.returns
  have hts := atoms_spec (ws := wsJ0_length_8abf5) B.pre
  have hown : s.vm.findClass RJ0 = some m.cls := findClass_of_methodNamed B.named
  have hlocks := B.notSynchronized
  subst hsz
  have hD := hD0.self (sz := s.heap.size)
  generalize hAe : va_A [] s.heap.size = A at hD hG ⊢
  obtain ⟨⟨g_AO_Text, g_AO_String, g_AO_Object, g_nm_RX1_20, g_nm_RX0_17, g_nm_RX3_31, g_nm_RX2_44, g_nm_RL_121, g_nf_RL_13, g_nf_RL_47, g_ca_IO, g_ca_IA, g_ca_IS, g_ca_IntObj, g_ca_StrObj, g_de_RT, g_de_EX, g_de_TH, g_nc_IA_IO, g_nc_IS_IO, g_nc_IS_IA⟩, ⟨g_s3, g_s5, g_sa, g_x278, g_x280, g_x282, g_x284, g_x286, g_x180, g_x238, g_x250⟩, ⟨g_o5, g_c5, g_v5, g_t5, g_oa, g_ca, g_va, g_ta, g_zc, g_zd, g_td, g_zf, g_zU, g_zN, g_zh, g_zk, g_tk, g_oi, g_vi⟩⟩ := id hG
  have hA : ∀ q : Nat, s.heap.size ≤ q → A q := fun q h => by rw [← hAe]; exact Or.inr h
  have hS : va_S A s.heap s.heap [] := va_S.rf
  have hP : va_P (dC, dI) vwCl [] s.heap := hP
  have hl := lv_entry ([.ref ge5]) (n := 1) (Nat.le_of_ble_eq_true rfl)
  rw [lg_entry_eq]
  generalize (lg_sl ([.ref ge5]) ++ List.replicate (1 - (lg_sl ([.ref ge5])).length) Slot.unset).toArray = ls at hl ⊢
  have hl : lv_has ls 1 [(0, .ref ge5)] := hl
  refine lv_aload_n hx hb dJ0_length_8abf5_0 rfl (lv_at hl 0 rfl) ?_
  refine vk_getf (v := .ref gv5) hx hb g_v5 hS hown (hts (.fieldLink RJ0 9 "java/lang/String" "value" "[B") (by decide +kernel)) (fun _ h9 => h9) dJ0_length_8abf5_1 ?_
  refine va_tlen (v := 0) hx hb g_t5 hS (by decide) dJ0_length_8abf5_4 ?_
  refine lv_aload_n hx hb dJ0_length_8abf5_5 rfl (lv_at hl 0 rfl) ?_
  have hPc := hP.sub (ws' := []) [] rfl
  have hDc := hD.sub (ws' := []) [] (by decide) rfl
  have hKc := hK.sub (tys' := []) [] rfl
  have hFc := va_free (wc := []) hD hS hA [] rfl
  refine va_calli (va_runV (As := []) (rest := [.int 0]) ⟨hx, hb, hml, hown, hts⟩ (kx_J0_coder_7d493_0 l dC dI ge5 gea gv5 gva gde gic gi0 s.heap.size) (cwV 0 hts gJ0_length_8abf5_J0_coder_7d493 rfl rfl rfl (by decide +kernel) ⟨Nat.le_of_ble_eq_true rfl, Nat.le_of_ble_eq_true rfl⟩) ⟨fun a U g mk q => by obtain ⟨q0, q1, qP, qK, qD, qG⟩ := q; exact ⟨q0, q1, qP, va_K.moved (u := U) (U := U.calling g mk a) (Vm.Alike.refl U.vm) qK, qD, gv.fb qG⟩, (by obtain ⟨cell, k1, k2, k3, -⟩ := g_o5.kept hS.2.1; exact ⟨cell, k1, k2, k3⟩), fun U hU hW => ⟨rfl, by rw [hU], by rw [hU]; exact hPc, va_K.moved hW.alike hKc, hDc.weaken (fun _ _ _ _ => trivial), gv.pass hW hU hS hFc hG⟩⟩ rfl rfl hl.1 rfl (lv_room (Nat.le_of_ble_eq_true rfl)) dJ0_length_8abf5_6 ⟨Nat.le_of_ble_eq_true rfl, Nat.le_of_ble_eq_true rfl⟩) hS (fun q _ h => hFc q h) hFc (fun r9 u t H1 locs ht hvm hw hB hz1 hk1 hS => ?_)
  obtain rfl := hw
  obtain ⟨hP1, hK1, hD1⟩ := hB
  rw [ht] at hP1
  have hK1 := va_K.moved hvm.symm hK1
  obtain ⟨hP, hD⟩ := va_join (wr := []) (w1 := []) hP hD [] [] rfl rfl (by decide) (by decide) hk1 hFc hP1 hD1
  generalize H1 = H at hP hS ⊢
  have hP : va_P (dC, dI) vwCl [] H := hP
  have hD : va_D A [] := hD
  refine lv_ishr hx hb dJ0_length_8abf5_9 ?_
  refine lv_topi (fun y1 ey1 => ?_)
  obtain rfl : y1 = 0 := ey1.trans (by decide)
  exact W.iret (v := 0) hx hb hr (fun t ht hW => ⟨⟨0, (), rfl, rfl, by rw [ht]; exact hP, va_K.moved hW.alike hK, hD⟩, hS.F ht⟩) hS.2.2 dJ0_length_8abf5_10
set_option maxHeartbeats 4000000 in
set_option maxRecDepth 100000 in
theorem kx_X5_clear_0 (l : Launch) (dC : Nat → ClassId) (dI : Nat → Nat → Nat) (ge5 gea gv5 gva gde gic gi0 : Nat) (h0 : Nat) (h1 : Nat) (z0 : Nat) (z1 : Nat) (k0 : ClassId) (sz : Nat) (i0 : Int32) (i0_l : (0 : Int) ≤ i0.toInt) (i0_u : i0.toInt ≤ (3 : Int)) : Met l yX5_clear wsX5_clear ({ frames := 2, cells := 0, slots := 0, locals := 42 }) (va_Pc [.ref h0, .int i0] (fun U => U.heap.size = sz ∧ va_P (dC, dI) vwCl [(h0, .inr (9, [.int 0, .ref h1, .ref z0, .ref z1, .int 0, .int 0, .int 0])), (h1, .inl (k0, 4, .inr (.inr (.inr (.inr (va_up (va_up (va_up (va_up (fun _ => none) 0 (some ge5)) 1 (some ge5)) 2 (some ge5)) 3 (some ge5)))))))] U.heap ∧ va_K (dC, dI) vwCl [(k0, .object "java/lang/String")] U ∧ va_D (fun _ => True) [(h0, .inr (9, [.int 0, .ref h1, .ref z0, .ref z1, .int 0, .int 0, .int 0])), (h1, .inl (k0, 4, .inr (.inr (.inr (.inr (va_up (va_up (va_up (va_up (fun _ => none) 0 (some ge5)) 1 (some ge5)) 2 (some ge5)) 3 (some ge5)))))))] ∧ gv ge5 gea gv5 gva gde gic gi0 (va_A [(h0, .inr (9, [.int 0, .ref h1, .ref z0, .ref z1, .int 0, .int 0, .int 0])), (h1, .inl (k0, 4, .inr (.inr (.inr (.inr (va_up (va_up (va_up (va_up (fun _ => none) 0 (some ge5)) 1 (some ge5)) 2 (some ge5)) 3 (some ge5)))))))] sz) U U.heap)) (va_Qi (fun (r : Int32) (_ : Unit) => r = 0) (fun (_ : Unit) (t : State) => va_P (dC, dI) vwCl [(h0, .inr (9, [.int 0, .ref h1, .ref z0, .ref z1, .int 0, .int 0, .int 0]))] t.heap ∧ va_K (dC, dI) vwCl [(k0, .object "java/lang/String")] t ∧ va_D (va_A [(h0, .inr (9, [.int 0, .ref h1, .ref z0, .ref z1, .int 0, .int 0, .int 0])), (h1, .inl (k0, 4, .inr (.inr (.inr (.inr (va_up (va_up (va_up (va_up (fun _ => none) 0 (some ge5)) 1 (some ge5)) 2 (some ge5)) 3 (some ge5)))))))] sz) [(h0, .inr (9, [.int 0, .ref h1, .ref z0, .ref z1, .int 0, .int 0, .int 0]))]) (va_A [(h0, .inr (9, [.int 0, .ref h1, .ref z0, .ref z1, .int 0, .int 0, .int 0])), (h1, .inl (k0, 4, .inr (.inr (.inr (.inr (va_up (va_up (va_up (va_up (fun _ => none) 0 (some ge5)) 1 (some ge5)) 2 (some ge5)) 3 (some ge5)))))))] sz)) 0 0 (va_A [(h0, .inr (9, [.int 0, .ref h1, .ref z0, .ref z1, .int 0, .int 0, .int 0])), (h1, .inl (k0, 4, .inr (.inr (.inr (.inr (va_up (va_up (va_up (va_up (fun _ => none) 0 (some ge5)) 1 (some ge5)) 2 (some ge5)) 3 (some ge5)))))))] sz) := by
  refine Met.ofW (cc := cX5_clear) (maxL := 3) (ret := (some .int)) (by decide) rfl ?_
  intro p e s m args below meth c s₁ B hml hv
  obtain ⟨rfl, hsz, hP, hK, hD0, hG⟩ := hv
  have hx := B.exec
  have hb := B.bytes
  have hr := B.returns
  have hts := atoms_spec (ws := wsX5_clear) B.pre
  have hown : s.vm.findClass RX5 = some m.cls := findClass_of_methodNamed B.named
  have hlocks := B.notSynchronized
  subst hsz
  have hD := hD0.self (sz := s.heap.size)
  generalize hAe : va_A [(h0, .inr (9, [.int 0, .ref h1, .ref z0, .ref z1, .int 0, .int 0, .int 0])), (h1, .inl (k0, 4, .inr (.inr (.inr (.inr (va_up (va_up (va_up (va_up (fun _ => none) 0 (some ge5)) 1 (some ge5)) 2 (some ge5)) 3 (some ge5)))))))] s.heap.size = A at hD hG ⊢
  obtain ⟨⟨g_AO_Text, g_AO_String, g_AO_Object, g_nm_RX1_20, g_nm_RX0_17, g_nm_RX3_31, g_nm_RX2_44, g_nm_RL_121, g_nf_RL_13, g_nf_RL_47, g_ca_IO, g_ca_IA, g_ca_IS, g_ca_IntObj, g_ca_StrObj, g_de_RT, g_de_EX, g_de_TH, g_nc_IA_IO, g_nc_IS_IO, g_nc_IS_IA⟩, ⟨g_s3, g_s5, g_sa, g_x278, g_x280, g_x282, g_x284, g_x286, g_x180, g_x238, g_x250⟩, ⟨g_o5, g_c5, g_v5, g_t5, g_oa, g_ca, g_va, g_ta, g_zc, g_zd, g_td, g_zf, g_zU, g_zN, g_zh, g_zk, g_tk, g_oi, g_vi⟩⟩ := id hG
  have hA : ∀ q : Nat, s.heap.size ≤ q → A q := fun q h => by rw [← hAe]; exact Or.inr h
  have hS : va_S A s.heap s.heap [] := va_S.rf
  have hP : va_P (dC, dI) vwCl [(h0, .inr (9, [.int 0, .ref h1, .ref z0, .ref z1, .int 0, .int 0, .int 0])), (h1, .inl (k0, 4, .inr (.inr (.inr (.inr (va_up (va_up (va_up (va_up (fun _ => none) 0 (some ge5)) 1 (some ge5)) 2 (some ge5)) 3 (some ge5)))))))] s.heap := hP
  have hl := lv_entry ([.ref h0, .int i0]) (n := 3) (Nat.le_of_ble_eq_true rfl)
  rw [lg_entry_eq]
  generalize (lg_sl ([.ref h0, .int i0]) ++ List.replicate (3 - (lg_sl ([.ref h0, .int i0])).length) Slot.unset).toArray = ls at hl ⊢
  have hl : lv_has ls 3 [(0, .ref h0), (1, .int i0)] := hl
  refine lv_aload_n hx hb dX5_clear_0 rfl (lv_at hl 0 rfl) ?_
  refine lv_iload_n hx hb dX5_clear_1 rfl (lv_at hl 1 rfl) ?_
  have hPc := hP.sub (ws' := []) [] rfl
  have hDc := hD.sub (ws' := []) [] (by decide) rfl
  have hKc := hK.sub (tys' := []) [] rfl
  have hFc := va_free (wc := []) hD hS hA [] rfl
  refine va_calli (va_runS (As := [.int i0]) (rest := [.ref h0]) ⟨hx, hb, hml, hown, hts⟩ (kx_X5_isNo_0 l dC dI s.heap.size i0 i0_l i0_u) (cwS 1 hts gX5_clear_X5_isNo rfl rfl rfl (by decide +kernel) ⟨Nat.le_of_ble_eq_true rfl, Nat.le_of_ble_eq_true rfl⟩) ⟨fun a U g mk q => by obtain ⟨q0, q1, qP, qK, qD⟩ := q; exact ⟨q0, q1, qP, va_K.moved (u := U) (U := U.calling g mk a) (Vm.Alike.refl U.vm) qK, qD⟩, fun U hU hW => ⟨rfl, by rw [hU], by rw [hU]; exact hPc, va_K.moved hW.alike hKc, hDc.weaken (fun _ _ _ _ => trivial)⟩⟩ rfl rfl hl.1 rfl (lv_room (Nat.le_of_ble_eq_true rfl)) dX5_clear_2 ⟨Nat.le_of_ble_eq_true rfl, Nat.le_of_ble_eq_true rfl⟩) hS (fun q _ h => hFc q h) hFc (fun r9 u t H1 locs ht hvm hw hB hz1 hk1 hS => ?_)
  obtain rfl := hw
  obtain ⟨hP1, hK1, hD1⟩ := hB
  rw [ht] at hP1
  have hK1 := va_K.moved hvm.symm hK1
  obtain ⟨hP, hD⟩ := va_join (wr := [(h0, .inr (9, [.int 0, .ref h1, .ref z0, .ref z1, .int 0, .int 0, .int 0])), (h1, .inl (k0, 4, .inr (.inr (.inr (.inr (va_up (va_up (va_up (va_up (fun _ => none) 0 (some ge5)) 1 (some ge5)) 2 (some ge5)) 3 (some ge5)))))))]) (w1 := []) hP hD [] [0, 1] rfl rfl (by decide) (by decide) hk1 hFc hP1 hD1
  generalize H1 = H at hP hS ⊢
  have hP : va_P (dC, dI) vwCl [(h0, .inr (9, [.int 0, .ref h1, .ref z0, .ref z1, .int 0, .int 0, .int 0])), (h1, .inl (k0, 4, .inr (.inr (.inr (.inr (va_up (va_up (va_up (va_up (fun _ => none) 0 (some ge5)) 1 (some ge5)) 2 (some ge5)) 3 (some ge5)))))))] H := hP
  have hD : va_D A [(h0, .inr (9, [.int 0, .ref h1, .ref z0, .ref z1, .int 0, .int 0, .int 0])), (h1, .inl (k0, 4, .inr (.inr (.inr (.inr (va_up (va_up (va_up (va_up (fun _ => none) 0 (some ge5)) 1 (some ge5)) 2 (some ge5)) 3 (some ge5)))))))] := hD
  refine lv_iconst (v := 0) hx hb dX5_clear_5 (by decide) ?_
  refine lv_iconst (v := 0) hx hb dX5_clear_6 (by decide) ?_
  have hPc := hP.sub (ws' := [(h0, .inr (9, [.int 0, .ref h1, .ref z0, .ref z1, .int 0, .int 0, .int 0]))]) [0] rfl
  have hDc := hD.sub (ws' := [(h0, .inr (9, [.int 0, .ref h1, .ref z0, .ref z1, .int 0, .int 0, .int 0]))]) [0] (by decide) rfl
  have hKc := hK.sub (tys' := []) [] rfl
  have hFc := va_free (wc := [(h0, .inr (9, [.int 0, .ref h1, .ref z0, .ref z1, .int 0, .int 0, .int 0]))]) hD hS hA [0] rfl
  refine va_calli (va_runV (As := [.int 0, .int 0, .int 0]) (rest := []) ⟨hx, hb, hml, hown, hts⟩ (kx_X5_fails_0 l dC dI h0 h1 z0 z1 H.size) (cwV 3 hts gX5_clear_X5_fails rfl rfl rfl (by decide +kernel) ⟨Nat.le_of_ble_eq_true rfl, Nat.le_of_ble_eq_true rfl⟩) ⟨fun a U g mk q => by obtain ⟨q0, q1, qP, qK, qD⟩ := q; exact ⟨q0, q1, qP, va_K.moved (u := U) (U := U.calling g mk a) (Vm.Alike.refl U.vm) qK, qD⟩, va_recv hKc hPc (ci := 9) (q0 := 0) rfl rfl, fun U hU hW => ⟨rfl, by rw [hU], by rw [hU]; exact hPc, va_K.moved hW.alike hKc, hDc.weaken (fun _ _ _ _ => trivial)⟩⟩ rfl rfl hl.1 rfl (lv_room (Nat.le_of_ble_eq_true rfl)) dX5_clear_7 ⟨Nat.le_of_ble_eq_true rfl, Nat.le_of_ble_eq_true rfl⟩) hS (fun q _ h => hFc q h) hFc (fun r9 u t H1 locs ht hvm hw hB hz1 hk1 hS => ?_)
  obtain rfl := hw
  obtain ⟨hP1, hK1, hD1⟩ := hB
  rw [ht] at hP1
  have hK1 := va_K.moved hvm.symm hK1
  obtain ⟨hP, hD⟩ := va_join (wr := [(h1, .inl (k0, 4, .inr (.inr (.inr (.inr (va_up (va_up (va_up (va_up (fun _ => none) 0 (some ge5)) 1 (some ge5)) 2 (some ge5)) 3 (some ge5)))))))]) (w1 := [(h0, .inr (9, [.int 0, .ref h1, .ref z0, .ref z1, .int 0, .int 0, .int 0]))]) hP hD [0] [1] rfl rfl (by decide) (by decide) hk1 hFc hP1 hD1
  generalize H1 = H at hP hS ⊢
  have hP : va_P (dC, dI) vwCl [(h1, .inl (k0, 4, .inr (.inr (.inr (.inr (va_up (va_up (va_up (va_up (fun _ => none) 0 (some ge5)) 1 (some ge5)) 2 (some ge5)) 3 (some ge5))))))), (h0, .inr (9, [.int 0, .ref h1, .ref z0, .ref z1, .int 0, .int 0, .int 0]))] H := hP
  have hD : va_D A [(h1, .inl (k0, 4, .inr (.inr (.inr (.inr (va_up (va_up (va_up (va_up (fun _ => none) 0 (some ge5)) 1 (some ge5)) 2 (some ge5)) 3 (some ge5))))))), (h0, .inr (9, [.int 0, .ref h1, .ref z0, .ref z1, .int 0, .int 0, .int 0]))] := hD
  refine lv_if_eq (tgt := 15) hx hb dX5_clear_10 (by decide) (fun _ => ?_) (fun c9 => absurd (by decide) c9)
  refine lv_aload_n hx hb dX5_clear_15 rfl (lv_at hl 0 rfl) ?_
  refine va_get (D := (dC, dI)) (ci := 9) (v := .ref h1) (C := RX5) (T := TX5) (N := 7) hx hb hts (by decide +kernel) hown hK hP 1 rfl rfl 1 (by decide) (hts (.fieldLink RX5 11 "RewriteropeModel" "ropes" "[Ljava/lang/String;") (by decide +kernel)) (fun _ h9 => h9) rfl dX5_clear_16 ?_
  refine lv_iload_n hx hb dX5_clear_19 rfl (lv_at hl 1 rfl) ?_
  refine va_aldq (D := (dC, dI)) hx hb hK hP 0 0 rfl rfl (kz_in4 i0_l i0_u) dX5_clear_20 ?_
  rw [show (va_up (va_up (va_up (va_up (fun _ => none) 0 (some ge5)) 1 (some ge5)) 2 (some ge5)) 3 (some ge5)) i0.toNatClampNeg = some ge5 from (kz_ix4 (P := fun z => (va_up (va_up (va_up (va_up (fun _ => none) 0 (some ge5)) 1 (some ge5)) 2 (some ge5)) 3 (some ge5)) z.toNatClampNeg = some ge5) rfl rfl rfl rfl i0_l i0_u)]
  refine W.eq (g2 := F0 m 21 ls [.ref ge5]) rfl ?_
  have hPc := hP.sub (ws' := []) [] rfl
  have hDc := hD.sub (ws' := []) [] (by decide) rfl
  have hKc := hK.sub (tys' := []) [] rfl
  have hFc := va_free (wc := []) hD hS hA [] rfl
  refine va_calli (va_runV (As := []) (rest := []) ⟨hx, hb, hml, hown, hts⟩ (kx_J0_length_8abf5_0 l dC dI ge5 gea gv5 gva gde gic gi0 H.size) (cwV 0 hts gX5_clear_J0_length_8abf5 rfl rfl rfl (by decide +kernel) ⟨Nat.le_of_ble_eq_true rfl, Nat.le_of_ble_eq_true rfl⟩) ⟨fun a U g mk q => by obtain ⟨q0, q1, qP, qK, qD, qG⟩ := q; exact ⟨q0, q1, qP, va_K.moved (u := U) (U := U.calling g mk a) (Vm.Alike.refl U.vm) qK, qD, gv.fb qG⟩, (by obtain ⟨cell, k1, k2, k3, -⟩ := g_o5.kept hS.2.1; exact ⟨cell, k1, k2, k3⟩), fun U hU hW => ⟨rfl, by rw [hU], by rw [hU]; exact hPc, va_K.moved hW.alike hKc, hDc.weaken (fun _ _ _ _ => trivial), gv.pass hW hU hS hFc hG⟩⟩ rfl rfl hl.1 rfl (lv_room (Nat.le_of_ble_eq_true rfl)) dX5_clear_21 ⟨Nat.le_of_ble_eq_true rfl, Nat.le_of_ble_eq_true rfl⟩) hS (fun q _ h => hFc q h) hFc (fun r9 u t H1 locs ht hvm hw hB hz1 hk1 hS => ?_)
  obtain rfl := hw
  obtain ⟨hP1, hK1, hD1⟩ := hB
  rw [ht] at hP1
  have hK1 := va_K.moved hvm.symm hK1
  obtain ⟨hP, hD⟩ := va_join (wr := [(h1, .inl (k0, 4, .inr (.inr (.inr (.inr (va_up (va_up (va_up (va_up (fun _ => none) 0 (some ge5)) 1 (some ge5)) 2 (some ge5)) 3 (some ge5))))))), (h0, .inr (9, [.int 0, .ref h1, .ref z0, .ref z1, .int 0, .int 0, .int 0]))]) (w1 := []) hP hD [] [0, 1] rfl rfl (by decide) (by decide) hk1 hFc hP1 hD1
  generalize H1 = H at hP hS ⊢
  have hP : va_P (dC, dI) vwCl [(h1, .inl (k0, 4, .inr (.inr (.inr (.inr (va_up (va_up (va_up (va_up (fun _ => none) 0 (some ge5)) 1 (some ge5)) 2 (some ge5)) 3 (some ge5))))))), (h0, .inr (9, [.int 0, .ref h1, .ref z0, .ref z1, .int 0, .int 0, .int 0]))] H := hP
  have hD : va_D A [(h1, .inl (k0, 4, .inr (.inr (.inr (.inr (va_up (va_up (va_up (va_up (fun _ => none) 0 (some ge5)) 1 (some ge5)) 2 (some ge5)) 3 (some ge5))))))), (h0, .inr (9, [.int 0, .ref h1, .ref z0, .ref z1, .int 0, .int 0, .int 0]))] := hD
  refine lv_istore_n (lv' := [(2, .int 0), (0, .ref h0), (1, .int i0)]) hx hb dX5_clear_24 rfl hl (by decide) rfl (fun ls hl => ?_)
  refine lv_aload_n hx hb dX5_clear_25 rfl (lv_at hl 1 rfl) ?_
  refine va_get (D := (dC, dI)) (ci := 9) (v := .ref h1) (C := RX5) (T := TX5) (N := 7) hx hb hts (by decide +kernel) hown hK hP 1 rfl rfl 1 (by decide) (hts (.fieldLink RX5 11 "RewriteropeModel" "ropes" "[Ljava/lang/String;") (by decide +kernel)) (fun _ h9 => h9) rfl dX5_clear_26 ?_
  refine lv_iload_n hx hb dX5_clear_29 rfl (lv_at hl 2 rfl) ?_
  refine va_ldcS hx hb hown g_s5 dX5_clear_30 ?_
  refine vb_astq (D := (dC, dI)) (C := "java/lang/String") hx hb hK hP hD hS 0 0 rfl rfl (by obtain ⟨cell, k1, k2, k3, -⟩ := g_o5.kept hS.2.1; exact ⟨cell, k1, k2, k3⟩) vb_asgS (kz_in4 i0_l i0_u) dX5_clear_32 (fun H locs hP hD hS => ?_)
  rw [kz_up (f := (va_up (va_up (va_up (va_up (fun _ => none) 0 (some ge5)) 1 (some ge5)) 2 (some ge5)) 3 (some ge5))) (k := i0.toNatClampNeg) (v := some ge5) (kz_ix4 (P := fun z => (va_up (va_up (va_up (va_up (fun _ => none) 0 (some ge5)) 1 (some ge5)) 2 (some ge5)) 3 (some ge5)) z.toNatClampNeg = some ge5) rfl rfl rfl rfl i0_l i0_u)] at hP hD
  have hP : va_P (dC, dI) vwCl [(h1, .inl (k0, 4, .inr (.inr (.inr (.inr (va_up (va_up (va_up (va_up (fun _ => none) 0 (some ge5)) 1 (some ge5)) 2 (some ge5)) 3 (some ge5))))))), (h0, .inr (9, [.int 0, .ref h1, .ref z0, .ref z1, .int 0, .int 0, .int 0]))] H := hP
  have hD : va_D A [(h1, .inl (k0, 4, .inr (.inr (.inr (.inr (va_up (va_up (va_up (va_up (fun _ => none) 0 (some ge5)) 1 (some ge5)) 2 (some ge5)) 3 (some ge5))))))), (h0, .inr (9, [.int 0, .ref h1, .ref z0, .ref z1, .int 0, .int 0, .int 0]))] := hD
  refine lv_iload_n hx hb dX5_clear_33 rfl (lv_at hl 0 rfl) ?_
  have hP := hP.sub (ws' := [(h0, .inr (9, [.int 0, .ref h1, .ref z0, .ref z1, .int 0, .int 0, .int 0])), (h1, .inl (k0, 4, .inr (.inr (.inr (.inr (va_up (va_up (va_up (va_up (fun _ => none) 0 (some ge5)) 1 (some ge5)) 2 (some ge5)) 3 (some ge5)))))))]) [1, 0] rfl
  have hD := hD.sub (ws' := [(h0, .inr (9, [.int 0, .ref h1, .ref z0, .ref z1, .int 0, .int 0, .int 0])), (h1, .inl (k0, 4, .inr (.inr (.inr (.inr (va_up (va_up (va_up (va_up (fun _ => none) 0 (some ge5)) 1 (some ge5)) 2 (some ge5)) 3 (some ge5)))))))]) [1, 0] (by decide) rfl
  have hP := hP.sub (ws' := [(h0, .inr (9, [.int 0, .ref h1, .ref z0, .ref z1, .int 0, .int 0, .int 0]))]) [0] rfl
  have hD := hD.sub (ws' := [(h0, .inr (9, [.int 0, .ref h1, .ref z0, .ref z1, .int 0, .int 0, .int 0]))]) [0] (by decide) rfl
  exact W.iret (v := 0) hx hb hr (fun t ht hW => ⟨⟨0, (), rfl, rfl, by rw [ht]; exact hP, va_K.moved hW.alike hK, hD⟩, hS.F ht⟩) hS.2.2 dX5_clear_34
set_option maxHeartbeats 4000000 in
set_option maxRecDepth 100000 in
theorem kx_X5_thrown_0 (l : Launch) (dC : Nat → ClassId) (dI : Nat → Nat → Nat) (h0 : Nat) (z0 : Nat) (z1 : Nat) (z2 : Nat) (sz : Nat) : Met l yX5_thrown wsX5_thrown ({ frames := 0, cells := 0, slots := 0, locals := 0 }) (va_Pc [.ref h0] (fun U => U.heap.size = sz ∧ va_P (dC, dI) vwCl [(h0, .inr (9, [.int 0, .ref z0, .ref z1, .ref z2, .int 0, .int 0, .int 0]))] U.heap ∧ va_K (dC, dI) vwCl [] U ∧ va_D (fun _ => True) [(h0, .inr (9, [.int 0, .ref z0, .ref z1, .ref z2, .int 0, .int 0, .int 0]))])) (va_Qi (fun (r : Int32) (_ : Unit) => r = 0) (fun (_ : Unit) (t : State) => va_P (dC, dI) vwCl [(h0, .inr (9, [.int 0, .ref z0, .ref z1, .ref z2, .int 0, .int 0, .int 0]))] t.heap ∧ va_K (dC, dI) vwCl [] t ∧ va_D (va_A [(h0, .inr (9, [.int 0, .ref z0, .ref z1, .ref z2, .int 0, .int 0, .int 0]))] sz) [(h0, .inr (9, [.int 0, .ref z0, .ref z1, .ref z2, .int 0, .int 0, .int 0]))]) (va_A [(h0, .inr (9, [.int 0, .ref z0, .ref z1, .ref z2, .int 0, .int 0, .int 0]))] sz)) 0 0 (va_A [(h0, .inr (9, [.int 0, .ref z0, .ref z1, .ref z2, .int 0, .int 0, .int 0]))] sz) := by
  refine Met.ofW (cc := cX5_thrown) (maxL := 1) (ret := (some .int)) (by decide) rfl ?_
  intro p e s m args below meth c s₁ B hml hv
  obtain ⟨rfl, hsz, hP, hK, hD0⟩ := hv
  have hx := B.exec
  have hb := B.bytes
  have hr := B.returns
  have hts := atoms_spec (ws := wsX5_thrown) B.pre
  have hown : s.vm.findClass RX5 = some m.cls := findClass_of_methodNamed B.named
  have hlocks := B.notSynchronized
  subst hsz
  have hD := hD0.self (sz := s.heap.size)
  generalize hAe : va_A [(h0, .inr (9, [.int 0, .ref z0, .ref z1, .ref z2, .int 0, .int 0, .int 0]))] s.heap.size = A at hD ⊢
  have hA : ∀ q : Nat, s.heap.size ≤ q → A q := fun q h => by rw [← hAe]; exact Or.inr h
  have hS : va_S A s.heap s.heap [] := va_S.rf
  have hP : va_P (dC, dI) vwCl [(h0, .inr (9, [.int 0, .ref z0, .ref z1, .ref z2, .int 0, .int 0, .int 0]))] s.heap := hP
  have hl := lv_entry ([.ref h0]) (n := 1) (Nat.le_of_ble_eq_true rfl)
  rw [lg_entry_eq]
  generalize (lg_sl ([.ref h0]) ++ List.replicate (1 - (lg_sl ([.ref h0])).length) Slot.unset).toArray = ls at hl ⊢
  have hl : lv_has ls 1 [(0, .ref h0)] := hl
  refine lv_aload_n hx hb dX5_thrown_0 rfl (lv_at hl 0 rfl) ?_
  refine va_get (D := (dC, dI)) (ci := 9) (v := .int 0) (C := RX5) (T := TX5) (N := 7) hx hb hts (by decide +kernel) hown hK hP 0 rfl rfl 0 (by decide) (hts (.fieldLink RX5 27 "RewriteropeModel" "thrown" "I") (by decide +kernel)) (fun _ h9 => h9) rfl dX5_thrown_1 ?_
  exact W.iret (v := 0) hx hb hr (fun t ht hW => ⟨⟨0, (), rfl, rfl, by rw [ht]; exact hP, va_K.moved hW.alike hK, hD⟩, hS.F ht⟩) hS.2.2 dX5_thrown_4
set_option maxHeartbeats 4000000 in
set_option maxRecDepth 100000 in
theorem kx_X3_needRope_5 (l : Launch) (hst : l.stackTraces = false) (dC : Nat → ClassId) (dI : Nat → Nat → Nat) (ge5 gea gv5 gva gde gic gi0 : Nat) (sz : Nat) (i0 : Int32) (i0_l : ((-2147483648) : Int) ≤ i0.toInt) (i0_u : i0.toInt ≤ ((-1) : Int)) : vx_Met l yX3_needRope wsX3_needRope ({ frames := 6, cells := 1, slots := 6, locals := 120 }) (va_Pc [.int i0] (fun U => U.heap.size = sz ∧ va_P (dC, dI) vwCl [] U.heap ∧ va_K (dC, dI) vwCl [] U ∧ va_D (fun _ => True) [] ∧ gv ge5 gea gv5 gva gde gic gi0 (va_A [] sz) U U.heap)) (va_Qv (fun _ : Unit => False) (fun _ _ => True) (va_A [] sz)) (vx_X (fun _ : Unit => True) (fun (E : String) (_ : Unit) (t : State) => E = "java/lang/IndexOutOfBoundsException" ∧ va_P (dC, dI) vwCl [] t.heap ∧ va_K (dC, dI) vwCl [] t ∧ va_D (va_A [] sz) []) (va_A [] sz)) 1 6 (va_A [] sz) := by
  refine vx_ofW (cc := cX3_needRope) (maxL := 1) (ret := none) (by decide) rfl ?_
  intro p e s m args below meth c s₁ B hml ht9 hv
  obtain ⟨rfl, hsz, hP, hK, hD0, hG⟩ := hv
  have hx := B.exec
  have hb := B.bytes
  have hr := B.returns
  have hts := atoms_spec (ws := wsX3_needRope) B.pre
  have hown : s.vm.findClass RX3 = some m.cls := findClass_of_methodNamed B.named
  have hlocks := B.notSynchronized
  subst hsz
  have hD := hD0.self (sz := s.heap.size)
  generalize hAe : va_A [] s.heap.size = A at hD hG ⊢
  obtain ⟨⟨g_AO_Text, g_AO_String, g_AO_Object, g_nm_RX1_20, g_nm_RX0_17, g_nm_RX3_31, g_nm_RX2_44, g_nm_RL_121, g_nf_RL_13, g_nf_RL_47, g_ca_IO, g_ca_IA, g_ca_IS, g_ca_IntObj, g_ca_StrObj, g_de_RT, g_de_EX, g_de_TH, g_nc_IA_IO, g_nc_IS_IO, g_nc_IS_IA⟩, ⟨g_s3, g_s5, g_sa, g_x278, g_x280, g_x282, g_x284, g_x286, g_x180, g_x238, g_x250⟩, ⟨g_o5, g_c5, g_v5, g_t5, g_oa, g_ca, g_va, g_ta, g_zc, g_zd, g_td, g_zf, g_zU, g_zN, g_zh, g_zk, g_tk, g_oi, g_vi⟩⟩ := id hG
  have hA : ∀ q : Nat, s.heap.size ≤ q → A q := fun q h => by rw [← hAe]; exact Or.inr h
  have hS : va_S A s.heap s.heap [] := va_S.rf
  have hP : va_P (dC, dI) vwCl [] s.heap := hP
  have hl := lv_entry ([.int i0]) (n := 1) (Nat.le_of_ble_eq_true rfl)
  rw [lg_entry_eq]
  generalize (lg_sl ([.int i0]) ++ List.replicate (1 - (lg_sl ([.int i0])).length) Slot.unset).toArray = ls at hl ⊢
  have hl : lv_has ls 1 [(0, .int i0)] := hl
  refine lv_iload_n hx hb dX3_needRope_0 rfl (lv_at hl 0 rfl) ?_
  refine lv_if_lt (tgt := 9) hx hb dX3_needRope_1 (by decide) (fun _ => ?_) (fun c9 => absurd (Int32.lt_iff_toInt_lt.mpr (by rw [show (0 : Int32).toInt = 0 from by decide]; omega)) c9)
  obtain ⟨sa9, hsa9⟩ := g_x278
  have hin9 : ∀ w ∈ (vx_atS RX3 240 "java/lang/IndexOutOfBoundsException" ["java/lang/RuntimeException", "java/lang/Exception"]).filter goodWord, w ∈ wsX3_needRope := (by intro w hw; first | exact List.mem_cons_of_mem _ (List.mem_append_right _ hw) | exact List.mem_cons_of_mem _ (List.mem_append_left _ (List.mem_append_right _ hw)))
  exact vx_throwSW (cls := "java/lang/IndexOutOfBoundsException") (text := "no such rope") (names := ["java/lang/RuntimeException", "java/lang/Exception"]) (ic := 240) hx hb hst hown (by decide) (by decide) (hts (.classLink RX3 236 "java/lang/IndexOutOfBoundsException") (by decide +kernel)) (hts (.initialized "java/lang/IndexOutOfBoundsException") (by decide +kernel)) hsa9 (vx_hat (B := [.declares (Bundle.initS "java/lang/RuntimeException"), .declares (Bundle.initS "java/lang/Exception"), .declares (Bundle.initS Bundle.tN), .castable "java/lang/IndexOutOfBoundsException" "java/lang/IndexOutOfBoundsException"]) (fun w hw => hts w (hin9 w hw)) (fun w hw => by rw [xbad_IO] at hw; exact hw) (vx_c (va_Nw.use rfl g_de_RT) (vx_c (va_Nw.use rfl g_de_EX) (vx_c (va_Nw.use rfl g_de_TH) (vx_c (va_Nw.use rfl g_ca_IO) vx_n))))) (by decide +kernel) g_zU g_zN hS (by rw [hml]; exact hl.1) dX3_needRope_9 dX3_needRope_12 dX3_needRope_13 dX3_needRope_16 dX3_needRope_19 (fun x hx9 => (ht9 x hx9).elim) (Nat.le_of_ble_eq_true rfl) (Nat.le_of_ble_eq_true rfl) (Nat.le_of_ble_eq_true rfl) (Nat.le_of_ble_eq_true rfl) hlocks (fun t ha hz hk => ⟨(), trivial, ⟨rfl, hP.kept (fun k q hq => hk _ (vx_lt hP hq)), va_K.moved ha hK, hD⟩, Nat.le_trans hS.1 hz, fun q h1 h2 => (hk q (Nat.lt_of_lt_of_le h1 hS.1)).trans (hS.2.1 q h1 h2)⟩) hS.2.2 (Nat.le_refl _) (Nat.le_refl _)
set_option maxHeartbeats 4000000 in
set_option maxRecDepth 100000 in
theorem kx_X3_clear_4 (l : Launch) (hst : l.stackTraces = false) (dC : Nat → ClassId) (dI : Nat → Nat → Nat) (ge5 gea gv5 gva gde gic gi0 : Nat) (h0 : Nat) (z0 : Nat) (z1 : Nat) (z2 : Nat) (z3 : Nat) (z4 : Nat) (z5 : Nat) (sz : Nat) (i0 : Int32) (i0_l : ((-2147483648) : Int) ≤ i0.toInt) (i0_u : i0.toInt ≤ ((-1) : Int)) : vx_Met l yX3_clear wsX3_clear ({ frames := 7, cells := 1, slots := 6, locals := 140 }) (va_Pc [.ref h0, .int i0] (fun U => U.heap.size = sz ∧ va_P (dC, dI) vwCl [(h0, .inr (7, [.ref z0, .ref z1, .ref z2, .ref z3, .ref z4, .ref z5, .int 0, .int 0, .int 0]))] U.heap ∧ va_K (dC, dI) vwCl [] U ∧ va_D (fun _ => True) [(h0, .inr (7, [.ref z0, .ref z1, .ref z2, .ref z3, .ref z4, .ref z5, .int 0, .int 0, .int 0]))] ∧ gv ge5 gea gv5 gva gde gic gi0 (va_A [(h0, .inr (7, [.ref z0, .ref z1, .ref z2, .ref z3, .ref z4, .ref z5, .int 0, .int 0, .int 0]))] sz) U U.heap)) (va_Qi (fun (_ : Int32) (_ : Unit) => False) (fun _ _ => True) (va_A [(h0, .inr (7, [.ref z0, .ref z1, .ref z2, .ref z3, .ref z4, .ref z5, .int 0, .int 0, .int 0]))] sz)) (vx_X (fun _ : Unit => True) (fun (E : String) (_ : Unit) (t : State) => E = "java/lang/IndexOutOfBoundsException" ∧ va_P (dC, dI) vwCl [(h0, .inr (7, [.ref z0, .ref z1, .ref z2, .ref z3, .ref z4, .ref z5, .int 0, .int 0, .int 0]))] t.heap ∧ va_K (dC, dI) vwCl [] t ∧ va_D (va_A [(h0, .inr (7, [.ref z0, .ref z1, .ref z2, .ref z3, .ref z4, .ref z5, .int 0, .int 0, .int 0]))] sz) [(h0, .inr (7, [.ref z0, .ref z1, .ref z2, .ref z3, .ref z4, .ref z5, .int 0, .int 0, .int 0]))]) (va_A [(h0, .inr (7, [.ref z0, .ref z1, .ref z2, .ref z3, .ref z4, .ref z5, .int 0, .int 0, .int 0]))] sz)) 1 6 (va_A [(h0, .inr (7, [.ref z0, .ref z1, .ref z2, .ref z3, .ref z4, .ref z5, .int 0, .int 0, .int 0]))] sz) := by
  refine vx_ofW (cc := cX3_clear) (maxL := 3) (ret := (some .int)) (by decide) rfl ?_
  intro p e s m args below meth c s₁ B hml ht9 hv
  obtain ⟨rfl, hsz, hP, hK, hD0, hG⟩ := hv
  have hx := B.exec
  have hb := B.bytes
  have hr := B.returns
  have hts := atoms_spec (ws := wsX3_clear) B.pre
  have hown : s.vm.findClass RX3 = some m.cls := findClass_of_methodNamed B.named
  have hlocks := B.notSynchronized
  subst hsz
  have hD := hD0.self (sz := s.heap.size)
  generalize hAe : va_A [(h0, .inr (7, [.ref z0, .ref z1, .ref z2, .ref z3, .ref z4, .ref z5, .int 0, .int 0, .int 0]))] s.heap.size = A at hD hG ⊢
  obtain ⟨⟨g_AO_Text, g_AO_String, g_AO_Object, g_nm_RX1_20, g_nm_RX0_17, g_nm_RX3_31, g_nm_RX2_44, g_nm_RL_121, g_nf_RL_13, g_nf_RL_47, g_ca_IO, g_ca_IA, g_ca_IS, g_ca_IntObj, g_ca_StrObj, g_de_RT, g_de_EX, g_de_TH, g_nc_IA_IO, g_nc_IS_IO, g_nc_IS_IA⟩, ⟨g_s3, g_s5, g_sa, g_x278, g_x280, g_x282, g_x284, g_x286, g_x180, g_x238, g_x250⟩, ⟨g_o5, g_c5, g_v5, g_t5, g_oa, g_ca, g_va, g_ta, g_zc, g_zd, g_td, g_zf, g_zU, g_zN, g_zh, g_zk, g_tk, g_oi, g_vi⟩⟩ := id hG
  have hA : ∀ q : Nat, s.heap.size ≤ q → A q := fun q h => by rw [← hAe]; exact Or.inr h
  have hS : va_S A s.heap s.heap [] := va_S.rf
  have hP : va_P (dC, dI) vwCl [(h0, .inr (7, [.ref z0, .ref z1, .ref z2, .ref z3, .ref z4, .ref z5, .int 0, .int 0, .int 0]))] s.heap := hP
  have hl := lv_entry ([.ref h0, .int i0]) (n := 3) (Nat.le_of_ble_eq_true rfl)
  rw [lg_entry_eq]
  generalize (lg_sl ([.ref h0, .int i0]) ++ List.replicate (3 - (lg_sl ([.ref h0, .int i0])).length) Slot.unset).toArray = ls at hl ⊢
  have hl : lv_has ls 3 [(0, .ref h0), (1, .int i0)] := hl
  refine lv_iload_n hx hb dX3_clear_0 rfl (lv_at hl 1 rfl) ?_
  have hPc := hP.sub (ws' := []) [] rfl
  have hDc := hD.sub (ws' := []) [] (by decide) rfl
  have hKc := hK.sub (tys' := []) [] rfl
  have hFc := va_free (wc := []) hD hS hA [] rfl
  refine vx_callv (vx_runS (As := [.int i0]) (rest := []) ⟨hx, hb, hml, hown, hts⟩ (kx_X3_needRope_5 l hst dC dI ge5 gea gv5 gva gde gic gi0 s.heap.size i0 i0_l i0_u) (cwS 1 hts gX3_clear_X3_needRope rfl rfl rfl (by decide +kernel) ⟨Nat.le_of_ble_eq_true rfl, Nat.le_of_ble_eq_true rfl⟩) ⟨fun a U g mk q => by obtain ⟨q0, q1, qP, qK, qD, qG⟩ := q; exact ⟨q0, q1, qP, va_K.moved (u := U) (U := U.calling g mk a) (Vm.Alike.refl U.vm) qK, qD, gv.fb qG⟩, fun U hU hW => ⟨rfl, by rw [hU], by rw [hU]; exact hPc, va_K.moved hW.alike hKc, hDc.weaken (fun _ _ _ _ => trivial), gv.pass hW hU hS hFc hG⟩⟩ rfl rfl hl.1 rfl (lv_room (Nat.le_of_ble_eq_true rfl)) dX3_clear_1 ⟨Nat.le_of_ble_eq_true rfl, Nat.le_of_ble_eq_true rfl⟩) hS (fun q _ h => hFc q h) hFc (fun q _ h => hFc q h) (fun E ce q9 u t H1 locs ht hvm hpx hB hz1 hk1 hS hce hcv hcl => ?_) (fun u t H1 locs ht hvm hw hB hz1 hk1 hS => hw.elim)
  obtain ⟨rfl, hP1, hK1, hD1⟩ := hB
  rw [ht] at hP1
  have hK1 := va_K.moved hvm.symm hK1
  obtain ⟨hP, hD⟩ := va_join (wr := [(h0, .inr (7, [.ref z0, .ref z1, .ref z2, .ref z3, .ref z4, .ref z5, .int 0, .int 0, .int 0]))]) (w1 := []) hP hD [] [0] rfl rfl (by decide) (by decide) hk1 hFc hP1 hD1
  generalize H1 = H at hP hS hce ⊢
  have hP : va_P (dC, dI) vwCl [(h0, .inr (7, [.ref z0, .ref z1, .ref z2, .ref z3, .ref z4, .ref z5, .int 0, .int 0, .int 0]))] H := hP
  have hD : va_D A [(h0, .inr (7, [.ref z0, .ref z1, .ref z2, .ref z3, .ref z4, .ref z5, .int 0, .int 0, .int 0]))] := hD
  exact vx_out (fun x hx9 => (ht9 x hx9).elim) hlocks hce hcv hcl (fun t ht hW => ⟨(), trivial, ⟨rfl, by rw [ht]; exact hP, va_K.moved hW hK, hD⟩, hS.F ht⟩) hS.2.2 (by omega) (by omega)
set_option maxHeartbeats 4000000 in
set_option maxRecDepth 100000 in
theorem kx_L_clear_1 (l : Launch) (hst : l.stackTraces = false) (dC : Nat → ClassId) (dI : Nat → Nat → Nat) (ge5 gea gv5 gva gde gic gi0 : Nat) (h0 : Nat) (z0 : Nat) (z1 : Nat) (z2 : Nat) (z3 : Nat) (z4 : Nat) (z5 : Nat) (z6 : Nat) (sz : Nat) (i0 : Int32) (i0_l : ((-2147483648) : Int) ≤ i0.toInt) (i0_u : i0.toInt ≤ ((-1) : Int)) : Met l yL_clear wsL_clear ({ frames := 8, cells := 1, slots := 6, locals := 162 }) (va_Pc [.ref h0, .int i0, .ref z0] (fun U => U.heap.size = sz ∧ va_P (dC, dI) vwCl [(h0, .inr (7, [.ref z1, .ref z2, .ref z3, .ref z4, .ref z5, .ref z6, .int 0, .int 0, .int 0]))] U.heap ∧ va_K (dC, dI) vwCl [] U ∧ va_D (fun _ => True) [(h0, .inr (7, [.ref z1, .ref z2, .ref z3, .ref z4, .ref z5, .ref z6, .int 0, .int 0, .int 0]))] ∧ gv ge5 gea gv5 gva gde gic gi0 (va_A [(h0, .inr (7, [.ref z1, .ref z2, .ref z3, .ref z4, .ref z5, .ref z6, .int 0, .int 0, .int 0]))] sz) U U.heap)) (va_Qi (fun (r : Int32) (_ : Unit) => r = 1) (fun (_ : Unit) (t : State) => va_P (dC, dI) vwCl [(h0, .inr (7, [.ref z1, .ref z2, .ref z3, .ref z4, .ref z5, .ref z6, .int 0, .int 0, .int 0]))] t.heap ∧ va_K (dC, dI) vwCl [] t ∧ va_D (va_A [(h0, .inr (7, [.ref z1, .ref z2, .ref z3, .ref z4, .ref z5, .ref z6, .int 0, .int 0, .int 0]))] sz) [(h0, .inr (7, [.ref z1, .ref z2, .ref z3, .ref z4, .ref z5, .ref z6, .int 0, .int 0, .int 0]))]) (va_A [(h0, .inr (7, [.ref z1, .ref z2, .ref z3, .ref z4, .ref z5, .ref z6, .int 0, .int 0, .int 0]))] sz)) 1 6 (va_A [(h0, .inr (7, [.ref z1, .ref z2, .ref z3, .ref z4, .ref z5, .ref z6, .int 0, .int 0, .int 0]))] sz) := by
  refine kz_ofWH (cc := cL_clear) (maxL := 4) (ret := (some .int)) (hh := [(0, 10, 13, 19)]) (by decide) rfl ?_
  intro p e s m args below meth c s₁ B hml hv
  obtain ⟨rfl, hsz, hP, hK, hD0, hG⟩ := hv
  have hx := B.exec
  have hb := B.bytes
  have hr := B.returns
  have hts := atoms_spec (ws := wsL_clear) B.pre
  have hown : s.vm.findClass RL = some m.cls := findClass_of_methodNamed B.named
  have htab := vx_table (x := yL_clear) B (hts (.codeWith yL_clear cL_clear 4 (some .int) [(0, 10, 13, 19)]) (by decide +kernel))
  have hlocks := B.notSynchronized
  subst hsz
  have hD := hD0.self (sz := s.heap.size)
  generalize hAe : va_A [(h0, .inr (7, [.ref z1, .ref z2, .ref z3, .ref z4, .ref z5, .ref z6, .int 0, .int 0, .int 0]))] s.heap.size = A at hD hG ⊢
  obtain ⟨⟨g_AO_Text, g_AO_String, g_AO_Object, g_nm_RX1_20, g_nm_RX0_17, g_nm_RX3_31, g_nm_RX2_44, g_nm_RL_121, g_nf_RL_13, g_nf_RL_47, g_ca_IO, g_ca_IA, g_ca_IS, g_ca_IntObj, g_ca_StrObj, g_de_RT, g_de_EX, g_de_TH, g_nc_IA_IO, g_nc_IS_IO, g_nc_IS_IA⟩, ⟨g_s3, g_s5, g_sa, g_x278, g_x280, g_x282, g_x284, g_x286, g_x180, g_x238, g_x250⟩, ⟨g_o5, g_c5, g_v5, g_t5, g_oa, g_ca, g_va, g_ta, g_zc, g_zd, g_td, g_zf, g_zU, g_zN, g_zh, g_zk, g_tk, g_oi, g_vi⟩⟩ := id hG
  have hA : ∀ q : Nat, s.heap.size ≤ q → A q := fun q h => by rw [← hAe]; exact Or.inr h
  have hS : va_S A s.heap s.heap [] := va_S.rf
  have hP : va_P (dC, dI) vwCl [(h0, .inr (7, [.ref z1, .ref z2, .ref z3, .ref z4, .ref z5, .ref z6, .int 0, .int 0, .int 0]))] s.heap := hP
  have hl := lv_entry ([.ref h0, .int i0, .ref z0]) (n := 4) (Nat.le_of_ble_eq_true rfl)
  rw [lg_entry_eq]
  generalize (lg_sl ([.ref h0, .int i0, .ref z0]) ++ List.replicate (4 - (lg_sl ([.ref h0, .int i0, .ref z0])).length) Slot.unset).toArray = ls at hl ⊢
  have hl : lv_has ls 4 [(0, .ref h0), (1, .int i0), (2, .ref z0)] := hl
  refine lv_aload_n hx hb dL_clear_0 rfl (lv_at hl 2 rfl) ?_
  refine lv_aload_n hx hb dL_clear_1 rfl (lv_at hl 0 rfl) ?_
  refine lv_iload_n hx hb dL_clear_2 rfl (lv_at hl 1 rfl) ?_
  have hPc := hP.sub (ws' := [(h0, .inr (7, [.ref z1, .ref z2, .ref z3, .ref z4, .ref z5, .ref z6, .int 0, .int 0, .int 0]))]) [0] rfl
  have hDc := hD.sub (ws' := [(h0, .inr (7, [.ref z1, .ref z2, .ref z3, .ref z4, .ref z5, .ref z6, .int 0, .int 0, .int 0]))]) [0] (by decide) rfl
  have hKc := hK.sub (tys' := []) [] rfl
  have hFc := va_free (wc := [(h0, .inr (7, [.ref z1, .ref z2, .ref z3, .ref z4, .ref z5, .ref z6, .int 0, .int 0, .int 0]))]) hD hS hA [0] rfl
  refine vx_calli (vx_runV (As := [.int i0]) (rest := [.ref z0]) ⟨hx, hb, hml, hown, hts⟩ (kx_X3_clear_4 l hst dC dI ge5 gea gv5 gva gde gic gi0 h0 z1 z2 z3 z4 z5 z6 s.heap.size i0 i0_l i0_u) (cwV 1 hts gL_clear_X3_clear rfl rfl rfl (by decide +kernel) ⟨Nat.le_of_ble_eq_true rfl, Nat.le_of_ble_eq_true rfl⟩) ⟨fun a U g mk q => by obtain ⟨q0, q1, qP, qK, qD, qG⟩ := q; exact ⟨q0, q1, qP, va_K.moved (u := U) (U := U.calling g mk a) (Vm.Alike.refl U.vm) qK, qD, gv.fb qG⟩, va_recv hKc hPc (ci := 7) (q0 := 0) rfl rfl, fun U hU hW => ⟨rfl, by rw [hU], by rw [hU]; exact hPc, va_K.moved hW.alike hKc, hDc.weaken (fun _ _ _ _ => trivial), gv.pass hW hU hS hFc hG⟩⟩ rfl rfl hl.1 rfl (lv_room (Nat.le_of_ble_eq_true rfl)) dL_clear_3 ⟨Nat.le_of_ble_eq_true rfl, Nat.le_of_ble_eq_true rfl⟩) hS (fun q _ h => hFc q h) hFc (fun q _ h => hFc q h) (fun E ce q9 u t H1 locs ht hvm hpx hB hz1 hk1 hS hce hcv hcl => ?_) (fun r9 u t H1 locs ht hvm hw hB hz1 hk1 hS => hw.elim)
  obtain ⟨rfl, hP1, hK1, hD1⟩ := hB
  rw [ht] at hP1
  have hK1 := va_K.moved hvm.symm hK1
  obtain ⟨hP, hD⟩ := va_join (wr := []) (w1 := [(h0, .inr (7, [.ref z1, .ref z2, .ref z3, .ref z4, .ref z5, .ref z6, .int 0, .int 0, .int 0]))]) hP hD [0] [] rfl rfl (by decide) (by decide) hk1 hFc hP1 hD1
  generalize H1 = H at hP hS hce ⊢
  have hP : va_P (dC, dI) vwCl [(h0, .inr (7, [.ref z1, .ref z2, .ref z3, .ref z4, .ref z5, .ref z6, .int 0, .int 0, .int 0]))] H := hP
  have hD : va_D A [(h0, .inr (7, [.ref z1, .ref z2, .ref z3, .ref z4, .ref z5, .ref z6, .int 0, .int 0, .int 0]))] := hD
  refine vx_catch (own := RL) (name := "java/lang/IndexOutOfBoundsException") hown (tableOf []) ⟨0, 10, 13, 19⟩ (tableOf []) (by rw [htab]; rfl) (fun z hz => nomatch hz) (by decide +kernel) (by decide) (hts (.classLink RL 19 "java/lang/IndexOutOfBoundsException") (by decide +kernel)) (va_Nw.use rfl g_ca_IO) hce hcv hcl ?_
  refine W.eq (g2 := F0 m 13 ls [.ref q9]) rfl ?_
  refine lv_astore_n (lv' := [(3, .ref q9), (0, .ref h0), (1, .int i0), (2, .ref z0)]) hx hb dL_clear_13 rfl hl (by decide) rfl (fun ls hl => ?_)
  refine lv_iconst (v := 1) hx hb dL_clear_14 (by decide) ?_
  exact W.iret (v := 1) hx hb hr (fun t ht hW => ⟨⟨1, (), rfl, rfl, by rw [ht]; exact hP, va_K.moved hW.alike hK, hD⟩, hS.F ht⟩) hS.2.2 dL_clear_15
set_option maxHeartbeats 4000000 in
set_option maxRecDepth 100000 in
theorem kx_X5_isIn_1 (l : Launch) (dC : Nat → ClassId) (dI : Nat → Nat → Nat) (sz : Nat) (i0 : Int32) (i0_l : ((-2147483648) : Int) ≤ i0.toInt) (i0_u : i0.toInt ≤ ((-1) : Int)) : Met l yX5_isIn wsX5_isIn ({ frames := 0, cells := 0, slots := 0, locals := 0 }) (va_Pc [.int i0, .int 0, .int 3] (fun U => U.heap.size = sz ∧ va_P (dC, dI) vwCl [] U.heap ∧ va_K (dC, dI) vwCl [] U ∧ va_D (fun _ => True) [])) (va_Qi (fun (r : Int32) (_ : Unit) => r = 0) (fun (_ : Unit) (t : State) => va_P (dC, dI) vwCl [] t.heap ∧ va_K (dC, dI) vwCl [] t ∧ va_D (va_A [] sz) []) (va_A [] sz)) 0 0 (va_A [] sz) := by
  refine Met.ofW (cc := cX5_isIn) (maxL := 3) (ret := (some .boolean)) (by decide) rfl ?_
  intro p e s m args below meth c s₁ B hml hv
  obtain ⟨rfl, hsz, hP, hK, hD0⟩ := hv
  have hx := B.exec
  have hb := B.bytes
  have hr := B.returns
  have hts := atoms_spec (ws := wsX5_isIn) B.pre
  have hown : s.vm.findClass RX5 = some m.cls := findClass_of_methodNamed B.named
  have hlocks := B.notSynchronized
  subst hsz
  have hD := hD0.self (sz := s.heap.size)
  generalize hAe : va_A [] s.heap.size = A at hD ⊢
  have hA : ∀ q : Nat, s.heap.size ≤ q → A q := fun q h => by rw [← hAe]; exact Or.inr h
  have hS : va_S A s.heap s.heap [] := va_S.rf
  have hP : va_P (dC, dI) vwCl [] s.heap := hP
  have hl := lv_entry ([.int i0, .int 0, .int 3]) (n := 3) (Nat.le_of_ble_eq_true rfl)
  rw [lg_entry_eq]
  generalize (lg_sl ([.int i0, .int 0, .int 3]) ++ List.replicate (3 - (lg_sl ([.int i0, .int 0, .int 3])).length) Slot.unset).toArray = ls at hl ⊢
  have hl : lv_has ls 3 [(0, .int i0), (1, .int 0), (2, .int 3)] := hl
  refine lv_iload_n hx hb dX5_isIn_0 rfl (lv_at hl 0 rfl) ?_
  refine lv_iload_n hx hb dX5_isIn_1 rfl (lv_at hl 1 rfl) ?_
  refine lv_icmp_lt (tgt := 14) hx hb dX5_isIn_2 (by decide) (fun _ => ?_) (fun c9 => absurd (Int32.lt_iff_toInt_lt.mpr (by rw [show (0 : Int32).toInt = 0 from by decide]; omega)) c9)
  refine lv_iconst (v := 0) hx hb dX5_isIn_14 (by decide) ?_
  exact W.zret (v := 0) hx hb hr (by decide) (fun t ht hW => ⟨⟨0, (), rfl, rfl, by rw [ht]; exact hP, va_K.moved hW.alike hK, hD⟩, hS.F ht⟩) hS.2.2 dX5_isIn_15
set_option maxHeartbeats 4000000 in
set_option maxRecDepth 100000 in
theorem kx_X5_isNo_1 (l : Launch) (dC : Nat → ClassId) (dI : Nat → Nat → Nat) (sz : Nat) (i0 : Int32) (i0_l : ((-2147483648) : Int) ≤ i0.toInt) (i0_u : i0.toInt ≤ ((-1) : Int)) : Met l yX5_isNo wsX5_isNo ({ frames := 1, cells := 0, slots := 0, locals := 22 }) (va_Pc [.int i0] (fun U => U.heap.size = sz ∧ va_P (dC, dI) vwCl [] U.heap ∧ va_K (dC, dI) vwCl [] U ∧ va_D (fun _ => True) [])) (va_Qi (fun (r : Int32) (_ : Unit) => r = 1) (fun (_ : Unit) (t : State) => va_P (dC, dI) vwCl [] t.heap ∧ va_K (dC, dI) vwCl [] t ∧ va_D (va_A [] sz) []) (va_A [] sz)) 0 0 (va_A [] sz) := by
  refine Met.ofW (cc := cX5_isNo) (maxL := 1) (ret := (some .boolean)) (by decide) rfl ?_
  intro p e s m args below meth c s₁ B hml hv
  obtain ⟨rfl, hsz, hP, hK, hD0⟩ := hv
  have hx := B.exec
  have hb := B.bytes
  have hr := B.returns
  have hts := atoms_spec (ws := wsX5_isNo) B.pre
  have hown : s.vm.findClass RX5 = some m.cls := findClass_of_methodNamed B.named
  have hlocks := B.notSynchronized
  subst hsz
  have hD := hD0.self (sz := s.heap.size)
  generalize hAe : va_A [] s.heap.size = A at hD ⊢
  have hA : ∀ q : Nat, s.heap.size ≤ q → A q := fun q h => by rw [← hAe]; exact Or.inr h
  have hS : va_S A s.heap s.heap [] := va_S.rf
  have hP : va_P (dC, dI) vwCl [] s.heap := hP
  have hl := lv_entry ([.int i0]) (n := 1) (Nat.le_of_ble_eq_true rfl)
  rw [lg_entry_eq]
  generalize (lg_sl ([.int i0]) ++ List.replicate (1 - (lg_sl ([.int i0])).length) Slot.unset).toArray = ls at hl ⊢
  have hl : lv_has ls 1 [(0, .int i0)] := hl
  refine lv_iload_n hx hb dX5_isNo_0 rfl (lv_at hl 0 rfl) ?_
  refine lv_iconst (v := 0) hx hb dX5_isNo_1 (by decide) ?_
  refine lv_iconst (v := 3) hx hb dX5_isNo_2 (by decide) ?_
  have hPc := hP.sub (ws' := []) [] rfl
  have hDc := hD.sub (ws' := []) [] (by decide) rfl
  have hKc := hK.sub (tys' := []) [] rfl
  have hFc := va_free (wc := []) hD hS hA [] rfl
  refine va_calli (va_runS (As := [.int i0, .int 0, .int 3]) (rest := []) ⟨hx, hb, hml, hown, hts⟩ (kx_X5_isIn_1 l dC dI s.heap.size i0 i0_l i0_u) (cwS 3 hts gX5_isNo_X5_isIn rfl rfl rfl (by decide +kernel) ⟨Nat.le_of_ble_eq_true rfl, Nat.le_of_ble_eq_true rfl⟩) ⟨fun a U g mk q => by obtain ⟨q0, q1, qP, qK, qD⟩ := q; exact ⟨q0, q1, qP, va_K.moved (u := U) (U := U.calling g mk a) (Vm.Alike.refl U.vm) qK, qD⟩, fun U hU hW => ⟨rfl, by rw [hU], by rw [hU]; exact hPc, va_K.moved hW.alike hKc, hDc.weaken (fun _ _ _ _ => trivial)⟩⟩ rfl rfl hl.1 rfl (lv_room (Nat.le_of_ble_eq_true rfl)) dX5_isNo_3 ⟨Nat.le_of_ble_eq_true rfl, Nat.le_of_ble_eq_true rfl⟩) hS (fun q _ h => hFc q h) hFc (fun r9 u t H1 locs ht hvm hw hB hz1 hk1 hS => ?_)
  obtain rfl := hw
  obtain ⟨hP1, hK1, hD1⟩ := hB
  rw [ht] at hP1
  have hK1 := va_K.moved hvm.symm hK1
  obtain ⟨hP, hD⟩ := va_join (wr := []) (w1 := []) hP hD [] [] rfl rfl (by decide) (by decide) hk1 hFc hP1 hD1
  generalize H1 = H at hP hS ⊢
  have hP : va_P (dC, dI) vwCl [] H := hP
  have hD : va_D A [] := hD
  refine lv_if_ne (tgt := 13) hx hb dX5_isNo_6 (by decide) (fun c9 => absurd (by decide) c9) (fun _ => ?_)
  refine lv_iconst (v := 1) hx hb dX5_isNo_9 (by decide) ?_
  refine lv_goto (tgt := 14) hx hb dX5_isNo_10 (by decide) ?_
  exact W.zret (v := 1) hx hb hr (by decide) (fun t ht hW => ⟨⟨1, (), rfl, rfl, by rw [ht]; exact hP, va_K.moved hW.alike hK, hD⟩, hS.F ht⟩) hS.2.2 dX5_isNo_14
set_option maxHeartbeats 4000000 in
set_option maxRecDepth 100000 in
theorem kx_X5_fails_1 (l : Launch) (dC : Nat → ClassId) (dI : Nat → Nat → Nat) (h0 : Nat) (z0 : Nat) (z1 : Nat) (z2 : Nat) (sz : Nat) : Met l yX5_fails wsX5_fails ({ frames := 0, cells := 0, slots := 0, locals := 0 }) (va_Pc [.ref h0, .int 1, .int 0, .int 0] (fun U => U.heap.size = sz ∧ va_P (dC, dI) vwCl [(h0, .inr (9, [.int 0, .ref z0, .ref z1, .ref z2, .int 0, .int 0, .int 0]))] U.heap ∧ va_K (dC, dI) vwCl [] U ∧ va_D (fun _ => True) [(h0, .inr (9, [.int 0, .ref z0, .ref z1, .ref z2, .int 0, .int 0, .int 0]))])) (va_Qi (fun (r : Int32) (_ : Unit) => r = 1) (fun (_ : Unit) (t : State) => va_P (dC, dI) vwCl [(h0, .inr (9, [.int 1, .ref z0, .ref z1, .ref z2, .int 0, .int 0, .int 0]))] t.heap ∧ va_K (dC, dI) vwCl [] t ∧ va_D (va_A [(h0, .inr (9, [.int 0, .ref z0, .ref z1, .ref z2, .int 0, .int 0, .int 0]))] sz) [(h0, .inr (9, [.int 1, .ref z0, .ref z1, .ref z2, .int 0, .int 0, .int 0]))]) (va_A [(h0, .inr (9, [.int 0, .ref z0, .ref z1, .ref z2, .int 0, .int 0, .int 0]))] sz)) 0 0 (va_A [(h0, .inr (9, [.int 0, .ref z0, .ref z1, .ref z2, .int 0, .int 0, .int 0]))] sz) := by
  refine Met.ofW (cc := cX5_fails) (maxL := 4) (ret := (some .boolean)) (by decide) rfl ?_
  intro p e s m args below meth c s₁ B hml hv
  obtain ⟨rfl, hsz, hP, hK, hD0⟩ := hv
  have hx := B.exec
  have hb := B.bytes
  have hr := B.returns
  have hts := atoms_spec (ws := wsX5_fails) B.pre
  have hown : s.vm.findClass RX5 = some m.cls := findClass_of_methodNamed B.named
  have hlocks := B.notSynchronized
  subst hsz
  have hD := hD0.self (sz := s.heap.size)
  generalize hAe : va_A [(h0, .inr (9, [.int 0, .ref z0, .ref z1, .ref z2, .int 0, .int 0, .int 0]))] s.heap.size = A at hD ⊢
  have hA : ∀ q : Nat, s.heap.size ≤ q → A q := fun q h => by rw [← hAe]; exact Or.inr h
  have hS : va_S A s.heap s.heap [] := va_S.rf
  have hP : va_P (dC, dI) vwCl [(h0, .inr (9, [.int 0, .ref z0, .ref z1, .ref z2, .int 0, .int 0, .int 0]))] s.heap := hP
  have hl := lv_entry ([.ref h0, .int 1, .int 0, .int 0]) (n := 4) (Nat.le_of_ble_eq_true rfl)
  rw [lg_entry_eq]
  generalize (lg_sl ([.ref h0, .int 1, .int 0, .int 0]) ++ List.replicate (4 - (lg_sl ([.ref h0, .int 1, .int 0, .int 0])).length) Slot.unset).toArray = ls at hl ⊢
  have hl : lv_has ls 4 [(0, .ref h0), (1, .int 1), (2, .int 0), (3, .int 0)] := hl
  refine lv_aload_n hx hb dX5_fails_0 rfl (lv_at hl 0 rfl) ?_
  refine lv_iload_n hx hb dX5_fails_1 rfl (lv_at hl 1 rfl) ?_
  refine lv_if_eq (tgt := 9) hx hb dX5_fails_2 (by decide) (fun c9 => absurd c9 (by decide)) (fun _ => ?_)
  refine lv_iconst (v := 1) hx hb dX5_fails_5 (by decide) ?_
  refine lv_goto (tgt := 26) hx hb dX5_fails_6 (by decide) ?_
  refine va_put (D := (dC, dI)) (ci := 9) (v := .int 1) (ty := .int) (C := RX5) (T := TX5) (N := 7) hx hb hts (by decide +kernel) tyX5 tyX5_ok nmX5 hown hK hP hD hS 0 rfl rfl 0 (by decide) (hts (.fieldLink RX5 27 "RewriteropeModel" "thrown" "I") (by decide +kernel)) (fun _ h9 => h9) rfl (by decide +kernel) rfl rfl (Nat.le_of_ble_eq_true rfl) dX5_fails_26 (fun H locs hP hD hS => ?_)
  have hP : va_P (dC, dI) vwCl [(h0, .inr (9, [.int 1, .ref z0, .ref z1, .ref z2, .int 0, .int 0, .int 0]))] H := hP
  have hD : va_D A [(h0, .inr (9, [.int 1, .ref z0, .ref z1, .ref z2, .int 0, .int 0, .int 0]))] := hD
  refine lv_aload_n hx hb dX5_fails_29 rfl (lv_at hl 0 rfl) ?_
  refine va_get (D := (dC, dI)) (ci := 9) (v := .int 1) (C := RX5) (T := TX5) (N := 7) hx hb hts (by decide +kernel) hown hK hP 0 rfl rfl 0 (by decide) (hts (.fieldLink RX5 27 "RewriteropeModel" "thrown" "I") (by decide +kernel)) (fun _ h9 => h9) rfl dX5_fails_30 ?_
  refine lv_if_le (tgt := 40) hx hb dX5_fails_33 (by decide) (fun c9 => absurd c9 (by decide)) (fun _ => ?_)
  refine lv_iconst (v := 1) hx hb dX5_fails_36 (by decide) ?_
  refine lv_goto (tgt := 41) hx hb dX5_fails_37 (by decide) ?_
  exact W.zret (v := 1) hx hb hr (by decide) (fun t ht hW => ⟨⟨1, (), rfl, rfl, by rw [ht]; exact hP, va_K.moved hW.alike hK, hD⟩, hS.F ht⟩) hS.2.2 dX5_fails_41
set_option maxHeartbeats 4000000 in
set_option maxRecDepth 100000 in
theorem kx_X5_clear_1 (l : Launch) (dC : Nat → ClassId) (dI : Nat → Nat → Nat) (h0 : Nat) (z0 : Nat) (z1 : Nat) (z2 : Nat) (sz : Nat) (i0 : Int32) (i0_l : ((-2147483648) : Int) ≤ i0.toInt) (i0_u : i0.toInt ≤ ((-1) : Int)) : Met l yX5_clear wsX5_clear ({ frames := 2, cells := 0, slots := 0, locals := 42 }) (va_Pc [.ref h0, .int i0] (fun U => U.heap.size = sz ∧ va_P (dC, dI) vwCl [(h0, .inr (9, [.int 0, .ref z0, .ref z1, .ref z2, .int 0, .int 0, .int 0]))] U.heap ∧ va_K (dC, dI) vwCl [] U ∧ va_D (fun _ => True) [(h0, .inr (9, [.int 0, .ref z0, .ref z1, .ref z2, .int 0, .int 0, .int 0]))])) (va_Qi (fun (r : Int32) (_ : Unit) => r = 0) (fun (_ : Unit) (t : State) => va_P (dC, dI) vwCl [(h0, .inr (9, [.int 1, .ref z0, .ref z1, .ref z2, .int 0, .int 0, .int 0]))] t.heap ∧ va_K (dC, dI) vwCl [] t ∧ va_D (va_A [(h0, .inr (9, [.int 0, .ref z0, .ref z1, .ref z2, .int 0, .int 0, .int 0]))] sz) [(h0, .inr (9, [.int 1, .ref z0, .ref z1, .ref z2, .int 0, .int 0, .int 0]))]) (va_A [(h0, .inr (9, [.int 0, .ref z0, .ref z1, .ref z2, .int 0, .int 0, .int 0]))] sz)) 0 0 (va_A [(h0, .inr (9, [.int 0, .ref z0, .ref z1, .ref z2, .int 0, .int 0, .int 0]))] sz) := by
  refine Met.ofW (cc := cX5_clear) (maxL := 3) (ret := (some .int)) (by decide) rfl ?_
  intro p e s m args below meth c s₁ B hml hv
  obtain ⟨rfl, hsz, hP, hK, hD0⟩ := hv
  have hx := B.exec
  have hb := B.bytes
  have hr := B.returns
  have hts := atoms_spec (ws := wsX5_clear) B.pre
  have hown : s.vm.findClass RX5 = some m.cls := findClass_of_methodNamed B.named
  have hlocks := B.notSynchronized
  subst hsz
  have hD := hD0.self (sz := s.heap.size)
  generalize hAe : va_A [(h0, .inr (9, [.int 0, .ref z0, .ref z1, .ref z2, .int 0, .int 0, .int 0]))] s.heap.size = A at hD ⊢
  have hA : ∀ q : Nat, s.heap.size ≤ q → A q := fun q h => by rw [← hAe]; exact Or.inr h
  have hS : va_S A s.heap s.heap [] := va_S.rf
  have hP : va_P (dC, dI) vwCl [(h0, .inr (9, [.int 0, .ref z0, .ref z1, .ref z2, .int 0, .int 0, .int 0]))] s.heap := hP
  have hl := lv_entry ([.ref h0, .int i0]) (n := 3) (Nat.le_of_ble_eq_true rfl)
  rw [lg_entry_eq]
  generalize (lg_sl ([.ref h0, .int i0]) ++ List.replicate (3 - (lg_sl ([.ref h0, .int i0])).length) Slot.unset).toArray = ls at hl ⊢
  have hl : lv_has ls 3 [(0, .ref h0), (1, .int i0)] := hl
  refine lv_aload_n hx hb dX5_clear_0 rfl (lv_at hl 0 rfl) ?_
  refine lv_iload_n hx hb dX5_clear_1 rfl (lv_at hl 1 rfl) ?_
  have hPc := hP.sub (ws' := []) [] rfl
  have hDc := hD.sub (ws' := []) [] (by decide) rfl
  have hKc := hK.sub (tys' := []) [] rfl
  have hFc := va_free (wc := []) hD hS hA [] rfl
  refine va_calli (va_runS (As := [.int i0]) (rest := [.ref h0]) ⟨hx, hb, hml, hown, hts⟩ (kx_X5_isNo_1 l dC dI s.heap.size i0 i0_l i0_u) (cwS 1 hts gX5_clear_X5_isNo rfl rfl rfl (by decide +kernel) ⟨Nat.le_of_ble_eq_true rfl, Nat.le_of_ble_eq_true rfl⟩) ⟨fun a U g mk q => by obtain ⟨q0, q1, qP, qK, qD⟩ := q; exact ⟨q0, q1, qP, va_K.moved (u := U) (U := U.calling g mk a) (Vm.Alike.refl U.vm) qK, qD⟩, fun U hU hW => ⟨rfl, by rw [hU], by rw [hU]; exact hPc, va_K.moved hW.alike hKc, hDc.weaken (fun _ _ _ _ => trivial)⟩⟩ rfl rfl hl.1 rfl (lv_room (Nat.le_of_ble_eq_true rfl)) dX5_clear_2 ⟨Nat.le_of_ble_eq_true rfl, Nat.le_of_ble_eq_true rfl⟩) hS (fun q _ h => hFc q h) hFc (fun r9 u t H1 locs ht hvm hw hB hz1 hk1 hS => ?_)
  obtain rfl := hw
  obtain ⟨hP1, hK1, hD1⟩ := hB
  rw [ht] at hP1
  have hK1 := va_K.moved hvm.symm hK1
  obtain ⟨hP, hD⟩ := va_join (wr := [(h0, .inr (9, [.int 0, .ref z0, .ref z1, .ref z2, .int 0, .int 0, .int 0]))]) (w1 := []) hP hD [] [0] rfl rfl (by decide) (by decide) hk1 hFc hP1 hD1
  generalize H1 = H at hP hS ⊢
  have hP : va_P (dC, dI) vwCl [(h0, .inr (9, [.int 0, .ref z0, .ref z1, .ref z2, .int 0, .int 0, .int 0]))] H := hP
  have hD : va_D A [(h0, .inr (9, [.int 0, .ref z0, .ref z1, .ref z2, .int 0, .int 0, .int 0]))] := hD
  refine lv_iconst (v := 0) hx hb dX5_clear_5 (by decide) ?_
  refine lv_iconst (v := 0) hx hb dX5_clear_6 (by decide) ?_
  have hPc := hP.sub (ws' := [(h0, .inr (9, [.int 0, .ref z0, .ref z1, .ref z2, .int 0, .int 0, .int 0]))]) [0] rfl
  have hDc := hD.sub (ws' := [(h0, .inr (9, [.int 0, .ref z0, .ref z1, .ref z2, .int 0, .int 0, .int 0]))]) [0] (by decide) rfl
  have hKc := hK.sub (tys' := []) [] rfl
  have hFc := va_free (wc := [(h0, .inr (9, [.int 0, .ref z0, .ref z1, .ref z2, .int 0, .int 0, .int 0]))]) hD hS hA [0] rfl
  refine va_calli (va_runV (As := [.int 1, .int 0, .int 0]) (rest := []) ⟨hx, hb, hml, hown, hts⟩ (kx_X5_fails_1 l dC dI h0 z0 z1 z2 H.size) (cwV 3 hts gX5_clear_X5_fails rfl rfl rfl (by decide +kernel) ⟨Nat.le_of_ble_eq_true rfl, Nat.le_of_ble_eq_true rfl⟩) ⟨fun a U g mk q => by obtain ⟨q0, q1, qP, qK, qD⟩ := q; exact ⟨q0, q1, qP, va_K.moved (u := U) (U := U.calling g mk a) (Vm.Alike.refl U.vm) qK, qD⟩, va_recv hKc hPc (ci := 9) (q0 := 0) rfl rfl, fun U hU hW => ⟨rfl, by rw [hU], by rw [hU]; exact hPc, va_K.moved hW.alike hKc, hDc.weaken (fun _ _ _ _ => trivial)⟩⟩ rfl rfl hl.1 rfl (lv_room (Nat.le_of_ble_eq_true rfl)) dX5_clear_7 ⟨Nat.le_of_ble_eq_true rfl, Nat.le_of_ble_eq_true rfl⟩) hS (fun q _ h => hFc q h) hFc (fun r9 u t H1 locs ht hvm hw hB hz1 hk1 hS => ?_)
  obtain rfl := hw
  obtain ⟨hP1, hK1, hD1⟩ := hB
  rw [ht] at hP1
  have hK1 := va_K.moved hvm.symm hK1
  obtain ⟨hP, hD⟩ := va_join (wr := []) (w1 := [(h0, .inr (9, [.int 1, .ref z0, .ref z1, .ref z2, .int 0, .int 0, .int 0]))]) hP hD [0] [] rfl rfl (by decide) (by decide) hk1 hFc hP1 hD1
  generalize H1 = H at hP hS ⊢
  have hP : va_P (dC, dI) vwCl [(h0, .inr (9, [.int 1, .ref z0, .ref z1, .ref z2, .int 0, .int 0, .int 0]))] H := hP
  have hD : va_D A [(h0, .inr (9, [.int 1, .ref z0, .ref z1, .ref z2, .int 0, .int 0, .int 0]))] := hD
  refine lv_if_eq (tgt := 15) hx hb dX5_clear_10 (by decide) (fun c9 => absurd c9 (by decide)) (fun _ => ?_)
  refine lv_iconst (v := 0) hx hb dX5_clear_13 (by decide) ?_
  exact W.iret (v := 0) hx hb hr (fun t ht hW => ⟨⟨0, (), rfl, rfl, by rw [ht]; exact hP, va_K.moved hW.alike hK, hD⟩, hS.F ht⟩) hS.2.2 dX5_clear_14
set_option maxHeartbeats 4000000 in
set_option maxRecDepth 100000 in
theorem kx_X5_thrown_1 (l : Launch) (dC : Nat → ClassId) (dI : Nat → Nat → Nat) (h0 : Nat) (z0 : Nat) (z1 : Nat) (z2 : Nat) (sz : Nat) : Met l yX5_thrown wsX5_thrown ({ frames := 0, cells := 0, slots := 0, locals := 0 }) (va_Pc [.ref h0] (fun U => U.heap.size = sz ∧ va_P (dC, dI) vwCl [(h0, .inr (9, [.int 1, .ref z0, .ref z1, .ref z2, .int 0, .int 0, .int 0]))] U.heap ∧ va_K (dC, dI) vwCl [] U ∧ va_D (fun _ => True) [(h0, .inr (9, [.int 1, .ref z0, .ref z1, .ref z2, .int 0, .int 0, .int 0]))])) (va_Qi (fun (r : Int32) (_ : Unit) => r = 1) (fun (_ : Unit) (t : State) => va_P (dC, dI) vwCl [(h0, .inr (9, [.int 1, .ref z0, .ref z1, .ref z2, .int 0, .int 0, .int 0]))] t.heap ∧ va_K (dC, dI) vwCl [] t ∧ va_D (va_A [(h0, .inr (9, [.int 1, .ref z0, .ref z1, .ref z2, .int 0, .int 0, .int 0]))] sz) [(h0, .inr (9, [.int 1, .ref z0, .ref z1, .ref z2, .int 0, .int 0, .int 0]))]) (va_A [(h0, .inr (9, [.int 1, .ref z0, .ref z1, .ref z2, .int 0, .int 0, .int 0]))] sz)) 0 0 (va_A [(h0, .inr (9, [.int 1, .ref z0, .ref z1, .ref z2, .int 0, .int 0, .int 0]))] sz) := by
  refine Met.ofW (cc := cX5_thrown) (maxL := 1) (ret := (some .int)) (by decide) rfl ?_
  intro p e s m args below meth c s₁ B hml hv
  obtain ⟨rfl, hsz, hP, hK, hD0⟩ := hv
  have hx := B.exec
  have hb := B.bytes
  have hr := B.returns
  have hts := atoms_spec (ws := wsX5_thrown) B.pre
  have hown : s.vm.findClass RX5 = some m.cls := findClass_of_methodNamed B.named
  have hlocks := B.notSynchronized
  subst hsz
  have hD := hD0.self (sz := s.heap.size)
  generalize hAe : va_A [(h0, .inr (9, [.int 1, .ref z0, .ref z1, .ref z2, .int 0, .int 0, .int 0]))] s.heap.size = A at hD ⊢
  have hA : ∀ q : Nat, s.heap.size ≤ q → A q := fun q h => by rw [← hAe]; exact Or.inr h
  have hS : va_S A s.heap s.heap [] := va_S.rf
  have hP : va_P (dC, dI) vwCl [(h0, .inr (9, [.int 1, .ref z0, .ref z1, .ref z2, .int 0, .int 0, .int 0]))] s.heap := hP
  have hl := lv_entry ([.ref h0]) (n := 1) (Nat.le_of_ble_eq_true rfl)
  rw [lg_entry_eq]
  generalize (lg_sl ([.ref h0]) ++ List.replicate (1 - (lg_sl ([.ref h0])).length) Slot.unset).toArray = ls at hl ⊢
  have hl : lv_has ls 1 [(0, .ref h0)] := hl
  refine lv_aload_n hx hb dX5_thrown_0 rfl (lv_at hl 0 rfl) ?_
  refine va_get (D := (dC, dI)) (ci := 9) (v := .int 1) (C := RX5) (T := TX5) (N := 7) hx hb hts (by decide +kernel) hown hK hP 0 rfl rfl 0 (by decide) (hts (.fieldLink RX5 27 "RewriteropeModel" "thrown" "I") (by decide +kernel)) (fun _ h9 => h9) rfl dX5_thrown_1 ?_
  exact W.iret (v := 1) hx hb hr (fun t ht hW => ⟨⟨1, (), rfl, rfl, by rw [ht]; exact hP, va_K.moved hW.alike hK, hD⟩, hS.F ht⟩) hS.2.2 dX5_thrown_4
set_option maxHeartbeats 4000000 in
set_option maxRecDepth 100000 in
theorem kx_X3_needPlace_1 (l : Launch) (hst : l.stackTraces = false) (dC : Nat → ClassId) (dI : Nat → Nat → Nat) (ge5 gea gv5 gva gde gic gi0 : Nat) (h0 : Nat) (z0 : Nat) (sz : Nat) (i0 : Int32) (i0_l : (1 : Int) ≤ i0.toInt) (i0_u : i0.toInt ≤ (2147483647 : Int)) : vx_Met l yX3_needPlace wsX3_needPlace ({ frames := 6, cells := 1, slots := 6, locals := 120 }) (va_Pc [.ref h0, .int i0] (fun U => U.heap.size = sz ∧ va_P (dC, dI) vwCl [(h0, .inr (6, [.ref z0, .int 0]))] U.heap ∧ va_K (dC, dI) vwCl [] U ∧ va_D (fun _ => True) [(h0, .inr (6, [.ref z0, .int 0]))] ∧ gv ge5 gea gv5 gva gde gic gi0 (va_A [(h0, .inr (6, [.ref z0, .int 0]))] sz) U U.heap)) (va_Qv (fun _ : Unit => False) (fun _ _ => True) (va_A [(h0, .inr (6, [.ref z0, .int 0]))] sz)) (vx_X (fun _ : Unit => True) (fun (E : String) (_ : Unit) (t : State) => E = "java/lang/IndexOutOfBoundsException" ∧ va_P (dC, dI) vwCl [(h0, .inr (6, [.ref z0, .int 0]))] t.heap ∧ va_K (dC, dI) vwCl [] t ∧ va_D (va_A [(h0, .inr (6, [.ref z0, .int 0]))] sz) [(h0, .inr (6, [.ref z0, .int 0]))]) (va_A [(h0, .inr (6, [.ref z0, .int 0]))] sz)) 1 6 (va_A [(h0, .inr (6, [.ref z0, .int 0]))] sz) := by
  refine vx_ofW (cc := cX3_needPlace) (maxL := 2) (ret := none) (by decide) rfl ?_
  intro p e s m args below meth c s₁ B hml ht9 hv
  obtain ⟨rfl, hsz, hP, hK, hD0, hG⟩ := hv
  have hx := B.exec
  have hb := B.bytes
  have hr := B.returns
  have hts := atoms_spec (ws := wsX3_needPlace) B.pre
  have hown : s.vm.findClass RX3 = some m.cls := findClass_of_methodNamed B.named
  have hlocks := B.notSynchronized
  subst hsz
  have hD := hD0.self (sz := s.heap.size)
  generalize hAe : va_A [(h0, .inr (6, [.ref z0, .int 0]))] s.heap.size = A at hD hG ⊢
  obtain ⟨⟨g_AO_Text, g_AO_String, g_AO_Object, g_nm_RX1_20, g_nm_RX0_17, g_nm_RX3_31, g_nm_RX2_44, g_nm_RL_121, g_nf_RL_13, g_nf_RL_47, g_ca_IO, g_ca_IA, g_ca_IS, g_ca_IntObj, g_ca_StrObj, g_de_RT, g_de_EX, g_de_TH, g_nc_IA_IO, g_nc_IS_IO, g_nc_IS_IA⟩, ⟨g_s3, g_s5, g_sa, g_x278, g_x280, g_x282, g_x284, g_x286, g_x180, g_x238, g_x250⟩, ⟨g_o5, g_c5, g_v5, g_t5, g_oa, g_ca, g_va, g_ta, g_zc, g_zd, g_td, g_zf, g_zU, g_zN, g_zh, g_zk, g_tk, g_oi, g_vi⟩⟩ := id hG
  have hA : ∀ q : Nat, s.heap.size ≤ q → A q := fun q h => by rw [← hAe]; exact Or.inr h
  have hS : va_S A s.heap s.heap [] := va_S.rf
  have hP : va_P (dC, dI) vwCl [(h0, .inr (6, [.ref z0, .int 0]))] s.heap := hP
  have hl := lv_entry ([.ref h0, .int i0]) (n := 2) (Nat.le_of_ble_eq_true rfl)
  rw [lg_entry_eq]
  generalize (lg_sl ([.ref h0, .int i0]) ++ List.replicate (2 - (lg_sl ([.ref h0, .int i0])).length) Slot.unset).toArray = ls at hl ⊢
  have hl : lv_has ls 2 [(0, .ref h0), (1, .int i0)] := hl
  refine lv_iload_n hx hb dX3_needPlace_0 rfl (lv_at hl 1 rfl) ?_
  refine lv_if_lt (tgt := 12) hx hb dX3_needPlace_1 (by decide) (fun c9 => absurd c9 (fun c8 => absurd (Int32.lt_iff_toInt_lt.mp c8) (by rw [show (0 : Int32).toInt = 0 from by decide]; omega))) (fun _ => ?_)
  refine lv_iload_n hx hb dX3_needPlace_4 rfl (lv_at hl 1 rfl) ?_
  refine lv_aload_n hx hb dX3_needPlace_5 rfl (lv_at hl 0 rfl) ?_
  refine va_get (D := (dC, dI)) (ci := 6) (v := .int 0) (C := RX2) (T := TX2) (N := 2) hx hb hts (by decide +kernel) hown hK hP 0 rfl rfl 1 (by decide) (hts (.fieldLink RX3 65 "Rewriterope$Text" "length" "I") (by decide +kernel)) (fun _ h9 => h9) rfl dX3_needPlace_6 ?_
  refine lv_icmp_le (tgt := 23) hx hb dX3_needPlace_9 (by decide) (fun c9 => absurd c9 (fun c8 => absurd (Int32.le_iff_toInt_le.mp c8) (by rw [show (0 : Int32).toInt = 0 from by decide]; omega))) (fun _ => ?_)
  obtain ⟨sa9, hsa9⟩ := g_x282
  have hin9 : ∀ w ∈ (vx_atS RX3 240 "java/lang/IndexOutOfBoundsException" ["java/lang/RuntimeException", "java/lang/Exception"]).filter goodWord, w ∈ wsX3_needPlace := (by intro w hw; first | exact List.mem_cons_of_mem _ (List.mem_append_right _ hw) | exact List.mem_cons_of_mem _ (List.mem_append_left _ (List.mem_append_right _ hw)))
  exact vx_throwSW (cls := "java/lang/IndexOutOfBoundsException") (text := "no such place") (names := ["java/lang/RuntimeException", "java/lang/Exception"]) (ic := 240) hx hb hst hown (by decide) (by decide) (hts (.classLink RX3 236 "java/lang/IndexOutOfBoundsException") (by decide +kernel)) (hts (.initialized "java/lang/IndexOutOfBoundsException") (by decide +kernel)) hsa9 (vx_hat (B := [.declares (Bundle.initS "java/lang/RuntimeException"), .declares (Bundle.initS "java/lang/Exception"), .declares (Bundle.initS Bundle.tN), .castable "java/lang/IndexOutOfBoundsException" "java/lang/IndexOutOfBoundsException"]) (fun w hw => hts w (hin9 w hw)) (fun w hw => by rw [xbad_IO] at hw; exact hw) (vx_c (va_Nw.use rfl g_de_RT) (vx_c (va_Nw.use rfl g_de_EX) (vx_c (va_Nw.use rfl g_de_TH) (vx_c (va_Nw.use rfl g_ca_IO) vx_n))))) (by decide +kernel) g_zU g_zN hS (by rw [hml]; exact hl.1) dX3_needPlace_12 dX3_needPlace_15 dX3_needPlace_16 dX3_needPlace_19 dX3_needPlace_22 (fun x hx9 => (ht9 x hx9).elim) (Nat.le_of_ble_eq_true rfl) (Nat.le_of_ble_eq_true rfl) (Nat.le_of_ble_eq_true rfl) (Nat.le_of_ble_eq_true rfl) hlocks (fun t ha hz hk => ⟨(), trivial, ⟨rfl, hP.kept (fun k q hq => hk _ (vx_lt hP hq)), va_K.moved ha hK, hD⟩, Nat.le_trans hS.1 hz, fun q h1 h2 => (hk q (Nat.lt_of_lt_of_le h1 hS.1)).trans (hS.2.1 q h1 h2)⟩) hS.2.2 (Nat.le_refl _) (Nat.le_refl _)
set_option maxHeartbeats 4000000 in
set_option maxRecDepth 100000 in
theorem kx_X3_lay_8 (l : Launch) (hst : l.stackTraces = false) (dC : Nat → ClassId) (dI : Nat → Nat → Nat) (ge5 gea gv5 gva gde gic gi0 : Nat) (h0 : Nat) (h1 : Nat) (h2 : Nat) (h3 : Nat) (h4 : Nat) (h5 : Nat) (z0 : Nat) (z1 : Nat) (z2 : Nat) (z3 : Nat) (z4 : Nat) (z5 : Nat) (z6 : Nat) (z7 : Nat) (z8 : Nat) (k0 : ClassId) (sz : Nat) (i0 : Int32) (i0_l : (1 : Int) ≤ i0.toInt) (i0_u : i0.toInt ≤ (2147483647 : Int)) (i1 : Int32) (i1_l : (0 : Int) ≤ i1.toInt) (i1_u : i1.toInt ≤ (3 : Int)) : vx_Met l yX3_lay wsX3_lay ({ frames := 7, cells := 1, slots := 6, locals := 141 }) (va_Pc [.ref h0, .int 0, .int i0, .int i1] (fun U => U.heap.size = sz ∧ va_P (dC, dI) vwCl [(h0, .inr (7, [.ref h1, .ref z0, .ref z1, .ref z2, .ref z3, .ref z4, .int 0, .int 0, .int 0])), (h1, .inl (k0, 4, .inr (.inr (.inr (.inr (va_up (va_up (va_up (va_up (fun _ => none) 0 (some h2)) 1 (some h3)) 2 (some h4)) 3 (some h5))))))), (h2, .inr (6, [.ref z5, .int 0])), (h3, .inr (6, [.ref z6, .int 0])), (h4, .inr (6, [.ref z7, .int 0])), (h5, .inr (6, [.ref z8, .int 0]))] U.heap ∧ va_K (dC, dI) vwCl [(k0, .object "Rewriterope$Text")] U ∧ va_D (fun _ => True) [(h0, .inr (7, [.ref h1, .ref z0, .ref z1, .ref z2, .ref z3, .ref z4, .int 0, .int 0, .int 0])), (h1, .inl (k0, 4, .inr (.inr (.inr (.inr (va_up (va_up (va_up (va_up (fun _ => none) 0 (some h2)) 1 (some h3)) 2 (some h4)) 3 (some h5))))))), (h2, .inr (6, [.ref z5, .int 0])), (h3, .inr (6, [.ref z6, .int 0])), (h4, .inr (6, [.ref z7, .int 0])), (h5, .inr (6, [.ref z8, .int 0]))] ∧ gv ge5 gea gv5 gva gde gic gi0 (va_A [(h0, .inr (7, [.ref h1, .ref z0, .ref z1, .ref z2, .ref z3, .ref z4, .int 0, .int 0, .int 0])), (h1, .inl (k0, 4, .inr (.inr (.inr (.inr (va_up (va_up (va_up (va_up (fun _ => none) 0 (some h2)) 1 (some h3)) 2 (some h4)) 3 (some h5))))))), (h2, .inr (6, [.ref z5, .int 0])), (h3, .inr (6, [.ref z6, .int 0])), (h4, .inr (6, [.ref z7, .int 0])), (h5, .inr (6, [.ref z8, .int 0]))] sz) U U.heap)) (va_Qi (fun (_ : Int32) (_ : Unit) => False) (fun _ _ => True) (va_A [(h0, .inr (7, [.ref h1, .ref z0, .ref z1, .ref z2, .ref z3, .ref z4, .int 0, .int 0, .int 0])), (h1, .inl (k0, 4, .inr (.inr (.inr (.inr (va_up (va_up (va_up (va_up (fun _ => none) 0 (some h2)) 1 (some h3)) 2 (some h4)) 3 (some h5))))))), (h2, .inr (6, [.ref z5, .int 0])), (h3, .inr (6, [.ref z6, .int 0])), (h4, .inr (6, [.ref z7, .int 0])), (h5, .inr (6, [.ref z8, .int 0]))] sz)) (vx_X (fun _ : Unit => True) (fun (E : String) (_ : Unit) (t : State) => E = "java/lang/IndexOutOfBoundsException" ∧ va_P (dC, dI) vwCl [(h0, .inr (7, [.ref h1, .ref z0, .ref z1, .ref z2, .ref z3, .ref z4, .int 0, .int 0, .int 0])), (h1, .inl (k0, 4, .inr (.inr (.inr (.inr (va_up (va_up (va_up (va_up (fun _ => none) 0 (some h2)) 1 (some h3)) 2 (some h4)) 3 (some h5))))))), (h2, .inr (6, [.ref z5, .int 0])), (h3, .inr (6, [.ref z6, .int 0])), (h4, .inr (6, [.ref z7, .int 0])), (h5, .inr (6, [.ref z8, .int 0]))] t.heap ∧ va_K (dC, dI) vwCl [(k0, .object "Rewriterope$Text")] t ∧ va_D (va_A [(h0, .inr (7, [.ref h1, .ref z0, .ref z1, .ref z2, .ref z3, .ref z4, .int 0, .int 0, .int 0])), (h1, .inl (k0, 4, .inr (.inr (.inr (.inr (va_up (va_up (va_up (va_up (fun _ => none) 0 (some h2)) 1 (some h3)) 2 (some h4)) 3 (some h5))))))), (h2, .inr (6, [.ref z5, .int 0])), (h3, .inr (6, [.ref z6, .int 0])), (h4, .inr (6, [.ref z7, .int 0])), (h5, .inr (6, [.ref z8, .int 0]))] sz) [(h0, .inr (7, [.ref h1, .ref z0, .ref z1, .ref z2, .ref z3, .ref z4, .int 0, .int 0, .int 0])), (h1, .inl (k0, 4, .inr (.inr (.inr (.inr (va_up (va_up (va_up (va_up (fun _ => none) 0 (some h2)) 1 (some h3)) 2 (some h4)) 3 (some h5))))))), (h2, .inr (6, [.ref z5, .int 0])), (h3, .inr (6, [.ref z6, .int 0])), (h4, .inr (6, [.ref z7, .int 0])), (h5, .inr (6, [.ref z8, .int 0]))]) (va_A [(h0, .inr (7, [.ref h1, .ref z0, .ref z1, .ref z2, .ref z3, .ref z4, .int 0, .int 0, .int 0])), (h1, .inl (k0, 4, .inr (.inr (.inr (.inr (va_up (va_up (va_up (va_up (fun _ => none) 0 (some h2)) 1 (some h3)) 2 (some h4)) 3 (some h5))))))), (h2, .inr (6, [.ref z5, .int 0])), (h3, .inr (6, [.ref z6, .int 0])), (h4, .inr (6, [.ref z7, .int 0])), (h5, .inr (6, [.ref z8, .int 0]))] sz)) 1 6 (va_A [(h0, .inr (7, [.ref h1, .ref z0, .ref z1, .ref z2, .ref z3, .ref z4, .int 0, .int 0, .int 0])), (h1, .inl (k0, 4, .inr (.inr (.inr (.inr (va_up (va_up (va_up (va_up (fun _ => none) 0 (some h2)) 1 (some h3)) 2 (some h4)) 3 (some h5))))))), (h2, .inr (6, [.ref z5, .int 0])), (h3, .inr (6, [.ref z6, .int 0])), (h4, .inr (6, [.ref z7, .int 0])), (h5, .inr (6, [.ref z8, .int 0]))] sz) := by
  refine vx_ofW (cc := cX3_lay) (maxL := 5) (ret := (some .int)) (by decide) rfl ?_
  intro p e s m args below meth c s₁ B hml ht9 hv
  obtain ⟨rfl, hsz, hP, hK, hD0, hG⟩ := hv
  have hx := B.exec
  have hb := B.bytes
  have hr := B.returns
  have hts := atoms_spec (ws := wsX3_lay) B.pre
  have hown : s.vm.findClass RX3 = some m.cls := findClass_of_methodNamed B.named
  have hlocks := B.notSynchronized
  subst hsz
  have hD := hD0.self (sz := s.heap.size)
  generalize hAe : va_A [(h0, .inr (7, [.ref h1, .ref z0, .ref z1, .ref z2, .ref z3, .ref z4, .int 0, .int 0, .int 0])), (h1, .inl (k0, 4, .inr (.inr (.inr (.inr (va_up (va_up (va_up (va_up (fun _ => none) 0 (some h2)) 1 (some h3)) 2 (some h4)) 3 (some h5))))))), (h2, .inr (6, [.ref z5, .int 0])), (h3, .inr (6, [.ref z6, .int 0])), (h4, .inr (6, [.ref z7, .int 0])), (h5, .inr (6, [.ref z8, .int 0]))] s.heap.size = A at hD hG ⊢
  obtain ⟨⟨g_AO_Text, g_AO_String, g_AO_Object, g_nm_RX1_20, g_nm_RX0_17, g_nm_RX3_31, g_nm_RX2_44, g_nm_RL_121, g_nf_RL_13, g_nf_RL_47, g_ca_IO, g_ca_IA, g_ca_IS, g_ca_IntObj, g_ca_StrObj, g_de_RT, g_de_EX, g_de_TH, g_nc_IA_IO, g_nc_IS_IO, g_nc_IS_IA⟩, ⟨g_s3, g_s5, g_sa, g_x278, g_x280, g_x282, g_x284, g_x286, g_x180, g_x238, g_x250⟩, ⟨g_o5, g_c5, g_v5, g_t5, g_oa, g_ca, g_va, g_ta, g_zc, g_zd, g_td, g_zf, g_zU, g_zN, g_zh, g_zk, g_tk, g_oi, g_vi⟩⟩ := id hG
  have hA : ∀ q : Nat, s.heap.size ≤ q → A q := fun q h => by rw [← hAe]; exact Or.inr h
  have hS : va_S A s.heap s.heap [] := va_S.rf
  have hP : va_P (dC, dI) vwCl [(h0, .inr (7, [.ref h1, .ref z0, .ref z1, .ref z2, .ref z3, .ref z4, .int 0, .int 0, .int 0])), (h1, .inl (k0, 4, .inr (.inr (.inr (.inr (va_up (va_up (va_up (va_up (fun _ => none) 0 (some h2)) 1 (some h3)) 2 (some h4)) 3 (some h5))))))), (h2, .inr (6, [.ref z5, .int 0])), (h3, .inr (6, [.ref z6, .int 0])), (h4, .inr (6, [.ref z7, .int 0])), (h5, .inr (6, [.ref z8, .int 0]))] s.heap := hP
  have hl := lv_entry ([.ref h0, .int 0, .int i0, .int i1]) (n := 5) (Nat.le_of_ble_eq_true rfl)
  rw [lg_entry_eq]
  generalize (lg_sl ([.ref h0, .int 0, .int i0, .int i1]) ++ List.replicate (5 - (lg_sl ([.ref h0, .int 0, .int i0, .int i1])).length) Slot.unset).toArray = ls at hl ⊢
  have hl : lv_has ls 5 [(0, .ref h0), (1, .int 0), (2, .int i0), (3, .int i1)] := hl
  refine lv_iload_n hx hb dX3_lay_0 rfl (lv_at hl 1 rfl) ?_
  have hPc := hP.sub (ws' := []) [] rfl
  have hDc := hD.sub (ws' := []) [] (by decide) rfl
  have hKc := hK.sub (tys' := []) [] rfl
  have hFc := va_free (wc := []) hD hS hA [] rfl
  refine va_callv (va_runS (As := [.int 0]) (rest := []) ⟨hx, hb, hml, hown, hts⟩ (kx_X3_needRope_1 l dC dI s.heap.size) (cwS 1 hts gX3_lay_X3_needRope rfl rfl rfl (by decide +kernel) ⟨Nat.le_of_ble_eq_true rfl, Nat.le_of_ble_eq_true rfl⟩) ⟨fun a U g mk q => by obtain ⟨q0, q1, qP, qK, qD⟩ := q; exact ⟨q0, q1, qP, va_K.moved (u := U) (U := U.calling g mk a) (Vm.Alike.refl U.vm) qK, qD⟩, fun U hU hW => ⟨rfl, by rw [hU], by rw [hU]; exact hPc, va_K.moved hW.alike hKc, hDc.weaken (fun _ _ _ _ => trivial)⟩⟩ rfl rfl hl.1 rfl (lv_room (Nat.le_of_ble_eq_true rfl)) dX3_lay_1 ⟨Nat.le_of_ble_eq_true rfl, Nat.le_of_ble_eq_true rfl⟩) hS (fun q _ h => hFc q h) hFc (fun u t H1 locs ht hvm hw hB hz1 hk1 hS => ?_)
  obtain ⟨hP1, hK1, hD1⟩ := hB
  rw [ht] at hP1
  have hK1 := va_K.moved hvm.symm hK1
  obtain ⟨hP, hD⟩ := va_join (wr := [(h0, .inr (7, [.ref h1, .ref z0, .ref z1, .ref z2, .ref z3, .ref z4, .int 0, .int 0, .int 0])), (h1, .inl (k0, 4, .inr (.inr (.inr (.inr (va_up (va_up (va_up (va_up (fun _ => none) 0 (some h2)) 1 (some h3)) 2 (some h4)) 3 (some h5))))))), (h2, .inr (6, [.ref z5, .int 0])), (h3, .inr (6, [.ref z6, .int 0])), (h4, .inr (6, [.ref z7, .int 0])), (h5, .inr (6, [.ref z8, .int 0]))]) (w1 := []) hP hD [] [0, 1, 2, 3, 4, 5] rfl rfl (by decide) (by decide) hk1 hFc hP1 hD1
  generalize H1 = H at hP hS ⊢
  have hP : va_P (dC, dI) vwCl [(h0, .inr (7, [.ref h1, .ref z0, .ref z1, .ref z2, .ref z3, .ref z4, .int 0, .int 0, .int 0])), (h1, .inl (k0, 4, .inr (.inr (.inr (.inr (va_up (va_up (va_up (va_up (fun _ => none) 0 (some h2)) 1 (some h3)) 2 (some h4)) 3 (some h5))))))), (h2, .inr (6, [.ref z5, .int 0])), (h3, .inr (6, [.ref z6, .int 0])), (h4, .inr (6, [.ref z7, .int 0])), (h5, .inr (6, [.ref z8, .int 0]))] H := hP
  have hD : va_D A [(h0, .inr (7, [.ref h1, .ref z0, .ref z1, .ref z2, .ref z3, .ref z4, .int 0, .int 0, .int 0])), (h1, .inl (k0, 4, .inr (.inr (.inr (.inr (va_up (va_up (va_up (va_up (fun _ => none) 0 (some h2)) 1 (some h3)) 2 (some h4)) 3 (some h5))))))), (h2, .inr (6, [.ref z5, .int 0])), (h3, .inr (6, [.ref z6, .int 0])), (h4, .inr (6, [.ref z7, .int 0])), (h5, .inr (6, [.ref z8, .int 0]))] := hD
  refine lv_iload_n hx hb dX3_lay_4 rfl (lv_at hl 3 rfl) ?_
  have hPc := hP.sub (ws' := []) [] rfl
  have hDc := hD.sub (ws' := []) [] (by decide) rfl
  have hKc := hK.sub (tys' := []) [] rfl
  have hFc := va_free (wc := []) hD hS hA [] rfl
  refine va_callv (va_runS (As := [.int i1]) (rest := []) ⟨hx, hb, hml, hown, hts⟩ (kx_X3_needRope_0 l dC dI H.size i1 i1_l i1_u) (cwS 1 hts gX3_lay_X3_needRope rfl rfl rfl (by decide +kernel) ⟨Nat.le_of_ble_eq_true rfl, Nat.le_of_ble_eq_true rfl⟩) ⟨fun a U g mk q => by obtain ⟨q0, q1, qP, qK, qD⟩ := q; exact ⟨q0, q1, qP, va_K.moved (u := U) (U := U.calling g mk a) (Vm.Alike.refl U.vm) qK, qD⟩, fun U hU hW => ⟨rfl, by rw [hU], by rw [hU]; exact hPc, va_K.moved hW.alike hKc, hDc.weaken (fun _ _ _ _ => trivial)⟩⟩ rfl rfl hl.1 rfl (lv_room (Nat.le_of_ble_eq_true rfl)) dX3_lay_5 ⟨Nat.le_of_ble_eq_true rfl, Nat.le_of_ble_eq_true rfl⟩) hS (fun q _ h => hFc q h) hFc (fun u t H1 locs ht hvm hw hB hz1 hk1 hS => ?_)
  obtain ⟨hP1, hK1, hD1⟩ := hB
  rw [ht] at hP1
  have hK1 := va_K.moved hvm.symm hK1
  obtain ⟨hP, hD⟩ := va_join (wr := [(h0, .inr (7, [.ref h1, .ref z0, .ref z1, .ref z2, .ref z3, .ref z4, .int 0, .int 0, .int 0])), (h1, .inl (k0, 4, .inr (.inr (.inr (.inr (va_up (va_up (va_up (va_up (fun _ => none) 0 (some h2)) 1 (some h3)) 2 (some h4)) 3 (some h5))))))), (h2, .inr (6, [.ref z5, .int 0])), (h3, .inr (6, [.ref z6, .int 0])), (h4, .inr (6, [.ref z7, .int 0])), (h5, .inr (6, [.ref z8, .int 0]))]) (w1 := []) hP hD [] [0, 1, 2, 3, 4, 5] rfl rfl (by decide) (by decide) hk1 hFc hP1 hD1
  generalize H1 = H at hP hS ⊢
  have hP : va_P (dC, dI) vwCl [(h0, .inr (7, [.ref h1, .ref z0, .ref z1, .ref z2, .ref z3, .ref z4, .int 0, .int 0, .int 0])), (h1, .inl (k0, 4, .inr (.inr (.inr (.inr (va_up (va_up (va_up (va_up (fun _ => none) 0 (some h2)) 1 (some h3)) 2 (some h4)) 3 (some h5))))))), (h2, .inr (6, [.ref z5, .int 0])), (h3, .inr (6, [.ref z6, .int 0])), (h4, .inr (6, [.ref z7, .int 0])), (h5, .inr (6, [.ref z8, .int 0]))] H := hP
  have hD : va_D A [(h0, .inr (7, [.ref h1, .ref z0, .ref z1, .ref z2, .ref z3, .ref z4, .int 0, .int 0, .int 0])), (h1, .inl (k0, 4, .inr (.inr (.inr (.inr (va_up (va_up (va_up (va_up (fun _ => none) 0 (some h2)) 1 (some h3)) 2 (some h4)) 3 (some h5))))))), (h2, .inr (6, [.ref z5, .int 0])), (h3, .inr (6, [.ref z6, .int 0])), (h4, .inr (6, [.ref z7, .int 0])), (h5, .inr (6, [.ref z8, .int 0]))] := hD
  refine lv_aload_n hx hb dX3_lay_8 rfl (lv_at hl 0 rfl) ?_
  refine va_get (D := (dC, dI)) (ci := 7) (v := .ref h1) (C := RX3) (T := TX3) (N := 9) hx hb hts (by decide +kernel) hown hK hP 0 rfl rfl 0 (by decide) (hts (.fieldLink RX3 11 "Rewriterope" "ropes" "[LRewriterope$Text;") (by decide +kernel)) (fun _ h9 => h9) rfl dX3_lay_9 ?_
  refine lv_iload_n hx hb dX3_lay_12 rfl (lv_at hl 1 rfl) ?_
  refine va_aldq (D := (dC, dI)) hx hb hK hP 1 0 rfl rfl (by unfold vp_in; decide) dX3_lay_13 ?_
  refine W.eq (g2 := F0 m 14 ls [.ref h2]) rfl ?_
  refine lv_astore (lv' := [(4, .ref h2), (0, .ref h0), (1, .int 0), (2, .int i0), (3, .int i1)]) hx hb dX3_lay_14 hl (by decide) rfl (fun ls hl => ?_)
  refine lv_aload hx hb dX3_lay_16 (lv_at hl 0 rfl) ?_
  refine lv_iload_n hx hb dX3_lay_18 rfl (lv_at hl 3 rfl) ?_
  have hPc := hP.sub (ws' := [(h2, .inr (6, [.ref z5, .int 0]))]) [2] rfl
  have hDc := hD.sub (ws' := [(h2, .inr (6, [.ref z5, .int 0]))]) [2] (by decide) rfl
  have hKc := hK.sub (tys' := []) [] rfl
  have hFc := va_free (wc := [(h2, .inr (6, [.ref z5, .int 0]))]) hD hS hA [2] rfl
  refine vx_callv (vx_runS (As := [.ref h2, .int i0]) (rest := []) ⟨hx, hb, hml, hown, hts⟩ (kx_X3_needPlace_1 l hst dC dI ge5 gea gv5 gva gde gic gi0 h2 z5 H.size i0 i0_l i0_u) (cwS 2 hts gX3_lay_X3_needPlace rfl rfl rfl (by decide +kernel) ⟨Nat.le_of_ble_eq_true rfl, Nat.le_of_ble_eq_true rfl⟩) ⟨fun a U g mk q => by obtain ⟨q0, q1, qP, qK, qD, qG⟩ := q; exact ⟨q0, q1, qP, va_K.moved (u := U) (U := U.calling g mk a) (Vm.Alike.refl U.vm) qK, qD, gv.fb qG⟩, fun U hU hW => ⟨rfl, by rw [hU], by rw [hU]; exact hPc, va_K.moved hW.alike hKc, hDc.weaken (fun _ _ _ _ => trivial), gv.pass hW hU hS hFc hG⟩⟩ rfl rfl hl.1 rfl (lv_room (Nat.le_of_ble_eq_true rfl)) dX3_lay_19 ⟨Nat.le_of_ble_eq_true rfl, Nat.le_of_ble_eq_true rfl⟩) hS (fun q _ h => hFc q h) hFc (fun q _ h => hFc q h) (fun E ce q9 u t H1 locs ht hvm hpx hB hz1 hk1 hS hce hcv hcl => ?_) (fun u t H1 locs ht hvm hw hB hz1 hk1 hS => hw.elim)
  obtain ⟨rfl, hP1, hK1, hD1⟩ := hB
  rw [ht] at hP1
  have hK1 := va_K.moved hvm.symm hK1
  obtain ⟨hP, hD⟩ := va_join (wr := [(h0, .inr (7, [.ref h1, .ref z0, .ref z1, .ref z2, .ref z3, .ref z4, .int 0, .int 0, .int 0])), (h1, .inl (k0, 4, .inr (.inr (.inr (.inr (va_up (va_up (va_up (va_up (fun _ => none) 0 (some h2)) 1 (some h3)) 2 (some h4)) 3 (some h5))))))), (h3, .inr (6, [.ref z6, .int 0])), (h4, .inr (6, [.ref z7, .int 0])), (h5, .inr (6, [.ref z8, .int 0]))]) (w1 := [(h2, .inr (6, [.ref z5, .int 0]))]) hP hD [2] [0, 1, 3, 4, 5] rfl rfl (by decide) (by decide) hk1 hFc hP1 hD1
  generalize H1 = H at hP hS hce ⊢
  have hP : va_P (dC, dI) vwCl [(h0, .inr (7, [.ref h1, .ref z0, .ref z1, .ref z2, .ref z3, .ref z4, .int 0, .int 0, .int 0])), (h1, .inl (k0, 4, .inr (.inr (.inr (.inr (va_up (va_up (va_up (va_up (fun _ => none) 0 (some h2)) 1 (some h3)) 2 (some h4)) 3 (some h5))))))), (h3, .inr (6, [.ref z6, .int 0])), (h4, .inr (6, [.ref z7, .int 0])), (h5, .inr (6, [.ref z8, .int 0])), (h2, .inr (6, [.ref z5, .int 0]))] H := hP
  have hD : va_D A [(h0, .inr (7, [.ref h1, .ref z0, .ref z1, .ref z2, .ref z3, .ref z4, .int 0, .int 0, .int 0])), (h1, .inl (k0, 4, .inr (.inr (.inr (.inr (va_up (va_up (va_up (va_up (fun _ => none) 0 (some h2)) 1 (some h3)) 2 (some h4)) 3 (some h5))))))), (h3, .inr (6, [.ref z6, .int 0])), (h4, .inr (6, [.ref z7, .int 0])), (h5, .inr (6, [.ref z8, .int 0])), (h2, .inr (6, [.ref z5, .int 0]))] := hD
  have hP := hP.sub (ws' := [(h0, .inr (7, [.ref h1, .ref z0, .ref z1, .ref z2, .ref z3, .ref z4, .int 0, .int 0, .int 0])), (h1, .inl (k0, 4, .inr (.inr (.inr (.inr (va_up (va_up (va_up (va_up (fun _ => none) 0 (some h2)) 1 (some h3)) 2 (some h4)) 3 (some h5))))))), (h2, .inr (6, [.ref z5, .int 0])), (h3, .inr (6, [.ref z6, .int 0])), (h4, .inr (6, [.ref z7, .int 0])), (h5, .inr (6, [.ref z8, .int 0]))]) [0, 1, 5, 2, 3, 4] rfl
  have hD := hD.sub (ws' := [(h0, .inr (7, [.ref h1, .ref z0, .ref z1, .ref z2, .ref z3, .ref z4, .int 0, .int 0, .int 0])), (h1, .inl (k0, 4, .inr (.inr (.inr (.inr (va_up (va_up (va_up (va_up (fun _ => none) 0 (some h2)) 1 (some h3)) 2 (some h4)) 3 (some h5))))))), (h2, .inr (6, [.ref z5, .int 0])), (h3, .inr (6, [.ref z6, .int 0])), (h4, .inr (6, [.ref z7, .int 0])), (h5, .inr (6, [.ref z8, .int 0]))]) [0, 1, 5, 2, 3, 4] (by decide) rfl
  exact vx_out (fun x hx9 => (ht9 x hx9).elim) hlocks hce hcv hcl (fun t ht hW => ⟨(), trivial, ⟨rfl, by rw [ht]; exact hP, va_K.moved hW hK, hD⟩, hS.F ht⟩) hS.2.2 (by omega) (by omega)
set_option maxHeartbeats 4000000 in
set_option maxRecDepth 100000 in
theorem kx_X3_lay_9 (l : Launch) (hst : l.stackTraces = false) (dC : Nat → ClassId) (dI : Nat → Nat → Nat) (ge5 gea gv5 gva gde gic gi0 : Nat) (h0 : Nat) (h1 : Nat) (h2 : Nat) (h3 : Nat) (h4 : Nat) (h5 : Nat) (z0 : Nat) (z1 : Nat) (z2 : Nat) (z3 : Nat) (z4 : Nat) (z5 : Nat) (z6 : Nat) (z7 : Nat) (z8 : Nat) (k0 : ClassId) (sz : Nat) (i0 : Int32) (i0_l : (1 : Int) ≤ i0.toInt) (i0_u : i0.toInt ≤ (2147483647 : Int)) (i1 : Int32) (i1_l : (0 : Int) ≤ i1.toInt) (i1_u : i1.toInt ≤ (3 : Int)) : vx_Met l yX3_lay wsX3_lay ({ frames := 7, cells := 1, slots := 6, locals := 141 }) (va_Pc [.ref h0, .int 1, .int i0, .int i1] (fun U => U.heap.size = sz ∧ va_P (dC, dI) vwCl [(h0, .inr (7, [.ref h1, .ref z0, .ref z1, .ref z2, .ref z3, .ref z4, .int 0, .int 0, .int 0])), (h1, .inl (k0, 4, .inr (.inr (.inr (.inr (va_up (va_up (va_up (va_up (fun _ => none) 0 (some h2)) 1 (some h3)) 2 (some h4)) 3 (some h5))))))), (h2, .inr (6, [.ref z5, .int 0])), (h3, .inr (6, [.ref z6, .int 0])), (h4, .inr (6, [.ref z7, .int 0])), (h5, .inr (6, [.ref z8, .int 0]))] U.heap ∧ va_K (dC, dI) vwCl [(k0, .object "Rewriterope$Text")] U ∧ va_D (fun _ => True) [(h0, .inr (7, [.ref h1, .ref z0, .ref z1, .ref z2, .ref z3, .ref z4, .int 0, .int 0, .int 0])), (h1, .inl (k0, 4, .inr (.inr (.inr (.inr (va_up (va_up (va_up (va_up (fun _ => none) 0 (some h2)) 1 (some h3)) 2 (some h4)) 3 (some h5))))))), (h2, .inr (6, [.ref z5, .int 0])), (h3, .inr (6, [.ref z6, .int 0])), (h4, .inr (6, [.ref z7, .int 0])), (h5, .inr (6, [.ref z8, .int 0]))] ∧ gv ge5 gea gv5 gva gde gic gi0 (va_A [(h0, .inr (7, [.ref h1, .ref z0, .ref z1, .ref z2, .ref z3, .ref z4, .int 0, .int 0, .int 0])), (h1, .inl (k0, 4, .inr (.inr (.inr (.inr (va_up (va_up (va_up (va_up (fun _ => none) 0 (some h2)) 1 (some h3)) 2 (some h4)) 3 (some h5))))))), (h2, .inr (6, [.ref z5, .int 0])), (h3, .inr (6, [.ref z6, .int 0])), (h4, .inr (6, [.ref z7, .int 0])), (h5, .inr (6, [.ref z8, .int 0]))] sz) U U.heap)) (va_Qi (fun (_ : Int32) (_ : Unit) => False) (fun _ _ => True) (va_A [(h0, .inr (7, [.ref h1, .ref z0, .ref z1, .ref z2, .ref z3, .ref z4, .int 0, .int 0, .int 0])), (h1, .inl (k0, 4, .inr (.inr (.inr (.inr (va_up (va_up (va_up (va_up (fun _ => none) 0 (some h2)) 1 (some h3)) 2 (some h4)) 3 (some h5))))))), (h2, .inr (6, [.ref z5, .int 0])), (h3, .inr (6, [.ref z6, .int 0])), (h4, .inr (6, [.ref z7, .int 0])), (h5, .inr (6, [.ref z8, .int 0]))] sz)) (vx_X (fun _ : Unit => True) (fun (E : String) (_ : Unit) (t : State) => E = "java/lang/IndexOutOfBoundsException" ∧ va_P (dC, dI) vwCl [(h0, .inr (7, [.ref h1, .ref z0, .ref z1, .ref z2, .ref z3, .ref z4, .int 0, .int 0, .int 0])), (h1, .inl (k0, 4, .inr (.inr (.inr (.inr (va_up (va_up (va_up (va_up (fun _ => none) 0 (some h2)) 1 (some h3)) 2 (some h4)) 3 (some h5))))))), (h2, .inr (6, [.ref z5, .int 0])), (h3, .inr (6, [.ref z6, .int 0])), (h4, .inr (6, [.ref z7, .int 0])), (h5, .inr (6, [.ref z8, .int 0]))] t.heap ∧ va_K (dC, dI) vwCl [(k0, .object "Rewriterope$Text")] t ∧ va_D (va_A [(h0, .inr (7, [.ref h1, .ref z0, .ref z1, .ref z2, .ref z3, .ref z4, .int 0, .int 0, .int 0])), (h1, .inl (k0, 4, .inr (.inr (.inr (.inr (va_up (va_up (va_up (va_up (fun _ => none) 0 (some h2)) 1 (some h3)) 2 (some h4)) 3 (some h5))))))), (h2, .inr (6, [.ref z5, .int 0])), (h3, .inr (6, [.ref z6, .int 0])), (h4, .inr (6, [.ref z7, .int 0])), (h5, .inr (6, [.ref z8, .int 0]))] sz) [(h0, .inr (7, [.ref h1, .ref z0, .ref z1, .ref z2, .ref z3, .ref z4, .int 0, .int 0, .int 0])), (h1, .inl (k0, 4, .inr (.inr (.inr (.inr (va_up (va_up (va_up (va_up (fun _ => none) 0 (some h2)) 1 (some h3)) 2 (some h4)) 3 (some h5))))))), (h2, .inr (6, [.ref z5, .int 0])), (h3, .inr (6, [.ref z6, .int 0])), (h4, .inr (6, [.ref z7, .int 0])), (h5, .inr (6, [.ref z8, .int 0]))]) (va_A [(h0, .inr (7, [.ref h1, .ref z0, .ref z1, .ref z2, .ref z3, .ref z4, .int 0, .int 0, .int 0])), (h1, .inl (k0, 4, .inr (.inr (.inr (.inr (va_up (va_up (va_up (va_up (fun _ => none) 0 (some h2)) 1 (some h3)) 2 (some h4)) 3 (some h5))))))), (h2, .inr (6, [.ref z5, .int 0])), (h3, .inr (6, [.ref z6, .int 0])), (h4, .inr (6, [.ref z7, .int 0])), (h5, .inr (6, [.ref z8, .int 0]))] sz)) 1 6 (va_A [(h0, .inr (7, [.ref h1, .ref z0, .ref z1, .ref z2, .ref z3, .ref z4, .int 0, .int 0, .int 0])), (h1, .inl (k0, 4, .inr (.inr (.inr (.inr (va_up (va_up (va_up (va_up (fun _ => none) 0 (some h2)) 1 (some h3)) 2 (some h4)) 3 (some h5))))))), (h2, .inr (6, [.ref z5, .int 0])), (h3, .inr (6, [.ref z6, .int 0])), (h4, .inr (6, [.ref z7, .int 0])), (h5, .inr (6, [.ref z8, .int 0]))] sz) := by
  refine vx_ofW (cc := cX3_lay) (maxL := 5) (ret := (some .int)) (by decide) rfl ?_
  intro p e s m args below meth c s₁ B hml ht9 hv
  obtain ⟨rfl, hsz, hP, hK, hD0, hG⟩ := hv
  have hx := B.exec
  have hb := B.bytes
  have hr := B.returns
  have hts := atoms_spec (ws := wsX3_lay) B.pre
  have hown : s.vm.findClass RX3 = some m.cls := findClass_of_methodNamed B.named
  have hlocks := B.notSynchronized
  subst hsz
  have hD := hD0.self (sz := s.heap.size)
  generalize hAe : va_A [(h0, .inr (7, [.ref h1, .ref z0, .ref z1, .ref z2, .ref z3, .ref z4, .int 0, .int 0, .int 0])), (h1, .inl (k0, 4, .inr (.inr (.inr (.inr (va_up (va_up (va_up (va_up (fun _ => none) 0 (some h2)) 1 (some h3)) 2 (some h4)) 3 (some h5))))))), (h2, .inr (6, [.ref z5, .int 0])), (h3, .inr (6, [.ref z6, .int 0])), (h4, .inr (6, [.ref z7, .int 0])), (h5, .inr (6, [.ref z8, .int 0]))] s.heap.size = A at hD hG ⊢
  obtain ⟨⟨g_AO_Text, g_AO_String, g_AO_Object, g_nm_RX1_20, g_nm_RX0_17, g_nm_RX3_31, g_nm_RX2_44, g_nm_RL_121, g_nf_RL_13, g_nf_RL_47, g_ca_IO, g_ca_IA, g_ca_IS, g_ca_IntObj, g_ca_StrObj, g_de_RT, g_de_EX, g_de_TH, g_nc_IA_IO, g_nc_IS_IO, g_nc_IS_IA⟩, ⟨g_s3, g_s5, g_sa, g_x278, g_x280, g_x282, g_x284, g_x286, g_x180, g_x238, g_x250⟩, ⟨g_o5, g_c5, g_v5, g_t5, g_oa, g_ca, g_va, g_ta, g_zc, g_zd, g_td, g_zf, g_zU, g_zN, g_zh, g_zk, g_tk, g_oi, g_vi⟩⟩ := id hG
  have hA : ∀ q : Nat, s.heap.size ≤ q → A q := fun q h => by rw [← hAe]; exact Or.inr h
  have hS : va_S A s.heap s.heap [] := va_S.rf
  have hP : va_P (dC, dI) vwCl [(h0, .inr (7, [.ref h1, .ref z0, .ref z1, .ref z2, .ref z3, .ref z4, .int 0, .int 0, .int 0])), (h1, .inl (k0, 4, .inr (.inr (.inr (.inr (va_up (va_up (va_up (va_up (fun _ => none) 0 (some h2)) 1 (some h3)) 2 (some h4)) 3 (some h5))))))), (h2, .inr (6, [.ref z5, .int 0])), (h3, .inr (6, [.ref z6, .int 0])), (h4, .inr (6, [.ref z7, .int 0])), (h5, .inr (6, [.ref z8, .int 0]))] s.heap := hP
  have hl := lv_entry ([.ref h0, .int 1, .int i0, .int i1]) (n := 5) (Nat.le_of_ble_eq_true rfl)
  rw [lg_entry_eq]
  generalize (lg_sl ([.ref h0, .int 1, .int i0, .int i1]) ++ List.replicate (5 - (lg_sl ([.ref h0, .int 1, .int i0, .int i1])).length) Slot.unset).toArray = ls at hl ⊢
  have hl : lv_has ls 5 [(0, .ref h0), (1, .int 1), (2, .int i0), (3, .int i1)] := hl
  refine lv_iload_n hx hb dX3_lay_0 rfl (lv_at hl 1 rfl) ?_
  have hPc := hP.sub (ws' := []) [] rfl
  have hDc := hD.sub (ws' := []) [] (by decide) rfl
  have hKc := hK.sub (tys' := []) [] rfl
  have hFc := va_free (wc := []) hD hS hA [] rfl
  refine va_callv (va_runS (As := [.int 1]) (rest := []) ⟨hx, hb, hml, hown, hts⟩ (kx_X3_needRope_2 l dC dI s.heap.size) (cwS 1 hts gX3_lay_X3_needRope rfl rfl rfl (by decide +kernel) ⟨Nat.le_of_ble_eq_true rfl, Nat.le_of_ble_eq_true rfl⟩) ⟨fun a U g mk q => by obtain ⟨q0, q1, qP, qK, qD⟩ := q; exact ⟨q0, q1, qP, va_K.moved (u := U) (U := U.calling g mk a) (Vm.Alike.refl U.vm) qK, qD⟩, fun U hU hW => ⟨rfl, by rw [hU], by rw [hU]; exact hPc, va_K.moved hW.alike hKc, hDc.weaken (fun _ _ _ _ => trivial)⟩⟩ rfl rfl hl.1 rfl (lv_room (Nat.le_of_ble_eq_true rfl)) dX3_lay_1 ⟨Nat.le_of_ble_eq_true rfl, Nat.le_of_ble_eq_true rfl⟩) hS (fun q _ h => hFc q h) hFc (fun u t H1 locs ht hvm hw hB hz1 hk1 hS => ?_)
  obtain ⟨hP1, hK1, hD1⟩ := hB
  rw [ht] at hP1
  have hK1 := va_K.moved hvm.symm hK1
  obtain ⟨hP, hD⟩ := va_join (wr := [(h0, .inr (7, [.ref h1, .ref z0, .ref z1, .ref z2, .ref z3, .ref z4, .int 0, .int 0, .int 0])), (h1, .inl (k0, 4, .inr (.inr (.inr (.inr (va_up (va_up (va_up (va_up (fun _ => none) 0 (some h2)) 1 (some h3)) 2 (some h4)) 3 (some h5))))))), (h2, .inr (6, [.ref z5, .int 0])), (h3, .inr (6, [.ref z6, .int 0])), (h4, .inr (6, [.ref z7, .int 0])), (h5, .inr (6, [.ref z8, .int 0]))]) (w1 := []) hP hD [] [0, 1, 2, 3, 4, 5] rfl rfl (by decide) (by decide) hk1 hFc hP1 hD1
  generalize H1 = H at hP hS ⊢
  have hP : va_P (dC, dI) vwCl [(h0, .inr (7, [.ref h1, .ref z0, .ref z1, .ref z2, .ref z3, .ref z4, .int 0, .int 0, .int 0])), (h1, .inl (k0, 4, .inr (.inr (.inr (.inr (va_up (va_up (va_up (va_up (fun _ => none) 0 (some h2)) 1 (some h3)) 2 (some h4)) 3 (some h5))))))), (h2, .inr (6, [.ref z5, .int 0])), (h3, .inr (6, [.ref z6, .int 0])), (h4, .inr (6, [.ref z7, .int 0])), (h5, .inr (6, [.ref z8, .int 0]))] H := hP
  have hD : va_D A [(h0, .inr (7, [.ref h1, .ref z0, .ref z1, .ref z2, .ref z3, .ref z4, .int 0, .int 0, .int 0])), (h1, .inl (k0, 4, .inr (.inr (.inr (.inr (va_up (va_up (va_up (va_up (fun _ => none) 0 (some h2)) 1 (some h3)) 2 (some h4)) 3 (some h5))))))), (h2, .inr (6, [.ref z5, .int 0])), (h3, .inr (6, [.ref z6, .int 0])), (h4, .inr (6, [.ref z7, .int 0])), (h5, .inr (6, [.ref z8, .int 0]))] := hD
  refine lv_iload_n hx hb dX3_lay_4 rfl (lv_at hl 3 rfl) ?_
  have hPc := hP.sub (ws' := []) [] rfl
  have hDc := hD.sub (ws' := []) [] (by decide) rfl
  have hKc := hK.sub (tys' := []) [] rfl
  have hFc := va_free (wc := []) hD hS hA [] rfl
  refine va_callv (va_runS (As := [.int i1]) (rest := []) ⟨hx, hb, hml, hown, hts⟩ (kx_X3_needRope_0 l dC dI H.size i1 i1_l i1_u) (cwS 1 hts gX3_lay_X3_needRope rfl rfl rfl (by decide +kernel) ⟨Nat.le_of_ble_eq_true rfl, Nat.le_of_ble_eq_true rfl⟩) ⟨fun a U g mk q => by obtain ⟨q0, q1, qP, qK, qD⟩ := q; exact ⟨q0, q1, qP, va_K.moved (u := U) (U := U.calling g mk a) (Vm.Alike.refl U.vm) qK, qD⟩, fun U hU hW => ⟨rfl, by rw [hU], by rw [hU]; exact hPc, va_K.moved hW.alike hKc, hDc.weaken (fun _ _ _ _ => trivial)⟩⟩ rfl rfl hl.1 rfl (lv_room (Nat.le_of_ble_eq_true rfl)) dX3_lay_5 ⟨Nat.le_of_ble_eq_true rfl, Nat.le_of_ble_eq_true rfl⟩) hS (fun q _ h => hFc q h) hFc (fun u t H1 locs ht hvm hw hB hz1 hk1 hS => ?_)
  obtain ⟨hP1, hK1, hD1⟩ := hB
  rw [ht] at hP1
  have hK1 := va_K.moved hvm.symm hK1
  obtain ⟨hP, hD⟩ := va_join (wr := [(h0, .inr (7, [.ref h1, .ref z0, .ref z1, .ref z2, .ref z3, .ref z4, .int 0, .int 0, .int 0])), (h1, .inl (k0, 4, .inr (.inr (.inr (.inr (va_up (va_up (va_up (va_up (fun _ => none) 0 (some h2)) 1 (some h3)) 2 (some h4)) 3 (some h5))))))), (h2, .inr (6, [.ref z5, .int 0])), (h3, .inr (6, [.ref z6, .int 0])), (h4, .inr (6, [.ref z7, .int 0])), (h5, .inr (6, [.ref z8, .int 0]))]) (w1 := []) hP hD [] [0, 1, 2, 3, 4, 5] rfl rfl (by decide) (by decide) hk1 hFc hP1 hD1
  generalize H1 = H at hP hS ⊢
  have hP : va_P (dC, dI) vwCl [(h0, .inr (7, [.ref h1, .ref z0, .ref z1, .ref z2, .ref z3, .ref z4, .int 0, .int 0, .int 0])), (h1, .inl (k0, 4, .inr (.inr (.inr (.inr (va_up (va_up (va_up (va_up (fun _ => none) 0 (some h2)) 1 (some h3)) 2 (some h4)) 3 (some h5))))))), (h2, .inr (6, [.ref z5, .int 0])), (h3, .inr (6, [.ref z6, .int 0])), (h4, .inr (6, [.ref z7, .int 0])), (h5, .inr (6, [.ref z8, .int 0]))] H := hP
  have hD : va_D A [(h0, .inr (7, [.ref h1, .ref z0, .ref z1, .ref z2, .ref z3, .ref z4, .int 0, .int 0, .int 0])), (h1, .inl (k0, 4, .inr (.inr (.inr (.inr (va_up (va_up (va_up (va_up (fun _ => none) 0 (some h2)) 1 (some h3)) 2 (some h4)) 3 (some h5))))))), (h2, .inr (6, [.ref z5, .int 0])), (h3, .inr (6, [.ref z6, .int 0])), (h4, .inr (6, [.ref z7, .int 0])), (h5, .inr (6, [.ref z8, .int 0]))] := hD
  refine lv_aload_n hx hb dX3_lay_8 rfl (lv_at hl 0 rfl) ?_
  refine va_get (D := (dC, dI)) (ci := 7) (v := .ref h1) (C := RX3) (T := TX3) (N := 9) hx hb hts (by decide +kernel) hown hK hP 0 rfl rfl 0 (by decide) (hts (.fieldLink RX3 11 "Rewriterope" "ropes" "[LRewriterope$Text;") (by decide +kernel)) (fun _ h9 => h9) rfl dX3_lay_9 ?_
  refine lv_iload_n hx hb dX3_lay_12 rfl (lv_at hl 1 rfl) ?_
  refine va_aldq (D := (dC, dI)) hx hb hK hP 1 0 rfl rfl (by unfold vp_in; decide) dX3_lay_13 ?_
  refine W.eq (g2 := F0 m 14 ls [.ref h3]) rfl ?_
  refine lv_astore (lv' := [(4, .ref h3), (0, .ref h0), (1, .int 1), (2, .int i0), (3, .int i1)]) hx hb dX3_lay_14 hl (by decide) rfl (fun ls hl => ?_)
  refine lv_aload hx hb dX3_lay_16 (lv_at hl 0 rfl) ?_
  refine lv_iload_n hx hb dX3_lay_18 rfl (lv_at hl 3 rfl) ?_
  have hPc := hP.sub (ws' := [(h3, .inr (6, [.ref z6, .int 0]))]) [3] rfl
  have hDc := hD.sub (ws' := [(h3, .inr (6, [.ref z6, .int 0]))]) [3] (by decide) rfl
  have hKc := hK.sub (tys' := []) [] rfl
  have hFc := va_free (wc := [(h3, .inr (6, [.ref z6, .int 0]))]) hD hS hA [3] rfl
  refine vx_callv (vx_runS (As := [.ref h3, .int i0]) (rest := []) ⟨hx, hb, hml, hown, hts⟩ (kx_X3_needPlace_1 l hst dC dI ge5 gea gv5 gva gde gic gi0 h3 z6 H.size i0 i0_l i0_u) (cwS 2 hts gX3_lay_X3_needPlace rfl rfl rfl (by decide +kernel) ⟨Nat.le_of_ble_eq_true rfl, Nat.le_of_ble_eq_true rfl⟩) ⟨fun a U g mk q => by obtain ⟨q0, q1, qP, qK, qD, qG⟩ := q; exact ⟨q0, q1, qP, va_K.moved (u := U) (U := U.calling g mk a) (Vm.Alike.refl U.vm) qK, qD, gv.fb qG⟩, fun U hU hW => ⟨rfl, by rw [hU], by rw [hU]; exact hPc, va_K.moved hW.alike hKc, hDc.weaken (fun _ _ _ _ => trivial), gv.pass hW hU hS hFc hG⟩⟩ rfl rfl hl.1 rfl (lv_room (Nat.le_of_ble_eq_true rfl)) dX3_lay_19 ⟨Nat.le_of_ble_eq_true rfl, Nat.le_of_ble_eq_true rfl⟩) hS (fun q _ h => hFc q h) hFc (fun q _ h => hFc q h) (fun E ce q9 u t H1 locs ht hvm hpx hB hz1 hk1 hS hce hcv hcl => ?_) (fun u t H1 locs ht hvm hw hB hz1 hk1 hS => hw.elim)
  obtain ⟨rfl, hP1, hK1, hD1⟩ := hB
  rw [ht] at hP1
  have hK1 := va_K.moved hvm.symm hK1
  obtain ⟨hP, hD⟩ := va_join (wr := [(h0, .inr (7, [.ref h1, .ref z0, .ref z1, .ref z2, .ref z3, .ref z4, .int 0, .int 0, .int 0])), (h1, .inl (k0, 4, .inr (.inr (.inr (.inr (va_up (va_up (va_up (va_up (fun _ => none) 0 (some h2)) 1 (some h3)) 2 (some h4)) 3 (some h5))))))), (h2, .inr (6, [.ref z5, .int 0])), (h4, .inr (6, [.ref z7, .int 0])), (h5, .inr (6, [.ref z8, .int 0]))]) (w1 := [(h3, .inr (6, [.ref z6, .int 0]))]) hP hD [3] [0, 1, 2, 4, 5] rfl rfl (by decide) (by decide) hk1 hFc hP1 hD1
  generalize H1 = H at hP hS hce ⊢
  have hP : va_P (dC, dI) vwCl [(h0, .inr (7, [.ref h1, .ref z0, .ref z1, .ref z2, .ref z3, .ref z4, .int 0, .int 0, .int 0])), (h1, .inl (k0, 4, .inr (.inr (.inr (.inr (va_up (va_up (va_up (va_up (fun _ => none) 0 (some h2)) 1 (some h3)) 2 (some h4)) 3 (some h5))))))), (h2, .inr (6, [.ref z5, .int 0])), (h4, .inr (6, [.ref z7, .int 0])), (h5, .inr (6, [.ref z8, .int 0])), (h3, .inr (6, [.ref z6, .int 0]))] H := hP
  have hD : va_D A [(h0, .inr (7, [.ref h1, .ref z0, .ref z1, .ref z2, .ref z3, .ref z4, .int 0, .int 0, .int 0])), (h1, .inl (k0, 4, .inr (.inr (.inr (.inr (va_up (va_up (va_up (va_up (fun _ => none) 0 (some h2)) 1 (some h3)) 2 (some h4)) 3 (some h5))))))), (h2, .inr (6, [.ref z5, .int 0])), (h4, .inr (6, [.ref z7, .int 0])), (h5, .inr (6, [.ref z8, .int 0])), (h3, .inr (6, [.ref z6, .int 0]))] := hD
  have hP := hP.sub (ws' := [(h0, .inr (7, [.ref h1, .ref z0, .ref z1, .ref z2, .ref z3, .ref z4, .int 0, .int 0, .int 0])), (h1, .inl (k0, 4, .inr (.inr (.inr (.inr (va_up (va_up (va_up (va_up (fun _ => none) 0 (some h2)) 1 (some h3)) 2 (some h4)) 3 (some h5))))))), (h2, .inr (6, [.ref z5, .int 0])), (h3, .inr (6, [.ref z6, .int 0])), (h4, .inr (6, [.ref z7, .int 0])), (h5, .inr (6, [.ref z8, .int 0]))]) [0, 1, 2, 5, 3, 4] rfl
  have hD := hD.sub (ws' := [(h0, .inr (7, [.ref h1, .ref z0, .ref z1, .ref z2, .ref z3, .ref z4, .int 0, .int 0, .int 0])), (h1, .inl (k0, 4, .inr (.inr (.inr (.inr (va_up (va_up (va_up (va_up (fun _ => none) 0 (some h2)) 1 (some h3)) 2 (some h4)) 3 (some h5))))))), (h2, .inr (6, [.ref z5, .int 0])), (h3, .inr (6, [.ref z6, .int 0])), (h4, .inr (6, [.ref z7, .int 0])), (h5, .inr (6, [.ref z8, .int 0]))]) [0, 1, 2, 5, 3, 4] (by decide) rfl
  exact vx_out (fun x hx9 => (ht9 x hx9).elim) hlocks hce hcv hcl (fun t ht hW => ⟨(), trivial, ⟨rfl, by rw [ht]; exact hP, va_K.moved hW hK, hD⟩, hS.F ht⟩) hS.2.2 (by omega) (by omega)
set_option maxHeartbeats 4000000 in
set_option maxRecDepth 100000 in
theorem kx_X3_lay_10 (l : Launch) (hst : l.stackTraces = false) (dC : Nat → ClassId) (dI : Nat → Nat → Nat) (ge5 gea gv5 gva gde gic gi0 : Nat) (h0 : Nat) (h1 : Nat) (h2 : Nat) (h3 : Nat) (h4 : Nat) (h5 : Nat) (z0 : Nat) (z1 : Nat) (z2 : Nat) (z3 : Nat) (z4 : Nat) (z5 : Nat) (z6 : Nat) (z7 : Nat) (z8 : Nat) (k0 : ClassId) (sz : Nat) (i0 : Int32) (i0_l : (1 : Int) ≤ i0.toInt) (i0_u : i0.toInt ≤ (2147483647 : Int)) (i1 : Int32) (i1_l : (0 : Int) ≤ i1.toInt) (i1_u : i1.toInt ≤ (3 : Int)) : vx_Met l yX3_lay wsX3_lay ({ frames := 7, cells := 1, slots := 6, locals := 141 }) (va_Pc [.ref h0, .int 2, .int i0, .int i1] (fun U => U.heap.size = sz ∧ va_P (dC, dI) vwCl [(h0, .inr (7, [.ref h1, .ref z0, .ref z1, .ref z2, .ref z3, .ref z4, .int 0, .int 0, .int 0])), (h1, .inl (k0, 4, .inr (.inr (.inr (.inr (va_up (va_up (va_up (va_up (fun _ => none) 0 (some h2)) 1 (some h3)) 2 (some h4)) 3 (some h5))))))), (h2, .inr (6, [.ref z5, .int 0])), (h3, .inr (6, [.ref z6, .int 0])), (h4, .inr (6, [.ref z7, .int 0])), (h5, .inr (6, [.ref z8, .int 0]))] U.heap ∧ va_K (dC, dI) vwCl [(k0, .object "Rewriterope$Text")] U ∧ va_D (fun _ => True) [(h0, .inr (7, [.ref h1, .ref z0, .ref z1, .ref z2, .ref z3, .ref z4, .int 0, .int 0, .int 0])), (h1, .inl (k0, 4, .inr (.inr (.inr (.inr (va_up (va_up (va_up (va_up (fun _ => none) 0 (some h2)) 1 (some h3)) 2 (some h4)) 3 (some h5))))))), (h2, .inr (6, [.ref z5, .int 0])), (h3, .inr (6, [.ref z6, .int 0])), (h4, .inr (6, [.ref z7, .int 0])), (h5, .inr (6, [.ref z8, .int 0]))] ∧ gv ge5 gea gv5 gva gde gic gi0 (va_A [(h0, .inr (7, [.ref h1, .ref z0, .ref z1, .ref z2, .ref z3, .ref z4, .int 0, .int 0, .int 0])), (h1, .inl (k0, 4, .inr (.inr (.inr (.inr (va_up (va_up (va_up (va_up (fun _ => none) 0 (some h2)) 1 (some h3)) 2 (some h4)) 3 (some h5))))))), (h2, .inr (6, [.ref z5, .int 0])), (h3, .inr (6, [.ref z6, .int 0])), (h4, .inr (6, [.ref z7, .int 0])), (h5, .inr (6, [.ref z8, .int 0]))] sz) U U.heap)) (va_Qi (fun (_ : Int32) (_ : Unit) => False) (fun _ _ => True) (va_A [(h0, .inr (7, [.ref h1, .ref z0, .ref z1, .ref z2, .ref z3, .ref z4, .int 0, .int 0, .int 0])), (h1, .inl (k0, 4, .inr (.inr (.inr (.inr (va_up (va_up (va_up (va_up (fun _ => none) 0 (some h2)) 1 (some h3)) 2 (some h4)) 3 (some h5))))))), (h2, .inr (6, [.ref z5, .int 0])), (h3, .inr (6, [.ref z6, .int 0])), (h4, .inr (6, [.ref z7, .int 0])), (h5, .inr (6, [.ref z8, .int 0]))] sz)) (vx_X (fun _ : Unit => True) (fun (E : String) (_ : Unit) (t : State) => E = "java/lang/IndexOutOfBoundsException" ∧ va_P (dC, dI) vwCl [(h0, .inr (7, [.ref h1, .ref z0, .ref z1, .ref z2, .ref z3, .ref z4, .int 0, .int 0, .int 0])), (h1, .inl (k0, 4, .inr (.inr (.inr (.inr (va_up (va_up (va_up (va_up (fun _ => none) 0 (some h2)) 1 (some h3)) 2 (some h4)) 3 (some h5))))))), (h2, .inr (6, [.ref z5, .int 0])), (h3, .inr (6, [.ref z6, .int 0])), (h4, .inr (6, [.ref z7, .int 0])), (h5, .inr (6, [.ref z8, .int 0]))] t.heap ∧ va_K (dC, dI) vwCl [(k0, .object "Rewriterope$Text")] t ∧ va_D (va_A [(h0, .inr (7, [.ref h1, .ref z0, .ref z1, .ref z2, .ref z3, .ref z4, .int 0, .int 0, .int 0])), (h1, .inl (k0, 4, .inr (.inr (.inr (.inr (va_up (va_up (va_up (va_up (fun _ => none) 0 (some h2)) 1 (some h3)) 2 (some h4)) 3 (some h5))))))), (h2, .inr (6, [.ref z5, .int 0])), (h3, .inr (6, [.ref z6, .int 0])), (h4, .inr (6, [.ref z7, .int 0])), (h5, .inr (6, [.ref z8, .int 0]))] sz) [(h0, .inr (7, [.ref h1, .ref z0, .ref z1, .ref z2, .ref z3, .ref z4, .int 0, .int 0, .int 0])), (h1, .inl (k0, 4, .inr (.inr (.inr (.inr (va_up (va_up (va_up (va_up (fun _ => none) 0 (some h2)) 1 (some h3)) 2 (some h4)) 3 (some h5))))))), (h2, .inr (6, [.ref z5, .int 0])), (h3, .inr (6, [.ref z6, .int 0])), (h4, .inr (6, [.ref z7, .int 0])), (h5, .inr (6, [.ref z8, .int 0]))]) (va_A [(h0, .inr (7, [.ref h1, .ref z0, .ref z1, .ref z2, .ref z3, .ref z4, .int 0, .int 0, .int 0])), (h1, .inl (k0, 4, .inr (.inr (.inr (.inr (va_up (va_up (va_up (va_up (fun _ => none) 0 (some h2)) 1 (some h3)) 2 (some h4)) 3 (some h5))))))), (h2, .inr (6, [.ref z5, .int 0])), (h3, .inr (6, [.ref z6, .int 0])), (h4, .inr (6, [.ref z7, .int 0])), (h5, .inr (6, [.ref z8, .int 0]))] sz)) 1 6 (va_A [(h0, .inr (7, [.ref h1, .ref z0, .ref z1, .ref z2, .ref z3, .ref z4, .int 0, .int 0, .int 0])), (h1, .inl (k0, 4, .inr (.inr (.inr (.inr (va_up (va_up (va_up (va_up (fun _ => none) 0 (some h2)) 1 (some h3)) 2 (some h4)) 3 (some h5))))))), (h2, .inr (6, [.ref z5, .int 0])), (h3, .inr (6, [.ref z6, .int 0])), (h4, .inr (6, [.ref z7, .int 0])), (h5, .inr (6, [.ref z8, .int 0]))] sz) := by
  refine vx_ofW (cc := cX3_lay) (maxL := 5) (ret := (some .int)) (by decide) rfl ?_
  intro p e s m args below meth c s₁ B hml ht9 hv
  obtain ⟨rfl, hsz, hP, hK, hD0, hG⟩ := hv
  have hx := B.exec
  have hb := B.bytes
  have hr := B.returns
  have hts := atoms_spec (ws := wsX3_lay) B.pre
  have hown : s.vm.findClass RX3 = some m.cls := findClass_of_methodNamed B.named
  have hlocks := B.notSynchronized
  subst hsz
  have hD := hD0.self (sz := s.heap.size)
  generalize hAe : va_A [(h0, .inr (7, [.ref h1, .ref z0, .ref z1, .ref z2, .ref z3, .ref z4, .int 0, .int 0, .int 0])), (h1, .inl (k0, 4, .inr (.inr (.inr (.inr (va_up (va_up (va_up (va_up (fun _ => none) 0 (some h2)) 1 (some h3)) 2 (some h4)) 3 (some h5))))))), (h2, .inr (6, [.ref z5, .int 0])), (h3, .inr (6, [.ref z6, .int 0])), (h4, .inr (6, [.ref z7, .int 0])), (h5, .inr (6, [.ref z8, .int 0]))] s.heap.size = A at hD hG ⊢
  obtain ⟨⟨g_AO_Text, g_AO_String, g_AO_Object, g_nm_RX1_20, g_nm_RX0_17, g_nm_RX3_31, g_nm_RX2_44, g_nm_RL_121, g_nf_RL_13, g_nf_RL_47, g_ca_IO, g_ca_IA, g_ca_IS, g_ca_IntObj, g_ca_StrObj, g_de_RT, g_de_EX, g_de_TH, g_nc_IA_IO, g_nc_IS_IO, g_nc_IS_IA⟩, ⟨g_s3, g_s5, g_sa, g_x278, g_x280, g_x282, g_x284, g_x286, g_x180, g_x238, g_x250⟩, ⟨g_o5, g_c5, g_v5, g_t5, g_oa, g_ca, g_va, g_ta, g_zc, g_zd, g_td, g_zf, g_zU, g_zN, g_zh, g_zk, g_tk, g_oi, g_vi⟩⟩ := id hG
  have hA : ∀ q : Nat, s.heap.size ≤ q → A q := fun q h => by rw [← hAe]; exact Or.inr h
  have hS : va_S A s.heap s.heap [] := va_S.rf
  have hP : va_P (dC, dI) vwCl [(h0, .inr (7, [.ref h1, .ref z0, .ref z1, .ref z2, .ref z3, .ref z4, .int 0, .int 0, .int 0])), (h1, .inl (k0, 4, .inr (.inr (.inr (.inr (va_up (va_up (va_up (va_up (fun _ => none) 0 (some h2)) 1 (some h3)) 2 (some h4)) 3 (some h5))))))), (h2, .inr (6, [.ref z5, .int 0])), (h3, .inr (6, [.ref z6, .int 0])), (h4, .inr (6, [.ref z7, .int 0])), (h5, .inr (6, [.ref z8, .int 0]))] s.heap := hP
  have hl := lv_entry ([.ref h0, .int 2, .int i0, .int i1]) (n := 5) (Nat.le_of_ble_eq_true rfl)
  rw [lg_entry_eq]
  generalize (lg_sl ([.ref h0, .int 2, .int i0, .int i1]) ++ List.replicate (5 - (lg_sl ([.ref h0, .int 2, .int i0, .int i1])).length) Slot.unset).toArray = ls at hl ⊢
  have hl : lv_has ls 5 [(0, .ref h0), (1, .int 2), (2, .int i0), (3, .int i1)] := hl
  refine lv_iload_n hx hb dX3_lay_0 rfl (lv_at hl 1 rfl) ?_
  have hPc := hP.sub (ws' := []) [] rfl
  have hDc := hD.sub (ws' := []) [] (by decide) rfl
  have hKc := hK.sub (tys' := []) [] rfl
  have hFc := va_free (wc := []) hD hS hA [] rfl
  refine va_callv (va_runS (As := [.int 2]) (rest := []) ⟨hx, hb, hml, hown, hts⟩ (kx_X3_needRope_3 l dC dI s.heap.size) (cwS 1 hts gX3_lay_X3_needRope rfl rfl rfl (by decide +kernel) ⟨Nat.le_of_ble_eq_true rfl, Nat.le_of_ble_eq_true rfl⟩) ⟨fun a U g mk q => by obtain ⟨q0, q1, qP, qK, qD⟩ := q; exact ⟨q0, q1, qP, va_K.moved (u := U) (U := U.calling g mk a) (Vm.Alike.refl U.vm) qK, qD⟩, fun U hU hW => ⟨rfl, by rw [hU], by rw [hU]; exact hPc, va_K.moved hW.alike hKc, hDc.weaken (fun _ _ _ _ => trivial)⟩⟩ rfl rfl hl.1 rfl (lv_room (Nat.le_of_ble_eq_true rfl)) dX3_lay_1 ⟨Nat.le_of_ble_eq_true rfl, Nat.le_of_ble_eq_true rfl⟩) hS (fun q _ h => hFc q h) hFc (fun u t H1 locs ht hvm hw hB hz1 hk1 hS => ?_)
  obtain ⟨hP1, hK1, hD1⟩ := hB
  rw [ht] at hP1
  have hK1 := va_K.moved hvm.symm hK1
  obtain ⟨hP, hD⟩ := va_join (wr := [(h0, .inr (7, [.ref h1, .ref z0, .ref z1, .ref z2, .ref z3, .ref z4, .int 0, .int 0, .int 0])), (h1, .inl (k0, 4, .inr (.inr (.inr (.inr (va_up (va_up (va_up (va_up (fun _ => none) 0 (some h2)) 1 (some h3)) 2 (some h4)) 3 (some h5))))))), (h2, .inr (6, [.ref z5, .int 0])), (h3, .inr (6, [.ref z6, .int 0])), (h4, .inr (6, [.ref z7, .int 0])), (h5, .inr (6, [.ref z8, .int 0]))]) (w1 := []) hP hD [] [0, 1, 2, 3, 4, 5] rfl rfl (by decide) (by decide) hk1 hFc hP1 hD1
  generalize H1 = H at hP hS ⊢
  have hP : va_P (dC, dI) vwCl [(h0, .inr (7, [.ref h1, .ref z0, .ref z1, .ref z2, .ref z3, .ref z4, .int 0, .int 0, .int 0])), (h1, .inl (k0, 4, .inr (.inr (.inr (.inr (va_up (va_up (va_up (va_up (fun _ => none) 0 (some h2)) 1 (some h3)) 2 (some h4)) 3 (some h5))))))), (h2, .inr (6, [.ref z5, .int 0])), (h3, .inr (6, [.ref z6, .int 0])), (h4, .inr (6, [.ref z7, .int 0])), (h5, .inr (6, [.ref z8, .int 0]))] H := hP
  have hD : va_D A [(h0, .inr (7, [.ref h1, .ref z0, .ref z1, .ref z2, .ref z3, .ref z4, .int 0, .int 0, .int 0])), (h1, .inl (k0, 4, .inr (.inr (.inr (.inr (va_up (va_up (va_up (va_up (fun _ => none) 0 (some h2)) 1 (some h3)) 2 (some h4)) 3 (some h5))))))), (h2, .inr (6, [.ref z5, .int 0])), (h3, .inr (6, [.ref z6, .int 0])), (h4, .inr (6, [.ref z7, .int 0])), (h5, .inr (6, [.ref z8, .int 0]))] := hD
  refine lv_iload_n hx hb dX3_lay_4 rfl (lv_at hl 3 rfl) ?_
  have hPc := hP.sub (ws' := []) [] rfl
  have hDc := hD.sub (ws' := []) [] (by decide) rfl
  have hKc := hK.sub (tys' := []) [] rfl
  have hFc := va_free (wc := []) hD hS hA [] rfl
  refine va_callv (va_runS (As := [.int i1]) (rest := []) ⟨hx, hb, hml, hown, hts⟩ (kx_X3_needRope_0 l dC dI H.size i1 i1_l i1_u) (cwS 1 hts gX3_lay_X3_needRope rfl rfl rfl (by decide +kernel) ⟨Nat.le_of_ble_eq_true rfl, Nat.le_of_ble_eq_true rfl⟩) ⟨fun a U g mk q => by obtain ⟨q0, q1, qP, qK, qD⟩ := q; exact ⟨q0, q1, qP, va_K.moved (u := U) (U := U.calling g mk a) (Vm.Alike.refl U.vm) qK, qD⟩, fun U hU hW => ⟨rfl, by rw [hU], by rw [hU]; exact hPc, va_K.moved hW.alike hKc, hDc.weaken (fun _ _ _ _ => trivial)⟩⟩ rfl rfl hl.1 rfl (lv_room (Nat.le_of_ble_eq_true rfl)) dX3_lay_5 ⟨Nat.le_of_ble_eq_true rfl, Nat.le_of_ble_eq_true rfl⟩) hS (fun q _ h => hFc q h) hFc (fun u t H1 locs ht hvm hw hB hz1 hk1 hS => ?_)
  obtain ⟨hP1, hK1, hD1⟩ := hB
  rw [ht] at hP1
  have hK1 := va_K.moved hvm.symm hK1
  obtain ⟨hP, hD⟩ := va_join (wr := [(h0, .inr (7, [.ref h1, .ref z0, .ref z1, .ref z2, .ref z3, .ref z4, .int 0, .int 0, .int 0])), (h1, .inl (k0, 4, .inr (.inr (.inr (.inr (va_up (va_up (va_up (va_up (fun _ => none) 0 (some h2)) 1 (some h3)) 2 (some h4)) 3 (some h5))))))), (h2, .inr (6, [.ref z5, .int 0])), (h3, .inr (6, [.ref z6, .int 0])), (h4, .inr (6, [.ref z7, .int 0])), (h5, .inr (6, [.ref z8, .int 0]))]) (w1 := []) hP hD [] [0, 1, 2, 3, 4, 5] rfl rfl (by decide) (by decide) hk1 hFc hP1 hD1
  generalize H1 = H at hP hS ⊢
  have hP : va_P (dC, dI) vwCl [(h0, .inr (7, [.ref h1, .ref z0, .ref z1, .ref z2, .ref z3, .ref z4, .int 0, .int 0, .int 0])), (h1, .inl (k0, 4, .inr (.inr (.inr (.inr (va_up (va_up (va_up (va_up (fun _ => none) 0 (some h2)) 1 (some h3)) 2 (some h4)) 3 (some h5))))))), (h2, .inr (6, [.ref z5, .int 0])), (h3, .inr (6, [.ref z6, .int 0])), (h4, .inr (6, [.ref z7, .int 0])), (h5, .inr (6, [.ref z8, .int 0]))] H := hP
  have hD : va_D A [(h0, .inr (7, [.ref h1, .ref z0, .ref z1, .ref z2, .ref z3, .ref z4, .int 0, .int 0, .int 0])), (h1, .inl (k0, 4, .inr (.inr (.inr (.inr (va_up (va_up (va_up (va_up (fun _ => none) 0 (some h2)) 1 (some h3)) 2 (some h4)) 3 (some h5))))))), (h2, .inr (6, [.ref z5, .int 0])), (h3, .inr (6, [.ref z6, .int 0])), (h4, .inr (6, [.ref z7, .int 0])), (h5, .inr (6, [.ref z8, .int 0]))] := hD
  refine lv_aload_n hx hb dX3_lay_8 rfl (lv_at hl 0 rfl) ?_
  refine va_get (D := (dC, dI)) (ci := 7) (v := .ref h1) (C := RX3) (T := TX3) (N := 9) hx hb hts (by decide +kernel) hown hK hP 0 rfl rfl 0 (by decide) (hts (.fieldLink RX3 11 "Rewriterope" "ropes" "[LRewriterope$Text;") (by decide +kernel)) (fun _ h9 => h9) rfl dX3_lay_9 ?_
  refine lv_iload_n hx hb dX3_lay_12 rfl (lv_at hl 1 rfl) ?_
  refine va_aldq (D := (dC, dI)) hx hb hK hP 1 0 rfl rfl (by unfold vp_in; decide) dX3_lay_13 ?_
  refine W.eq (g2 := F0 m 14 ls [.ref h4]) rfl ?_
  refine lv_astore (lv' := [(4, .ref h4), (0, .ref h0), (1, .int 2), (2, .int i0), (3, .int i1)]) hx hb dX3_lay_14 hl (by decide) rfl (fun ls hl => ?_)
  refine lv_aload hx hb dX3_lay_16 (lv_at hl 0 rfl) ?_
  refine lv_iload_n hx hb dX3_lay_18 rfl (lv_at hl 3 rfl) ?_
  have hPc := hP.sub (ws' := [(h4, .inr (6, [.ref z7, .int 0]))]) [4] rfl
  have hDc := hD.sub (ws' := [(h4, .inr (6, [.ref z7, .int 0]))]) [4] (by decide) rfl
  have hKc := hK.sub (tys' := []) [] rfl
  have hFc := va_free (wc := [(h4, .inr (6, [.ref z7, .int 0]))]) hD hS hA [4] rfl
  refine vx_callv (vx_runS (As := [.ref h4, .int i0]) (rest := []) ⟨hx, hb, hml, hown, hts⟩ (kx_X3_needPlace_1 l hst dC dI ge5 gea gv5 gva gde gic gi0 h4 z7 H.size i0 i0_l i0_u) (cwS 2 hts gX3_lay_X3_needPlace rfl rfl rfl (by decide +kernel) ⟨Nat.le_of_ble_eq_true rfl, Nat.le_of_ble_eq_true rfl⟩) ⟨fun a U g mk q => by obtain ⟨q0, q1, qP, qK, qD, qG⟩ := q; exact ⟨q0, q1, qP, va_K.moved (u := U) (U := U.calling g mk a) (Vm.Alike.refl U.vm) qK, qD, gv.fb qG⟩, fun U hU hW => ⟨rfl, by rw [hU], by rw [hU]; exact hPc, va_K.moved hW.alike hKc, hDc.weaken (fun _ _ _ _ => trivial), gv.pass hW hU hS hFc hG⟩⟩ rfl rfl hl.1 rfl (lv_room (Nat.le_of_ble_eq_true rfl)) dX3_lay_19 ⟨Nat.le_of_ble_eq_true rfl, Nat.le_of_ble_eq_true rfl⟩) hS (fun q _ h => hFc q h) hFc (fun q _ h => hFc q h) (fun E ce q9 u t H1 locs ht hvm hpx hB hz1 hk1 hS hce hcv hcl => ?_) (fun u t H1 locs ht hvm hw hB hz1 hk1 hS => hw.elim)
  obtain ⟨rfl, hP1, hK1, hD1⟩ := hB
  rw [ht] at hP1
  have hK1 := va_K.moved hvm.symm hK1
  obtain ⟨hP, hD⟩ := va_join (wr := [(h0, .inr (7, [.ref h1, .ref z0, .ref z1, .ref z2, .ref z3, .ref z4, .int 0, .int 0, .int 0])), (h1, .inl (k0, 4, .inr (.inr (.inr (.inr (va_up (va_up (va_up (va_up (fun _ => none) 0 (some h2)) 1 (some h3)) 2 (some h4)) 3 (some h5))))))), (h2, .inr (6, [.ref z5, .int 0])), (h3, .inr (6, [.ref z6, .int 0])), (h5, .inr (6, [.ref z8, .int 0]))]) (w1 := [(h4, .inr (6, [.ref z7, .int 0]))]) hP hD [4] [0, 1, 2, 3, 5] rfl rfl (by decide) (by decide) hk1 hFc hP1 hD1
  generalize H1 = H at hP hS hce ⊢
  have hP : va_P (dC, dI) vwCl [(h0, .inr (7, [.ref h1, .ref z0, .ref z1, .ref z2, .ref z3, .ref z4, .int 0, .int 0, .int 0])), (h1, .inl (k0, 4, .inr (.inr (.inr (.inr (va_up (va_up (va_up (va_up (fun _ => none) 0 (some h2)) 1 (some h3)) 2 (some h4)) 3 (some h5))))))), (h2, .inr (6, [.ref z5, .int 0])), (h3, .inr (6, [.ref z6, .int 0])), (h5, .inr (6, [.ref z8, .int 0])), (h4, .inr (6, [.ref z7, .int 0]))] H := hP
  have hD : va_D A [(h0, .inr (7, [.ref h1, .ref z0, .ref z1, .ref z2, .ref z3, .ref z4, .int 0, .int 0, .int 0])), (h1, .inl (k0, 4, .inr (.inr (.inr (.inr (va_up (va_up (va_up (va_up (fun _ => none) 0 (some h2)) 1 (some h3)) 2 (some h4)) 3 (some h5))))))), (h2, .inr (6, [.ref z5, .int 0])), (h3, .inr (6, [.ref z6, .int 0])), (h5, .inr (6, [.ref z8, .int 0])), (h4, .inr (6, [.ref z7, .int 0]))] := hD
  have hP := hP.sub (ws' := [(h0, .inr (7, [.ref h1, .ref z0, .ref z1, .ref z2, .ref z3, .ref z4, .int 0, .int 0, .int 0])), (h1, .inl (k0, 4, .inr (.inr (.inr (.inr (va_up (va_up (va_up (va_up (fun _ => none) 0 (some h2)) 1 (some h3)) 2 (some h4)) 3 (some h5))))))), (h2, .inr (6, [.ref z5, .int 0])), (h3, .inr (6, [.ref z6, .int 0])), (h4, .inr (6, [.ref z7, .int 0])), (h5, .inr (6, [.ref z8, .int 0]))]) [0, 1, 2, 3, 5, 4] rfl
  have hD := hD.sub (ws' := [(h0, .inr (7, [.ref h1, .ref z0, .ref z1, .ref z2, .ref z3, .ref z4, .int 0, .int 0, .int 0])), (h1, .inl (k0, 4, .inr (.inr (.inr (.inr (va_up (va_up (va_up (va_up (fun _ => none) 0 (some h2)) 1 (some h3)) 2 (some h4)) 3 (some h5))))))), (h2, .inr (6, [.ref z5, .int 0])), (h3, .inr (6, [.ref z6, .int 0])), (h4, .inr (6, [.ref z7, .int 0])), (h5, .inr (6, [.ref z8, .int 0]))]) [0, 1, 2, 3, 5, 4] (by decide) rfl
  exact vx_out (fun x hx9 => (ht9 x hx9).elim) hlocks hce hcv hcl (fun t ht hW => ⟨(), trivial, ⟨rfl, by rw [ht]; exact hP, va_K.moved hW hK, hD⟩, hS.F ht⟩) hS.2.2 (by omega) (by omega)
set_option maxHeartbeats 4000000 in
set_option maxRecDepth 100000 in
theorem kx_X3_lay_11 (l : Launch) (hst : l.stackTraces = false) (dC : Nat → ClassId) (dI : Nat → Nat → Nat) (ge5 gea gv5 gva gde gic gi0 : Nat) (h0 : Nat) (h1 : Nat) (h2 : Nat) (h3 : Nat) (h4 : Nat) (h5 : Nat) (z0 : Nat) (z1 : Nat) (z2 : Nat) (z3 : Nat) (z4 : Nat) (z5 : Nat) (z6 : Nat) (z7 : Nat) (z8 : Nat) (k0 : ClassId) (sz : Nat) (i0 : Int32) (i0_l : (1 : Int) ≤ i0.toInt) (i0_u : i0.toInt ≤ (2147483647 : Int)) (i1 : Int32) (i1_l : (0 : Int) ≤ i1.toInt) (i1_u : i1.toInt ≤ (3 : Int)) : vx_Met l yX3_lay wsX3_lay ({ frames := 7, cells := 1, slots := 6, locals := 141 }) (va_Pc [.ref h0, .int 3, .int i0, .int i1] (fun U => U.heap.size = sz ∧ va_P (dC, dI) vwCl [(h0, .inr (7, [.ref h1, .ref z0, .ref z1, .ref z2, .ref z3, .ref z4, .int 0, .int 0, .int 0])), (h1, .inl (k0, 4, .inr (.inr (.inr (.inr (va_up (va_up (va_up (va_up (fun _ => none) 0 (some h2)) 1 (some h3)) 2 (some h4)) 3 (some h5))))))), (h2, .inr (6, [.ref z5, .int 0])), (h3, .inr (6, [.ref z6, .int 0])), (h4, .inr (6, [.ref z7, .int 0])), (h5, .inr (6, [.ref z8, .int 0]))] U.heap ∧ va_K (dC, dI) vwCl [(k0, .object "Rewriterope$Text")] U ∧ va_D (fun _ => True) [(h0, .inr (7, [.ref h1, .ref z0, .ref z1, .ref z2, .ref z3, .ref z4, .int 0, .int 0, .int 0])), (h1, .inl (k0, 4, .inr (.inr (.inr (.inr (va_up (va_up (va_up (va_up (fun _ => none) 0 (some h2)) 1 (some h3)) 2 (some h4)) 3 (some h5))))))), (h2, .inr (6, [.ref z5, .int 0])), (h3, .inr (6, [.ref z6, .int 0])), (h4, .inr (6, [.ref z7, .int 0])), (h5, .inr (6, [.ref z8, .int 0]))] ∧ gv ge5 gea gv5 gva gde gic gi0 (va_A [(h0, .inr (7, [.ref h1, .ref z0, .ref z1, .ref z2, .ref z3, .ref z4, .int 0, .int 0, .int 0])), (h1, .inl (k0, 4, .inr (.inr (.inr (.inr (va_up (va_up (va_up (va_up (fun _ => none) 0 (some h2)) 1 (some h3)) 2 (some h4)) 3 (some h5))))))), (h2, .inr (6, [.ref z5, .int 0])), (h3, .inr (6, [.ref z6, .int 0])), (h4, .inr (6, [.ref z7, .int 0])), (h5, .inr (6, [.ref z8, .int 0]))] sz) U U.heap)) (va_Qi (fun (_ : Int32) (_ : Unit) => False) (fun _ _ => True) (va_A [(h0, .inr (7, [.ref h1, .ref z0, .ref z1, .ref z2, .ref z3, .ref z4, .int 0, .int 0, .int 0])), (h1, .inl (k0, 4, .inr (.inr (.inr (.inr (va_up (va_up (va_up (va_up (fun _ => none) 0 (some h2)) 1 (some h3)) 2 (some h4)) 3 (some h5))))))), (h2, .inr (6, [.ref z5, .int 0])), (h3, .inr (6, [.ref z6, .int 0])), (h4, .inr (6, [.ref z7, .int 0])), (h5, .inr (6, [.ref z8, .int 0]))] sz)) (vx_X (fun _ : Unit => True) (fun (E : String) (_ : Unit) (t : State) => E = "java/lang/IndexOutOfBoundsException" ∧ va_P (dC, dI) vwCl [(h0, .inr (7, [.ref h1, .ref z0, .ref z1, .ref z2, .ref z3, .ref z4, .int 0, .int 0, .int 0])), (h1, .inl (k0, 4, .inr (.inr (.inr (.inr (va_up (va_up (va_up (va_up (fun _ => none) 0 (some h2)) 1 (some h3)) 2 (some h4)) 3 (some h5))))))), (h2, .inr (6, [.ref z5, .int 0])), (h3, .inr (6, [.ref z6, .int 0])), (h4, .inr (6, [.ref z7, .int 0])), (h5, .inr (6, [.ref z8, .int 0]))] t.heap ∧ va_K (dC, dI) vwCl [(k0, .object "Rewriterope$Text")] t ∧ va_D (va_A [(h0, .inr (7, [.ref h1, .ref z0, .ref z1, .ref z2, .ref z3, .ref z4, .int 0, .int 0, .int 0])), (h1, .inl (k0, 4, .inr (.inr (.inr (.inr (va_up (va_up (va_up (va_up (fun _ => none) 0 (some h2)) 1 (some h3)) 2 (some h4)) 3 (some h5))))))), (h2, .inr (6, [.ref z5, .int 0])), (h3, .inr (6, [.ref z6, .int 0])), (h4, .inr (6, [.ref z7, .int 0])), (h5, .inr (6, [.ref z8, .int 0]))] sz) [(h0, .inr (7, [.ref h1, .ref z0, .ref z1, .ref z2, .ref z3, .ref z4, .int 0, .int 0, .int 0])), (h1, .inl (k0, 4, .inr (.inr (.inr (.inr (va_up (va_up (va_up (va_up (fun _ => none) 0 (some h2)) 1 (some h3)) 2 (some h4)) 3 (some h5))))))), (h2, .inr (6, [.ref z5, .int 0])), (h3, .inr (6, [.ref z6, .int 0])), (h4, .inr (6, [.ref z7, .int 0])), (h5, .inr (6, [.ref z8, .int 0]))]) (va_A [(h0, .inr (7, [.ref h1, .ref z0, .ref z1, .ref z2, .ref z3, .ref z4, .int 0, .int 0, .int 0])), (h1, .inl (k0, 4, .inr (.inr (.inr (.inr (va_up (va_up (va_up (va_up (fun _ => none) 0 (some h2)) 1 (some h3)) 2 (some h4)) 3 (some h5))))))), (h2, .inr (6, [.ref z5, .int 0])), (h3, .inr (6, [.ref z6, .int 0])), (h4, .inr (6, [.ref z7, .int 0])), (h5, .inr (6, [.ref z8, .int 0]))] sz)) 1 6 (va_A [(h0, .inr (7, [.ref h1, .ref z0, .ref z1, .ref z2, .ref z3, .ref z4, .int 0, .int 0, .int 0])), (h1, .inl (k0, 4, .inr (.inr (.inr (.inr (va_up (va_up (va_up (va_up (fun _ => none) 0 (some h2)) 1 (some h3)) 2 (some h4)) 3 (some h5))))))), (h2, .inr (6, [.ref z5, .int 0])), (h3, .inr (6, [.ref z6, .int 0])), (h4, .inr (6, [.ref z7, .int 0])), (h5, .inr (6, [.ref z8, .int 0]))] sz) := by
  refine vx_ofW (cc := cX3_lay) (maxL := 5) (ret := (some .int)) (by decide) rfl ?_
  intro p e s m args below meth c s₁ B hml ht9 hv
  obtain ⟨rfl, hsz, hP, hK, hD0, hG⟩ := hv
  have hx := B.exec
  have hb := B.bytes
  have hr := B.returns
  have hts := atoms_spec (ws := wsX3_lay) B.pre
  have hown : s.vm.findClass RX3 = some m.cls := findClass_of_methodNamed B.named
  have hlocks := B.notSynchronized
  subst hsz
  have hD := hD0.self (sz := s.heap.size)
  generalize hAe : va_A [(h0, .inr (7, [.ref h1, .ref z0, .ref z1, .ref z2, .ref z3, .ref z4, .int 0, .int 0, .int 0])), (h1, .inl (k0, 4, .inr (.inr (.inr (.inr (va_up (va_up (va_up (va_up (fun _ => none) 0 (some h2)) 1 (some h3)) 2 (some h4)) 3 (some h5))))))), (h2, .inr (6, [.ref z5, .int 0])), (h3, .inr (6, [.ref z6, .int 0])), (h4, .inr (6, [.ref z7, .int 0])), (h5, .inr (6, [.ref z8, .int 0]))] s.heap.size = A at hD hG ⊢
  obtain ⟨⟨g_AO_Text, g_AO_String, g_AO_Object, g_nm_RX1_20, g_nm_RX0_17, g_nm_RX3_31, g_nm_RX2_44, g_nm_RL_121, g_nf_RL_13, g_nf_RL_47, g_ca_IO, g_ca_IA, g_ca_IS, g_ca_IntObj, g_ca_StrObj, g_de_RT, g_de_EX, g_de_TH, g_nc_IA_IO, g_nc_IS_IO, g_nc_IS_IA⟩, ⟨g_s3, g_s5, g_sa, g_x278, g_x280, g_x282, g_x284, g_x286, g_x180, g_x238, g_x250⟩, ⟨g_o5, g_c5, g_v5, g_t5, g_oa, g_ca, g_va, g_ta, g_zc, g_zd, g_td, g_zf, g_zU, g_zN, g_zh, g_zk, g_tk, g_oi, g_vi⟩⟩ := id hG
  have hA : ∀ q : Nat, s.heap.size ≤ q → A q := fun q h => by rw [← hAe]; exact Or.inr h
  have hS : va_S A s.heap s.heap [] := va_S.rf
  have hP : va_P (dC, dI) vwCl [(h0, .inr (7, [.ref h1, .ref z0, .ref z1, .ref z2, .ref z3, .ref z4, .int 0, .int 0, .int 0])), (h1, .inl (k0, 4, .inr (.inr (.inr (.inr (va_up (va_up (va_up (va_up (fun _ => none) 0 (some h2)) 1 (some h3)) 2 (some h4)) 3 (some h5))))))), (h2, .inr (6, [.ref z5, .int 0])), (h3, .inr (6, [.ref z6, .int 0])), (h4, .inr (6, [.ref z7, .int 0])), (h5, .inr (6, [.ref z8, .int 0]))] s.heap := hP
  have hl := lv_entry ([.ref h0, .int 3, .int i0, .int i1]) (n := 5) (Nat.le_of_ble_eq_true rfl)
  rw [lg_entry_eq]
  generalize (lg_sl ([.ref h0, .int 3, .int i0, .int i1]) ++ List.replicate (5 - (lg_sl ([.ref h0, .int 3, .int i0, .int i1])).length) Slot.unset).toArray = ls at hl ⊢
  have hl : lv_has ls 5 [(0, .ref h0), (1, .int 3), (2, .int i0), (3, .int i1)] := hl
  refine lv_iload_n hx hb dX3_lay_0 rfl (lv_at hl 1 rfl) ?_
  have hPc := hP.sub (ws' := []) [] rfl
  have hDc := hD.sub (ws' := []) [] (by decide) rfl
  have hKc := hK.sub (tys' := []) [] rfl
  have hFc := va_free (wc := []) hD hS hA [] rfl
  refine va_callv (va_runS (As := [.int 3]) (rest := []) ⟨hx, hb, hml, hown, hts⟩ (kx_X3_needRope_4 l dC dI s.heap.size) (cwS 1 hts gX3_lay_X3_needRope rfl rfl rfl (by decide +kernel) ⟨Nat.le_of_ble_eq_true rfl, Nat.le_of_ble_eq_true rfl⟩) ⟨fun a U g mk q => by obtain ⟨q0, q1, qP, qK, qD⟩ := q; exact ⟨q0, q1, qP, va_K.moved (u := U) (U := U.calling g mk a) (Vm.Alike.refl U.vm) qK, qD⟩, fun U hU hW => ⟨rfl, by rw [hU], by rw [hU]; exact hPc, va_K.moved hW.alike hKc, hDc.weaken (fun _ _ _ _ => trivial)⟩⟩ rfl rfl hl.1 rfl (lv_room (Nat.le_of_ble_eq_true rfl)) dX3_lay_1 ⟨Nat.le_of_ble_eq_true rfl, Nat.le_of_ble_eq_true rfl⟩) hS (fun q _ h => hFc q h) hFc (fun u t H1 locs ht hvm hw hB hz1 hk1 hS => ?_)
  obtain ⟨hP1, hK1, hD1⟩ := hB
  rw [ht] at hP1
  have hK1 := va_K.moved hvm.symm hK1
  obtain ⟨hP, hD⟩ := va_join (wr := [(h0, .inr (7, [.ref h1, .ref z0, .ref z1, .ref z2, .ref z3, .ref z4, .int 0, .int 0, .int 0])), (h1, .inl (k0, 4, .inr (.inr (.inr (.inr (va_up (va_up (va_up (va_up (fun _ => none) 0 (some h2)) 1 (some h3)) 2 (some h4)) 3 (some h5))))))), (h2, .inr (6, [.ref z5, .int 0])), (h3, .inr (6, [.ref z6, .int 0])), (h4, .inr (6, [.ref z7, .int 0])), (h5, .inr (6, [.ref z8, .int 0]))]) (w1 := []) hP hD [] [0, 1, 2, 3, 4, 5] rfl rfl (by decide) (by decide) hk1 hFc hP1 hD1
  generalize H1 = H at hP hS ⊢
  have hP : va_P (dC, dI) vwCl [(h0, .inr (7, [.ref h1, .ref z0, .ref z1, .ref z2, .ref z3, .ref z4, .int 0, .int 0, .int 0])), (h1, .inl (k0, 4, .inr (.inr (.inr (.inr (va_up (va_up (va_up (va_up (fun _ => none) 0 (some h2)) 1 (some h3)) 2 (some h4)) 3 (some h5))))))), (h2, .inr (6, [.ref z5, .int 0])), (h3, .inr (6, [.ref z6, .int 0])), (h4, .inr (6, [.ref z7, .int 0])), (h5, .inr (6, [.ref z8, .int 0]))] H := hP
  have hD : va_D A [(h0, .inr (7, [.ref h1, .ref z0, .ref z1, .ref z2, .ref z3, .ref z4, .int 0, .int 0, .int 0])), (h1, .inl (k0, 4, .inr (.inr (.inr (.inr (va_up (va_up (va_up (va_up (fun _ => none) 0 (some h2)) 1 (some h3)) 2 (some h4)) 3 (some h5))))))), (h2, .inr (6, [.ref z5, .int 0])), (h3, .inr (6, [.ref z6, .int 0])), (h4, .inr (6, [.ref z7, .int 0])), (h5, .inr (6, [.ref z8, .int 0]))] := hD
  refine lv_iload_n hx hb dX3_lay_4 rfl (lv_at hl 3 rfl) ?_
  have hPc := hP.sub (ws' := []) [] rfl
  have hDc := hD.sub (ws' := []) [] (by decide) rfl
  have hKc := hK.sub (tys' := []) [] rfl
  have hFc := va_free (wc := []) hD hS hA [] rfl
  refine va_callv (va_runS (As := [.int i1]) (rest := []) ⟨hx, hb, hml, hown, hts⟩ (kx_X3_needRope_0 l dC dI H.size i1 i1_l i1_u) (cwS 1 hts gX3_lay_X3_needRope rfl rfl rfl (by decide +kernel) ⟨Nat.le_of_ble_eq_true rfl, Nat.le_of_ble_eq_true rfl⟩) ⟨fun a U g mk q => by obtain ⟨q0, q1, qP, qK, qD⟩ := q; exact ⟨q0, q1, qP, va_K.moved (u := U) (U := U.calling g mk a) (Vm.Alike.refl U.vm) qK, qD⟩, fun U hU hW => ⟨rfl, by rw [hU], by rw [hU]; exact hPc, va_K.moved hW.alike hKc, hDc.weaken (fun _ _ _ _ => trivial)⟩⟩ rfl rfl hl.1 rfl (lv_room (Nat.le_of_ble_eq_true rfl)) dX3_lay_5 ⟨Nat.le_of_ble_eq_true rfl, Nat.le_of_ble_eq_true rfl⟩) hS (fun q _ h => hFc q h) hFc (fun u t H1 locs ht hvm hw hB hz1 hk1 hS => ?_)
  obtain ⟨hP1, hK1, hD1⟩ := hB
  rw [ht] at hP1
  have hK1 := va_K.moved hvm.symm hK1
  obtain ⟨hP, hD⟩ := va_join (wr := [(h0, .inr (7, [.ref h1, .ref z0, .ref z1, .ref z2, .ref z3, .ref z4, .int 0, .int 0, .int 0])), (h1, .inl (k0, 4, .inr (.inr (.inr (.inr (va_up (va_up (va_up (va_up (fun _ => none) 0 (some h2)) 1 (some h3)) 2 (some h4)) 3 (some h5))))))), (h2, .inr (6, [.ref z5, .int 0])), (h3, .inr (6, [.ref z6, .int 0])), (h4, .inr (6, [.ref z7, .int 0])), (h5, .inr (6, [.ref z8, .int 0]))]) (w1 := []) hP hD [] [0, 1, 2, 3, 4, 5] rfl rfl (by decide) (by decide) hk1 hFc hP1 hD1
  generalize H1 = H at hP hS ⊢
  have hP : va_P (dC, dI) vwCl [(h0, .inr (7, [.ref h1, .ref z0, .ref z1, .ref z2, .ref z3, .ref z4, .int 0, .int 0, .int 0])), (h1, .inl (k0, 4, .inr (.inr (.inr (.inr (va_up (va_up (va_up (va_up (fun _ => none) 0 (some h2)) 1 (some h3)) 2 (some h4)) 3 (some h5))))))), (h2, .inr (6, [.ref z5, .int 0])), (h3, .inr (6, [.ref z6, .int 0])), (h4, .inr (6, [.ref z7, .int 0])), (h5, .inr (6, [.ref z8, .int 0]))] H := hP
  have hD : va_D A [(h0, .inr (7, [.ref h1, .ref z0, .ref z1, .ref z2, .ref z3, .ref z4, .int 0, .int 0, .int 0])), (h1, .inl (k0, 4, .inr (.inr (.inr (.inr (va_up (va_up (va_up (va_up (fun _ => none) 0 (some h2)) 1 (some h3)) 2 (some h4)) 3 (some h5))))))), (h2, .inr (6, [.ref z5, .int 0])), (h3, .inr (6, [.ref z6, .int 0])), (h4, .inr (6, [.ref z7, .int 0])), (h5, .inr (6, [.ref z8, .int 0]))] := hD
  refine lv_aload_n hx hb dX3_lay_8 rfl (lv_at hl 0 rfl) ?_
  refine va_get (D := (dC, dI)) (ci := 7) (v := .ref h1) (C := RX3) (T := TX3) (N := 9) hx hb hts (by decide +kernel) hown hK hP 0 rfl rfl 0 (by decide) (hts (.fieldLink RX3 11 "Rewriterope" "ropes" "[LRewriterope$Text;") (by decide +kernel)) (fun _ h9 => h9) rfl dX3_lay_9 ?_
  refine lv_iload_n hx hb dX3_lay_12 rfl (lv_at hl 1 rfl) ?_
  refine va_aldq (D := (dC, dI)) hx hb hK hP 1 0 rfl rfl (by unfold vp_in; decide) dX3_lay_13 ?_
  refine W.eq (g2 := F0 m 14 ls [.ref h5]) rfl ?_
  refine lv_astore (lv' := [(4, .ref h5), (0, .ref h0), (1, .int 3), (2, .int i0), (3, .int i1)]) hx hb dX3_lay_14 hl (by decide) rfl (fun ls hl => ?_)
  refine lv_aload hx hb dX3_lay_16 (lv_at hl 0 rfl) ?_
  refine lv_iload_n hx hb dX3_lay_18 rfl (lv_at hl 3 rfl) ?_
  have hPc := hP.sub (ws' := [(h5, .inr (6, [.ref z8, .int 0]))]) [5] rfl
  have hDc := hD.sub (ws' := [(h5, .inr (6, [.ref z8, .int 0]))]) [5] (by decide) rfl
  have hKc := hK.sub (tys' := []) [] rfl
  have hFc := va_free (wc := [(h5, .inr (6, [.ref z8, .int 0]))]) hD hS hA [5] rfl
  refine vx_callv (vx_runS (As := [.ref h5, .int i0]) (rest := []) ⟨hx, hb, hml, hown, hts⟩ (kx_X3_needPlace_1 l hst dC dI ge5 gea gv5 gva gde gic gi0 h5 z8 H.size i0 i0_l i0_u) (cwS 2 hts gX3_lay_X3_needPlace rfl rfl rfl (by decide +kernel) ⟨Nat.le_of_ble_eq_true rfl, Nat.le_of_ble_eq_true rfl⟩) ⟨fun a U g mk q => by obtain ⟨q0, q1, qP, qK, qD, qG⟩ := q; exact ⟨q0, q1, qP, va_K.moved (u := U) (U := U.calling g mk a) (Vm.Alike.refl U.vm) qK, qD, gv.fb qG⟩, fun U hU hW => ⟨rfl, by rw [hU], by rw [hU]; exact hPc, va_K.moved hW.alike hKc, hDc.weaken (fun _ _ _ _ => trivial), gv.pass hW hU hS hFc hG⟩⟩ rfl rfl hl.1 rfl (lv_room (Nat.le_of_ble_eq_true rfl)) dX3_lay_19 ⟨Nat.le_of_ble_eq_true rfl, Nat.le_of_ble_eq_true rfl⟩) hS (fun q _ h => hFc q h) hFc (fun q _ h => hFc q h) (fun E ce q9 u t H1 locs ht hvm hpx hB hz1 hk1 hS hce hcv hcl => ?_) (fun u t H1 locs ht hvm hw hB hz1 hk1 hS => hw.elim)
  obtain ⟨rfl, hP1, hK1, hD1⟩ := hB
  rw [ht] at hP1
  have hK1 := va_K.moved hvm.symm hK1
  obtain ⟨hP, hD⟩ := va_join (wr := [(h0, .inr (7, [.ref h1, .ref z0, .ref z1, .ref z2, .ref z3, .ref z4, .int 0, .int 0, .int 0])), (h1, .inl (k0, 4, .inr (.inr (.inr (.inr (va_up (va_up (va_up (va_up (fun _ => none) 0 (some h2)) 1 (some h3)) 2 (some h4)) 3 (some h5))))))), (h2, .inr (6, [.ref z5, .int 0])), (h3, .inr (6, [.ref z6, .int 0])), (h4, .inr (6, [.ref z7, .int 0]))]) (w1 := [(h5, .inr (6, [.ref z8, .int 0]))]) hP hD [5] [0, 1, 2, 3, 4] rfl rfl (by decide) (by decide) hk1 hFc hP1 hD1
  generalize H1 = H at hP hS hce ⊢
  have hP : va_P (dC, dI) vwCl [(h0, .inr (7, [.ref h1, .ref z0, .ref z1, .ref z2, .ref z3, .ref z4, .int 0, .int 0, .int 0])), (h1, .inl (k0, 4, .inr (.inr (.inr (.inr (va_up (va_up (va_up (va_up (fun _ => none) 0 (some h2)) 1 (some h3)) 2 (some h4)) 3 (some h5))))))), (h2, .inr (6, [.ref z5, .int 0])), (h3, .inr (6, [.ref z6, .int 0])), (h4, .inr (6, [.ref z7, .int 0])), (h5, .inr (6, [.ref z8, .int 0]))] H := hP
  have hD : va_D A [(h0, .inr (7, [.ref h1, .ref z0, .ref z1, .ref z2, .ref z3, .ref z4, .int 0, .int 0, .int 0])), (h1, .inl (k0, 4, .inr (.inr (.inr (.inr (va_up (va_up (va_up (va_up (fun _ => none) 0 (some h2)) 1 (some h3)) 2 (some h4)) 3 (some h5))))))), (h2, .inr (6, [.ref z5, .int 0])), (h3, .inr (6, [.ref z6, .int 0])), (h4, .inr (6, [.ref z7, .int 0])), (h5, .inr (6, [.ref z8, .int 0]))] := hD
  exact vx_out (fun x hx9 => (ht9 x hx9).elim) hlocks hce hcv hcl (fun t ht hW => ⟨(), trivial, ⟨rfl, by rw [ht]; exact hP, va_K.moved hW hK, hD⟩, hS.F ht⟩) hS.2.2 (by omega) (by omega)
set_option maxHeartbeats 4000000 in
set_option maxRecDepth 100000 in
theorem kx_X3_lay_s1 (l : Launch) (hst : l.stackTraces = false) (dC : Nat → ClassId) (dI : Nat → Nat → Nat) (ge5 gea gv5 gva gde gic gi0 : Nat) (h0 : Nat) (h1 : Nat) (h2 : Nat) (h3 : Nat) (h4 : Nat) (h5 : Nat) (z0 : Nat) (z1 : Nat) (z2 : Nat) (z3 : Nat) (z4 : Nat) (z5 : Nat) (z6 : Nat) (z7 : Nat) (z8 : Nat) (k0 : ClassId) (sz : Nat) (i0 : Int32) (i0_l : (1 : Int) ≤ i0.toInt) (i0_u : i0.toInt ≤ (2147483647 : Int)) (i1 : Int32) (i1_l : (0 : Int) ≤ i1.toInt) (i1_u : i1.toInt ≤ (3 : Int)) (j2 : Int32) (j2_l : (0 : Int) ≤ j2.toInt) (j2_u : j2.toInt ≤ (3 : Int)) : vx_Met l yX3_lay wsX3_lay ({ frames := 7, cells := 1, slots := 6, locals := 141 }) (va_Pc [.ref h0, .int j2, .int i0, .int i1] (fun U => U.heap.size = sz ∧ va_P (dC, dI) vwCl [(h0, .inr (7, [.ref h1, .ref z0, .ref z1, .ref z2, .ref z3, .ref z4, .int 0, .int 0, .int 0])), (h1, .inl (k0, 4, .inr (.inr (.inr (.inr (va_up (va_up (va_up (va_up (fun _ => none) 0 (some h2)) 1 (some h3)) 2 (some h4)) 3 (some h5))))))), (h2, .inr (6, [.ref z5, .int 0])), (h3, .inr (6, [.ref z6, .int 0])), (h4, .inr (6, [.ref z7, .int 0])), (h5, .inr (6, [.ref z8, .int 0]))] U.heap ∧ va_K (dC, dI) vwCl [(k0, .object "Rewriterope$Text")] U ∧ va_D (fun _ => True) [(h0, .inr (7, [.ref h1, .ref z0, .ref z1, .ref z2, .ref z3, .ref z4, .int 0, .int 0, .int 0])), (h1, .inl (k0, 4, .inr (.inr (.inr (.inr (va_up (va_up (va_up (va_up (fun _ => none) 0 (some h2)) 1 (some h3)) 2 (some h4)) 3 (some h5))))))), (h2, .inr (6, [.ref z5, .int 0])), (h3, .inr (6, [.ref z6, .int 0])), (h4, .inr (6, [.ref z7, .int 0])), (h5, .inr (6, [.ref z8, .int 0]))] ∧ gv ge5 gea gv5 gva gde gic gi0 (va_A [(h0, .inr (7, [.ref h1, .ref z0, .ref z1, .ref z2, .ref z3, .ref z4, .int 0, .int 0, .int 0])), (h1, .inl (k0, 4, .inr (.inr (.inr (.inr (va_up (va_up (va_up (va_up (fun _ => none) 0 (some h2)) 1 (some h3)) 2 (some h4)) 3 (some h5))))))), (h2, .inr (6, [.ref z5, .int 0])), (h3, .inr (6, [.ref z6, .int 0])), (h4, .inr (6, [.ref z7, .int 0])), (h5, .inr (6, [.ref z8, .int 0]))] sz) U U.heap)) (va_Qi (fun (_ : Int32) (_ : Unit) => False) (fun _ _ => True) (va_A [(h0, .inr (7, [.ref h1, .ref z0, .ref z1, .ref z2, .ref z3, .ref z4, .int 0, .int 0, .int 0])), (h1, .inl (k0, 4, .inr (.inr (.inr (.inr (va_up (va_up (va_up (va_up (fun _ => none) 0 (some h2)) 1 (some h3)) 2 (some h4)) 3 (some h5))))))), (h2, .inr (6, [.ref z5, .int 0])), (h3, .inr (6, [.ref z6, .int 0])), (h4, .inr (6, [.ref z7, .int 0])), (h5, .inr (6, [.ref z8, .int 0]))] sz)) (vx_X (fun _ : Unit => True) (fun (E : String) (_ : Unit) (t : State) => E = "java/lang/IndexOutOfBoundsException" ∧ va_P (dC, dI) vwCl [(h0, .inr (7, [.ref h1, .ref z0, .ref z1, .ref z2, .ref z3, .ref z4, .int 0, .int 0, .int 0])), (h1, .inl (k0, 4, .inr (.inr (.inr (.inr (va_up (va_up (va_up (va_up (fun _ => none) 0 (some h2)) 1 (some h3)) 2 (some h4)) 3 (some h5))))))), (h2, .inr (6, [.ref z5, .int 0])), (h3, .inr (6, [.ref z6, .int 0])), (h4, .inr (6, [.ref z7, .int 0])), (h5, .inr (6, [.ref z8, .int 0]))] t.heap ∧ va_K (dC, dI) vwCl [(k0, .object "Rewriterope$Text")] t ∧ va_D (va_A [(h0, .inr (7, [.ref h1, .ref z0, .ref z1, .ref z2, .ref z3, .ref z4, .int 0, .int 0, .int 0])), (h1, .inl (k0, 4, .inr (.inr (.inr (.inr (va_up (va_up (va_up (va_up (fun _ => none) 0 (some h2)) 1 (some h3)) 2 (some h4)) 3 (some h5))))))), (h2, .inr (6, [.ref z5, .int 0])), (h3, .inr (6, [.ref z6, .int 0])), (h4, .inr (6, [.ref z7, .int 0])), (h5, .inr (6, [.ref z8, .int 0]))] sz) [(h0, .inr (7, [.ref h1, .ref z0, .ref z1, .ref z2, .ref z3, .ref z4, .int 0, .int 0, .int 0])), (h1, .inl (k0, 4, .inr (.inr (.inr (.inr (va_up (va_up (va_up (va_up (fun _ => none) 0 (some h2)) 1 (some h3)) 2 (some h4)) 3 (some h5))))))), (h2, .inr (6, [.ref z5, .int 0])), (h3, .inr (6, [.ref z6, .int 0])), (h4, .inr (6, [.ref z7, .int 0])), (h5, .inr (6, [.ref z8, .int 0]))]) (va_A [(h0, .inr (7, [.ref h1, .ref z0, .ref z1, .ref z2, .ref z3, .ref z4, .int 0, .int 0, .int 0])), (h1, .inl (k0, 4, .inr (.inr (.inr (.inr (va_up (va_up (va_up (va_up (fun _ => none) 0 (some h2)) 1 (some h3)) 2 (some h4)) 3 (some h5))))))), (h2, .inr (6, [.ref z5, .int 0])), (h3, .inr (6, [.ref z6, .int 0])), (h4, .inr (6, [.ref z7, .int 0])), (h5, .inr (6, [.ref z8, .int 0]))] sz)) 1 6 (va_A [(h0, .inr (7, [.ref h1, .ref z0, .ref z1, .ref z2, .ref z3, .ref z4, .int 0, .int 0, .int 0])), (h1, .inl (k0, 4, .inr (.inr (.inr (.inr (va_up (va_up (va_up (va_up (fun _ => none) 0 (some h2)) 1 (some h3)) 2 (some h4)) 3 (some h5))))))), (h2, .inr (6, [.ref z5, .int 0])), (h3, .inr (6, [.ref z6, .int 0])), (h4, .inr (6, [.ref z7, .int 0])), (h5, .inr (6, [.ref z8, .int 0]))] sz) := by
  have e9 : j2 = 0 ∨ j2 = 1 ∨ j2 = 2 ∨ j2 = 3 := by
    have h9 : j2.toInt = 0 ∨ j2.toInt = 1 ∨ j2.toInt = 2 ∨ j2.toInt = 3 := by omega
    rcases h9 with h9 | h9 | h9 | h9
    · exact Or.inl (Int32.toInt_inj.mp (h9.trans (by decide)))
    · exact Or.inr (Or.inl (Int32.toInt_inj.mp (h9.trans (by decide))))
    · exact Or.inr (Or.inr (Or.inl (Int32.toInt_inj.mp (h9.trans (by decide)))))
    · exact Or.inr (Or.inr (Or.inr (Int32.toInt_inj.mp (h9.trans (by decide)))))
  rcases e9 with rfl | rfl | rfl | rfl
  · exact kx_X3_lay_8 l hst dC dI ge5 gea gv5 gva gde gic gi0 h0 h1 h2 h3 h4 h5 z0 z1 z2 z3 z4 z5 z6 z7 z8 k0 sz i0 i0_l i0_u i1 i1_l i1_u
  · exact kx_X3_lay_9 l hst dC dI ge5 gea gv5 gva gde gic gi0 h0 h1 h2 h3 h4 h5 z0 z1 z2 z3 z4 z5 z6 z7 z8 k0 sz i0 i0_l i0_u i1 i1_l i1_u
  · exact kx_X3_lay_10 l hst dC dI ge5 gea gv5 gva gde gic gi0 h0 h1 h2 h3 h4 h5 z0 z1 z2 z3 z4 z5 z6 z7 z8 k0 sz i0 i0_l i0_u i1 i1_l i1_u
  · exact kx_X3_lay_11 l hst dC dI ge5 gea gv5 gva gde gic gi0 h0 h1 h2 h3 h4 h5 z0 z1 z2 z3 z4 z5 z6 z7 z8 k0 sz i0 i0_l i0_u i1 i1_l i1_u
set_option maxHeartbeats 4000000 in
set_option maxRecDepth 100000 in
theorem kx_L_lay_5 (l : Launch) (hst : l.stackTraces = false) (dC : Nat → ClassId) (dI : Nat → Nat → Nat) (ge5 gea gv5 gva gde gic gi0 : Nat) (h0 : Nat) (h1 : Nat) (h2 : Nat) (h3 : Nat) (h4 : Nat) (h5 : Nat) (z0 : Nat) (z1 : Nat) (z2 : Nat) (z3 : Nat) (z4 : Nat) (z5 : Nat) (z6 : Nat) (z7 : Nat) (z8 : Nat) (z9 : Nat) (k0 : ClassId) (sz : Nat) (i0 : Int32) (i0_l : (0 : Int) ≤ i0.toInt) (i0_u : i0.toInt ≤ (3 : Int)) (i1 : Int32) (i1_l : (1 : Int) ≤ i1.toInt) (i1_u : i1.toInt ≤ (2147483647 : Int)) (i2 : Int32) (i2_l : (0 : Int) ≤ i2.toInt) (i2_u : i2.toInt ≤ (3 : Int)) : Met l yL_lay wsL_lay ({ frames := 8, cells := 1, slots := 6, locals := 165 }) (va_Pc [.ref h0, .int i0, .int i1, .int i2, .ref z0] (fun U => U.heap.size = sz ∧ va_P (dC, dI) vwCl [(h0, .inr (7, [.ref h1, .ref z1, .ref z2, .ref z3, .ref z4, .ref z5, .int 0, .int 0, .int 0])), (h1, .inl (k0, 4, .inr (.inr (.inr (.inr (va_up (va_up (va_up (va_up (fun _ => none) 0 (some h2)) 1 (some h3)) 2 (some h4)) 3 (some h5))))))), (h2, .inr (6, [.ref z6, .int 0])), (h3, .inr (6, [.ref z7, .int 0])), (h4, .inr (6, [.ref z8, .int 0])), (h5, .inr (6, [.ref z9, .int 0]))] U.heap ∧ va_K (dC, dI) vwCl [(k0, .object "Rewriterope$Text")] U ∧ va_D (fun _ => True) [(h0, .inr (7, [.ref h1, .ref z1, .ref z2, .ref z3, .ref z4, .ref z5, .int 0, .int 0, .int 0])), (h1, .inl (k0, 4, .inr (.inr (.inr (.inr (va_up (va_up (va_up (va_up (fun _ => none) 0 (some h2)) 1 (some h3)) 2 (some h4)) 3 (some h5))))))), (h2, .inr (6, [.ref z6, .int 0])), (h3, .inr (6, [.ref z7, .int 0])), (h4, .inr (6, [.ref z8, .int 0])), (h5, .inr (6, [.ref z9, .int 0]))] ∧ gv ge5 gea gv5 gva gde gic gi0 (va_A [(h0, .inr (7, [.ref h1, .ref z1, .ref z2, .ref z3, .ref z4, .ref z5, .int 0, .int 0, .int 0])), (h1, .inl (k0, 4, .inr (.inr (.inr (.inr (va_up (va_up (va_up (va_up (fun _ => none) 0 (some h2)) 1 (some h3)) 2 (some h4)) 3 (some h5))))))), (h2, .inr (6, [.ref z6, .int 0])), (h3, .inr (6, [.ref z7, .int 0])), (h4, .inr (6, [.ref z8, .int 0])), (h5, .inr (6, [.ref z9, .int 0]))] sz) U U.heap)) (va_Qi (fun (r : Int32) (_ : Unit) => r = 1) (fun (_ : Unit) (t : State) => va_P (dC, dI) vwCl [(h0, .inr (7, [.ref h1, .ref z1, .ref z2, .ref z3, .ref z4, .ref z5, .int 0, .int 0, .int 0])), (h1, .inl (k0, 4, .inr (.inr (.inr (.inr (va_up (va_up (va_up (va_up (fun _ => none) 0 (some h2)) 1 (some h3)) 2 (some h4)) 3 (some h5))))))), (h2, .inr (6, [.ref z6, .int 0])), (h3, .inr (6, [.ref z7, .int 0])), (h4, .inr (6, [.ref z8, .int 0])), (h5, .inr (6, [.ref z9, .int 0]))] t.heap ∧ va_K (dC, dI) vwCl [(k0, .object "Rewriterope$Text")] t ∧ va_D (va_A [(h0, .inr (7, [.ref h1, .ref z1, .ref z2, .ref z3, .ref z4, .ref z5, .int 0, .int 0, .int 0])), (h1, .inl (k0, 4, .inr (.inr (.inr (.inr (va_up (va_up (va_up (va_up (fun _ => none) 0 (some h2)) 1 (some h3)) 2 (some h4)) 3 (some h5))))))), (h2, .inr (6, [.ref z6, .int 0])), (h3, .inr (6, [.ref z7, .int 0])), (h4, .inr (6, [.ref z8, .int 0])), (h5, .inr (6, [.ref z9, .int 0]))] sz) [(h0, .inr (7, [.ref h1, .ref z1, .ref z2, .ref z3, .ref z4, .ref z5, .int 0, .int 0, .int 0])), (h1, .inl (k0, 4, .inr (.inr (.inr (.inr (va_up (va_up (va_up (va_up (fun _ => none) 0 (some h2)) 1 (some h3)) 2 (some h4)) 3 (some h5))))))), (h2, .inr (6, [.ref z6, .int 0])), (h3, .inr (6, [.ref z7, .int 0])), (h4, .inr (6, [.ref z8, .int 0])), (h5, .inr (6, [.ref z9, .int 0]))]) (va_A [(h0, .inr (7, [.ref h1, .ref z1, .ref z2, .ref z3, .ref z4, .ref z5, .int 0, .int 0, .int 0])), (h1, .inl (k0, 4, .inr (.inr (.inr (.inr (va_up (va_up (va_up (va_up (fun _ => none) 0 (some h2)) 1 (some h3)) 2 (some h4)) 3 (some h5))))))), (h2, .inr (6, [.ref z6, .int 0])), (h3, .inr (6, [.ref z7, .int 0])), (h4, .inr (6, [.ref z8, .int 0])), (h5, .inr (6, [.ref z9, .int 0]))] sz)) 1 6 (va_A [(h0, .inr (7, [.ref h1, .ref z1, .ref z2, .ref z3, .ref z4, .ref z5, .int 0, .int 0, .int 0])), (h1, .inl (k0, 4, .inr (.inr (.inr (.inr (va_up (va_up (va_up (va_up (fun _ => none) 0 (some h2)) 1 (some h3)) 2 (some h4)) 3 (some h5))))))), (h2, .inr (6, [.ref z6, .int 0])), (h3, .inr (6, [.ref z7, .int 0])), (h4, .inr (6, [.ref z8, .int 0])), (h5, .inr (6, [.ref z9, .int 0]))] sz) := by
  refine kz_ofWH (cc := cL_lay) (maxL := 6) (ret := (some .int)) (hh := [(0, 13, 16, 19)]) (by decide) rfl ?_
  intro p e s m args below meth c s₁ B hml hv
  obtain ⟨rfl, hsz, hP, hK, hD0, hG⟩ := hv
  have hx := B.exec
  have hb := B.bytes
  have hr := B.returns
  have hts := atoms_spec (ws := wsL_lay) B.pre
  have hown : s.vm.findClass RL = some m.cls := findClass_of_methodNamed B.named
  have htab := vx_table (x := yL_lay) B (hts (.codeWith yL_lay cL_lay 6 (some .int) [(0, 13, 16, 19)]) (by decide +kernel))
  have hlocks := B.notSynchronized
  subst hsz
  have hD := hD0.self (sz := s.heap.size)
  generalize hAe : va_A [(h0, .inr (7, [.ref h1, .ref z1, .ref z2, .ref z3, .ref z4, .ref z5, .int 0, .int 0, .int 0])), (h1, .inl (k0, 4, .inr (.inr (.inr (.inr (va_up (va_up (va_up (va_up (fun _ => none) 0 (some h2)) 1 (some h3)) 2 (some h4)) 3 (some h5))))))), (h2, .inr (6, [.ref z6, .int 0])), (h3, .inr (6, [.ref z7, .int 0])), (h4, .inr (6, [.ref z8, .int 0])), (h5, .inr (6, [.ref z9, .int 0]))] s.heap.size = A at hD hG ⊢
  obtain ⟨⟨g_AO_Text, g_AO_String, g_AO_Object, g_nm_RX1_20, g_nm_RX0_17, g_nm_RX3_31, g_nm_RX2_44, g_nm_RL_121, g_nf_RL_13, g_nf_RL_47, g_ca_IO, g_ca_IA, g_ca_IS, g_ca_IntObj, g_ca_StrObj, g_de_RT, g_de_EX, g_de_TH, g_nc_IA_IO, g_nc_IS_IO, g_nc_IS_IA⟩, ⟨g_s3, g_s5, g_sa, g_x278, g_x280, g_x282, g_x284, g_x286, g_x180, g_x238, g_x250⟩, ⟨g_o5, g_c5, g_v5, g_t5, g_oa, g_ca, g_va, g_ta, g_zc, g_zd, g_td, g_zf, g_zU, g_zN, g_zh, g_zk, g_tk, g_oi, g_vi⟩⟩ := id hG
  have hA : ∀ q : Nat, s.heap.size ≤ q → A q := fun q h => by rw [← hAe]; exact Or.inr h
  have hS : va_S A s.heap s.heap [] := va_S.rf
  have hP : va_P (dC, dI) vwCl [(h0, .inr (7, [.ref h1, .ref z1, .ref z2, .ref z3, .ref z4, .ref z5, .int 0, .int 0, .int 0])), (h1, .inl (k0, 4, .inr (.inr (.inr (.inr (va_up (va_up (va_up (va_up (fun _ => none) 0 (some h2)) 1 (some h3)) 2 (some h4)) 3 (some h5))))))), (h2, .inr (6, [.ref z6, .int 0])), (h3, .inr (6, [.ref z7, .int 0])), (h4, .inr (6, [.ref z8, .int 0])), (h5, .inr (6, [.ref z9, .int 0]))] s.heap := hP
  have hl := lv_entry ([.ref h0, .int i0, .int i1, .int i2, .ref z0]) (n := 6) (Nat.le_of_ble_eq_true rfl)
  rw [lg_entry_eq]
  generalize (lg_sl ([.ref h0, .int i0, .int i1, .int i2, .ref z0]) ++ List.replicate (6 - (lg_sl ([.ref h0, .int i0, .int i1, .int i2, .ref z0])).length) Slot.unset).toArray = ls at hl ⊢
  have hl : lv_has ls 6 [(0, .ref h0), (1, .int i0), (2, .int i1), (3, .int i2), (4, .ref z0)] := hl
  refine lv_aload hx hb dL_lay_0 (lv_at hl 4 rfl) ?_
  refine lv_aload_n hx hb dL_lay_2 rfl (lv_at hl 0 rfl) ?_
  refine lv_iload_n hx hb dL_lay_3 rfl (lv_at hl 1 rfl) ?_
  refine lv_iload_n hx hb dL_lay_4 rfl (lv_at hl 2 rfl) ?_
  refine lv_iload_n hx hb dL_lay_5 rfl (lv_at hl 3 rfl) ?_
  have hPc := hP.sub (ws' := [(h0, .inr (7, [.ref h1, .ref z1, .ref z2, .ref z3, .ref z4, .ref z5, .int 0, .int 0, .int 0])), (h1, .inl (k0, 4, .inr (.inr (.inr (.inr (va_up (va_up (va_up (va_up (fun _ => none) 0 (some h2)) 1 (some h3)) 2 (some h4)) 3 (some h5))))))), (h2, .inr (6, [.ref z6, .int 0])), (h3, .inr (6, [.ref z7, .int 0])), (h4, .inr (6, [.ref z8, .int 0])), (h5, .inr (6, [.ref z9, .int 0]))]) [0, 1, 2, 3, 4, 5] rfl
  have hDc := hD.sub (ws' := [(h0, .inr (7, [.ref h1, .ref z1, .ref z2, .ref z3, .ref z4, .ref z5, .int 0, .int 0, .int 0])), (h1, .inl (k0, 4, .inr (.inr (.inr (.inr (va_up (va_up (va_up (va_up (fun _ => none) 0 (some h2)) 1 (some h3)) 2 (some h4)) 3 (some h5))))))), (h2, .inr (6, [.ref z6, .int 0])), (h3, .inr (6, [.ref z7, .int 0])), (h4, .inr (6, [.ref z8, .int 0])), (h5, .inr (6, [.ref z9, .int 0]))]) [0, 1, 2, 3, 4, 5] (by decide) rfl
  have hKc := hK.sub (tys' := [(k0, .object "Rewriterope$Text")]) [0] rfl
  have hFc := va_free (wc := [(h0, .inr (7, [.ref h1, .ref z1, .ref z2, .ref z3, .ref z4, .ref z5, .int 0, .int 0, .int 0])), (h1, .inl (k0, 4, .inr (.inr (.inr (.inr (va_up (va_up (va_up (va_up (fun _ => none) 0 (some h2)) 1 (some h3)) 2 (some h4)) 3 (some h5))))))), (h2, .inr (6, [.ref z6, .int 0])), (h3, .inr (6, [.ref z7, .int 0])), (h4, .inr (6, [.ref z8, .int 0])), (h5, .inr (6, [.ref z9, .int 0]))]) hD hS hA [0, 1, 2, 3, 4, 5] rfl
  refine vx_calli (vx_runV (As := [.int i0, .int i1, .int i2]) (rest := [.ref z0]) ⟨hx, hb, hml, hown, hts⟩ (kx_X3_lay_s1 l hst dC dI ge5 gea gv5 gva gde gic gi0 h0 h1 h2 h3 h4 h5 z1 z2 z3 z4 z5 z6 z7 z8 z9 k0 s.heap.size i1 i1_l i1_u i2 i2_l i2_u i0 i0_l i0_u) (cwV 3 hts gL_lay_X3_lay rfl rfl rfl (by decide +kernel) ⟨Nat.le_of_ble_eq_true rfl, Nat.le_of_ble_eq_true rfl⟩) ⟨fun a U g mk q => by obtain ⟨q0, q1, qP, qK, qD, qG⟩ := q; exact ⟨q0, q1, qP, va_K.moved (u := U) (U := U.calling g mk a) (Vm.Alike.refl U.vm) qK, qD, gv.fb qG⟩, va_recv hKc hPc (ci := 7) (q0 := 0) rfl rfl, fun U hU hW => ⟨rfl, by rw [hU], by rw [hU]; exact hPc, va_K.moved hW.alike hKc, hDc.weaken (fun _ _ _ _ => trivial), gv.pass hW hU hS hFc hG⟩⟩ rfl rfl hl.1 rfl (lv_room (Nat.le_of_ble_eq_true rfl)) dL_lay_6 ⟨Nat.le_of_ble_eq_true rfl, Nat.le_of_ble_eq_true rfl⟩) hS (fun q _ h => hFc q h) hFc (fun q _ h => hFc q h) (fun E ce q9 u t H1 locs ht hvm hpx hB hz1 hk1 hS hce hcv hcl => ?_) (fun r9 u t H1 locs ht hvm hw hB hz1 hk1 hS => hw.elim)
  obtain ⟨rfl, hP1, hK1, hD1⟩ := hB
  rw [ht] at hP1
  have hK1 := va_K.moved hvm.symm hK1
  obtain ⟨hP, hD⟩ := va_join (wr := []) (w1 := [(h0, .inr (7, [.ref h1, .ref z1, .ref z2, .ref z3, .ref z4, .ref z5, .int 0, .int 0, .int 0])), (h1, .inl (k0, 4, .inr (.inr (.inr (.inr (va_up (va_up (va_up (va_up (fun _ => none) 0 (some h2)) 1 (some h3)) 2 (some h4)) 3 (some h5))))))), (h2, .inr (6, [.ref z6, .int 0])), (h3, .inr (6, [.ref z7, .int 0])), (h4, .inr (6, [.ref z8, .int 0])), (h5, .inr (6, [.ref z9, .int 0]))]) hP hD [0, 1, 2, 3, 4, 5] [] rfl rfl (by decide) (by decide) hk1 hFc hP1 hD1
  generalize H1 = H at hP hS hce ⊢
  have hP : va_P (dC, dI) vwCl [(h0, .inr (7, [.ref h1, .ref z1, .ref z2, .ref z3, .ref z4, .ref z5, .int 0, .int 0, .int 0])), (h1, .inl (k0, 4, .inr (.inr (.inr (.inr (va_up (va_up (va_up (va_up (fun _ => none) 0 (some h2)) 1 (some h3)) 2 (some h4)) 3 (some h5))))))), (h2, .inr (6, [.ref z6, .int 0])), (h3, .inr (6, [.ref z7, .int 0])), (h4, .inr (6, [.ref z8, .int 0])), (h5, .inr (6, [.ref z9, .int 0]))] H := hP
  have hD : va_D A [(h0, .inr (7, [.ref h1, .ref z1, .ref z2, .ref z3, .ref z4, .ref z5, .int 0, .int 0, .int 0])), (h1, .inl (k0, 4, .inr (.inr (.inr (.inr (va_up (va_up (va_up (va_up (fun _ => none) 0 (some h2)) 1 (some h3)) 2 (some h4)) 3 (some h5))))))), (h2, .inr (6, [.ref z6, .int 0])), (h3, .inr (6, [.ref z7, .int 0])), (h4, .inr (6, [.ref z8, .int 0])), (h5, .inr (6, [.ref z9, .int 0]))] := hD
  refine vx_catch (own := RL) (name := "java/lang/IndexOutOfBoundsException") hown (tableOf []) ⟨0, 13, 16, 19⟩ (tableOf []) (by rw [htab]; rfl) (fun z hz => nomatch hz) (by decide +kernel) (by decide) (hts (.classLink RL 19 "java/lang/IndexOutOfBoundsException") (by decide +kernel)) (va_Nw.use rfl g_ca_IO) hce hcv hcl ?_
  refine W.eq (g2 := F0 m 16 ls [.ref q9]) rfl ?_
  refine lv_astore (lv' := [(5, .ref q9), (0, .ref h0), (1, .int i0), (2, .int i1), (3, .int i2), (4, .ref z0)]) hx hb dL_lay_16 hl (by decide) rfl (fun ls hl => ?_)
  refine lv_iconst (v := 1) hx hb dL_lay_18 (by decide) ?_
  exact W.iret (v := 1) hx hb hr (fun t ht hW => ⟨⟨1, (), rfl, rfl, by rw [ht]; exact hP, va_K.moved hW.alike hK, hD⟩, hS.F ht⟩) hS.2.2 dL_lay_19
set_option maxHeartbeats 4000000 in
set_option maxRecDepth 100000 in
theorem kx_X5_isIn_4 (l : Launch) (dC : Nat → ClassId) (dI : Nat → Nat → Nat) (sz : Nat) (i0 : Int32) (i0_l : (1 : Int) ≤ i0.toInt) (i0_u : i0.toInt ≤ (2147483647 : Int)) : Met l yX5_isIn wsX5_isIn ({ frames := 0, cells := 0, slots := 0, locals := 0 }) (va_Pc [.int i0, .int 0, .int 0] (fun U => U.heap.size = sz ∧ va_P (dC, dI) vwCl [] U.heap ∧ va_K (dC, dI) vwCl [] U ∧ va_D (fun _ => True) [])) (va_Qi (fun (r : Int32) (_ : Unit) => r = 0) (fun (_ : Unit) (t : State) => va_P (dC, dI) vwCl [] t.heap ∧ va_K (dC, dI) vwCl [] t ∧ va_D (va_A [] sz) []) (va_A [] sz)) 0 0 (va_A [] sz) := by
  refine Met.ofW (cc := cX5_isIn) (maxL := 3) (ret := (some .boolean)) (by decide) rfl ?_
  intro p e s m args below meth c s₁ B hml hv
  obtain ⟨rfl, hsz, hP, hK, hD0⟩ := hv
  have hx := B.exec
  have hb := B.bytes
  have hr := B.returns
  have hts := atoms_spec (ws := wsX5_isIn) B.pre
  have hown : s.vm.findClass RX5 = some m.cls := findClass_of_methodNamed B.named
  have hlocks := B.notSynchronized
  subst hsz
  have hD := hD0.self (sz := s.heap.size)
  generalize hAe : va_A [] s.heap.size = A at hD ⊢
  have hA : ∀ q : Nat, s.heap.size ≤ q → A q := fun q h => by rw [← hAe]; exact Or.inr h
  have hS : va_S A s.heap s.heap [] := va_S.rf
  have hP : va_P (dC, dI) vwCl [] s.heap := hP
  have hl := lv_entry ([.int i0, .int 0, .int 0]) (n := 3) (Nat.le_of_ble_eq_true rfl)
  rw [lg_entry_eq]
  generalize (lg_sl ([.int i0, .int 0, .int 0]) ++ List.replicate (3 - (lg_sl ([.int i0, .int 0, .int 0])).length) Slot.unset).toArray = ls at hl ⊢
  have hl : lv_has ls 3 [(0, .int i0), (1, .int 0), (2, .int 0)] := hl
  refine lv_iload_n hx hb dX5_isIn_0 rfl (lv_at hl 0 rfl) ?_
  refine lv_iload_n hx hb dX5_isIn_1 rfl (lv_at hl 1 rfl) ?_
  refine lv_icmp_lt (tgt := 14) hx hb dX5_isIn_2 (by decide) (fun c9 => absurd c9 (fun c8 => absurd (Int32.lt_iff_toInt_lt.mp c8) (by rw [show (0 : Int32).toInt = 0 from by decide]; omega))) (fun _ => ?_)
  refine lv_iload_n hx hb dX5_isIn_5 rfl (lv_at hl 0 rfl) ?_
  refine lv_iload_n hx hb dX5_isIn_6 rfl (lv_at hl 2 rfl) ?_
  refine lv_icmp_gt (tgt := 14) hx hb dX5_isIn_7 (by decide) (fun _ => ?_) (fun c9 => absurd (Int32.lt_iff_toInt_lt.mpr (by rw [show (0 : Int32).toInt = 0 from by decide]; omega)) c9)
  refine lv_iconst (v := 0) hx hb dX5_isIn_14 (by decide) ?_
  exact W.zret (v := 0) hx hb hr (by decide) (fun t ht hW => ⟨⟨0, (), rfl, rfl, by rw [ht]; exact hP, va_K.moved hW.alike hK, hD⟩, hS.F ht⟩) hS.2.2 dX5_isIn_15
set_option maxHeartbeats 4000000 in
set_option maxRecDepth 100000 in
theorem kx_X5_lay_5 (l : Launch) (dC : Nat → ClassId) (dI : Nat → Nat → Nat) (ge5 gea gv5 gva gde gic gi0 : Nat) (h0 : Nat) (h1 : Nat) (z0 : Nat) (z1 : Nat) (k0 : ClassId) (sz : Nat) (i0 : Int32) (i0_l : (0 : Int) ≤ i0.toInt) (i0_u : i0.toInt ≤ (3 : Int)) (i1 : Int32) (i1_l : (1 : Int) ≤ i1.toInt) (i1_u : i1.toInt ≤ (2147483647 : Int)) (i2 : Int32) (i2_l : (0 : Int) ≤ i2.toInt) (i2_u : i2.toInt ≤ (3 : Int)) : Met l yX5_lay wsX5_lay ({ frames := 2, cells := 0, slots := 0, locals := 42 }) (va_Pc [.ref h0, .int i0, .int i1, .int i2] (fun U => U.heap.size = sz ∧ va_P (dC, dI) vwCl [(h0, .inr (9, [.int 0, .ref h1, .ref z0, .ref z1, .int 0, .int 0, .int 0])), (h1, .inl (k0, 4, .inr (.inr (.inr (.inr (va_up (va_up (va_up (va_up (fun _ => none) 0 (some ge5)) 1 (some ge5)) 2 (some ge5)) 3 (some ge5)))))))] U.heap ∧ va_K (dC, dI) vwCl [(k0, .object "java/lang/String")] U ∧ va_D (fun _ => True) [(h0, .inr (9, [.int 0, .ref h1, .ref z0, .ref z1, .int 0, .int 0, .int 0])), (h1, .inl (k0, 4, .inr (.inr (.inr (.inr (va_up (va_up (va_up (va_up (fun _ => none) 0 (some ge5)) 1 (some ge5)) 2 (some ge5)) 3 (some ge5)))))))] ∧ gv ge5 gea gv5 gva gde gic gi0 (va_A [(h0, .inr (9, [.int 0, .ref h1, .ref z0, .ref z1, .int 0, .int 0, .int 0])), (h1, .inl (k0, 4, .inr (.inr (.inr (.inr (va_up (va_up (va_up (va_up (fun _ => none) 0 (some ge5)) 1 (some ge5)) 2 (some ge5)) 3 (some ge5)))))))] sz) U U.heap)) (va_Qi (fun (r : Int32) (_ : Unit) => r = 0) (fun (_ : Unit) (t : State) => va_P (dC, dI) vwCl [(h0, .inr (9, [.int 1, .ref h1, .ref z0, .ref z1, .int 0, .int 0, .int 0]))] t.heap ∧ va_K (dC, dI) vwCl [(k0, .object "java/lang/String")] t ∧ va_D (va_A [(h0, .inr (9, [.int 0, .ref h1, .ref z0, .ref z1, .int 0, .int 0, .int 0])), (h1, .inl (k0, 4, .inr (.inr (.inr (.inr (va_up (va_up (va_up (va_up (fun _ => none) 0 (some ge5)) 1 (some ge5)) 2 (some ge5)) 3 (some ge5)))))))] sz) [(h0, .inr (9, [.int 1, .ref h1, .ref z0, .ref z1, .int 0, .int 0, .int 0]))]) (va_A [(h0, .inr (9, [.int 0, .ref h1, .ref z0, .ref z1, .int 0, .int 0, .int 0])), (h1, .inl (k0, 4, .inr (.inr (.inr (.inr (va_up (va_up (va_up (va_up (fun _ => none) 0 (some ge5)) 1 (some ge5)) 2 (some ge5)) 3 (some ge5)))))))] sz)) 0 0 (va_A [(h0, .inr (9, [.int 0, .ref h1, .ref z0, .ref z1, .int 0, .int 0, .int 0])), (h1, .inl (k0, 4, .inr (.inr (.inr (.inr (va_up (va_up (va_up (va_up (fun _ => none) 0 (some ge5)) 1 (some ge5)) 2 (some ge5)) 3 (some ge5)))))))] sz) := by
  refine Met.ofW (cc := cX5_lay) (maxL := 5) (ret := (some .int)) (by decide) rfl ?_
  intro p e s m args below meth c s₁ B hml hv
  obtain ⟨rfl, hsz, hP, hK, hD0, hG⟩ := hv
  have hx := B.exec
  have hb := B.bytes
  have hr := B.returns
  have hts := atoms_spec (ws := wsX5_lay) B.pre
  have hown : s.vm.findClass RX5 = some m.cls := findClass_of_methodNamed B.named
  have hlocks := B.notSynchronized
  subst hsz
  have hD := hD0.self (sz := s.heap.size)
  generalize hAe : va_A [(h0, .inr (9, [.int 0, .ref h1, .ref z0, .ref z1, .int 0, .int 0, .int 0])), (h1, .inl (k0, 4, .inr (.inr (.inr (.inr (va_up (va_up (va_up (va_up (fun _ => none) 0 (some ge5)) 1 (some ge5)) 2 (some ge5)) 3 (some ge5)))))))] s.heap.size = A at hD hG ⊢
  obtain ⟨⟨g_AO_Text, g_AO_String, g_AO_Object, g_nm_RX1_20, g_nm_RX0_17, g_nm_RX3_31, g_nm_RX2_44, g_nm_RL_121, g_nf_RL_13, g_nf_RL_47, g_ca_IO, g_ca_IA, g_ca_IS, g_ca_IntObj, g_ca_StrObj, g_de_RT, g_de_EX, g_de_TH, g_nc_IA_IO, g_nc_IS_IO, g_nc_IS_IA⟩, ⟨g_s3, g_s5, g_sa, g_x278, g_x280, g_x282, g_x284, g_x286, g_x180, g_x238, g_x250⟩, ⟨g_o5, g_c5, g_v5, g_t5, g_oa, g_ca, g_va, g_ta, g_zc, g_zd, g_td, g_zf, g_zU, g_zN, g_zh, g_zk, g_tk, g_oi, g_vi⟩⟩ := id hG
  have hA : ∀ q : Nat, s.heap.size ≤ q → A q := fun q h => by rw [← hAe]; exact Or.inr h
  have hS : va_S A s.heap s.heap [] := va_S.rf
  have hP : va_P (dC, dI) vwCl [(h0, .inr (9, [.int 0, .ref h1, .ref z0, .ref z1, .int 0, .int 0, .int 0])), (h1, .inl (k0, 4, .inr (.inr (.inr (.inr (va_up (va_up (va_up (va_up (fun _ => none) 0 (some ge5)) 1 (some ge5)) 2 (some ge5)) 3 (some ge5)))))))] s.heap := hP
  have hl := lv_entry ([.ref h0, .int i0, .int i1, .int i2]) (n := 5) (Nat.le_of_ble_eq_true rfl)
  rw [lg_entry_eq]
  generalize (lg_sl ([.ref h0, .int i0, .int i1, .int i2]) ++ List.replicate (5 - (lg_sl ([.ref h0, .int i0, .int i1, .int i2])).length) Slot.unset).toArray = ls at hl ⊢
  have hl : lv_has ls 5 [(0, .ref h0), (1, .int i0), (2, .int i1), (3, .int i2)] := hl
  refine lv_aload_n hx hb dX5_lay_0 rfl (lv_at hl 0 rfl) ?_
  refine lv_iload_n hx hb dX5_lay_1 rfl (lv_at hl 1 rfl) ?_
  have hPc := hP.sub (ws' := []) [] rfl
  have hDc := hD.sub (ws' := []) [] (by decide) rfl
  have hKc := hK.sub (tys' := []) [] rfl
  have hFc := va_free (wc := []) hD hS hA [] rfl
  refine va_calli (va_runS (As := [.int i0]) (rest := [.ref h0]) ⟨hx, hb, hml, hown, hts⟩ (kx_X5_isNo_0 l dC dI s.heap.size i0 i0_l i0_u) (cwS 1 hts gX5_lay_X5_isNo rfl rfl rfl (by decide +kernel) ⟨Nat.le_of_ble_eq_true rfl, Nat.le_of_ble_eq_true rfl⟩) ⟨fun a U g mk q => by obtain ⟨q0, q1, qP, qK, qD⟩ := q; exact ⟨q0, q1, qP, va_K.moved (u := U) (U := U.calling g mk a) (Vm.Alike.refl U.vm) qK, qD⟩, fun U hU hW => ⟨rfl, by rw [hU], by rw [hU]; exact hPc, va_K.moved hW.alike hKc, hDc.weaken (fun _ _ _ _ => trivial)⟩⟩ rfl rfl hl.1 rfl (lv_room (Nat.le_of_ble_eq_true rfl)) dX5_lay_2 ⟨Nat.le_of_ble_eq_true rfl, Nat.le_of_ble_eq_true rfl⟩) hS (fun q _ h => hFc q h) hFc (fun r9 u t H1 locs ht hvm hw hB hz1 hk1 hS => ?_)
  obtain rfl := hw
  obtain ⟨hP1, hK1, hD1⟩ := hB
  rw [ht] at hP1
  have hK1 := va_K.moved hvm.symm hK1
  obtain ⟨hP, hD⟩ := va_join (wr := [(h0, .inr (9, [.int 0, .ref h1, .ref z0, .ref z1, .int 0, .int 0, .int 0])), (h1, .inl (k0, 4, .inr (.inr (.inr (.inr (va_up (va_up (va_up (va_up (fun _ => none) 0 (some ge5)) 1 (some ge5)) 2 (some ge5)) 3 (some ge5)))))))]) (w1 := []) hP hD [] [0, 1] rfl rfl (by decide) (by decide) hk1 hFc hP1 hD1
  generalize H1 = H at hP hS ⊢
  have hP : va_P (dC, dI) vwCl [(h0, .inr (9, [.int 0, .ref h1, .ref z0, .ref z1, .int 0, .int 0, .int 0])), (h1, .inl (k0, 4, .inr (.inr (.inr (.inr (va_up (va_up (va_up (va_up (fun _ => none) 0 (some ge5)) 1 (some ge5)) 2 (some ge5)) 3 (some ge5)))))))] H := hP
  have hD : va_D A [(h0, .inr (9, [.int 0, .ref h1, .ref z0, .ref z1, .int 0, .int 0, .int 0])), (h1, .inl (k0, 4, .inr (.inr (.inr (.inr (va_up (va_up (va_up (va_up (fun _ => none) 0 (some ge5)) 1 (some ge5)) 2 (some ge5)) 3 (some ge5)))))))] := hD
  refine lv_if_ne (tgt := 32) hx hb dX5_lay_5 (by decide) (fun c9 => absurd (by decide) c9) (fun _ => ?_)
  refine lv_iload_n hx hb dX5_lay_8 rfl (lv_at hl 3 rfl) ?_
  have hPc := hP.sub (ws' := []) [] rfl
  have hDc := hD.sub (ws' := []) [] (by decide) rfl
  have hKc := hK.sub (tys' := []) [] rfl
  have hFc := va_free (wc := []) hD hS hA [] rfl
  refine va_calli (va_runS (As := [.int i2]) (rest := [.ref h0]) ⟨hx, hb, hml, hown, hts⟩ (kx_X5_isNo_0 l dC dI H.size i2 i2_l i2_u) (cwS 1 hts gX5_lay_X5_isNo rfl rfl rfl (by decide +kernel) ⟨Nat.le_of_ble_eq_true rfl, Nat.le_of_ble_eq_true rfl⟩) ⟨fun a U g mk q => by obtain ⟨q0, q1, qP, qK, qD⟩ := q; exact ⟨q0, q1, qP, va_K.moved (u := U) (U := U.calling g mk a) (Vm.Alike.refl U.vm) qK, qD⟩, fun U hU hW => ⟨rfl, by rw [hU], by rw [hU]; exact hPc, va_K.moved hW.alike hKc, hDc.weaken (fun _ _ _ _ => trivial)⟩⟩ rfl rfl hl.1 rfl (lv_room (Nat.le_of_ble_eq_true rfl)) dX5_lay_9 ⟨Nat.le_of_ble_eq_true rfl, Nat.le_of_ble_eq_true rfl⟩) hS (fun q _ h => hFc q h) hFc (fun r9 u t H1 locs ht hvm hw hB hz1 hk1 hS => ?_)
  obtain rfl := hw
  obtain ⟨hP1, hK1, hD1⟩ := hB
  rw [ht] at hP1
  have hK1 := va_K.moved hvm.symm hK1
  obtain ⟨hP, hD⟩ := va_join (wr := [(h0, .inr (9, [.int 0, .ref h1, .ref z0, .ref z1, .int 0, .int 0, .int 0])), (h1, .inl (k0, 4, .inr (.inr (.inr (.inr (va_up (va_up (va_up (va_up (fun _ => none) 0 (some ge5)) 1 (some ge5)) 2 (some ge5)) 3 (some ge5)))))))]) (w1 := []) hP hD [] [0, 1] rfl rfl (by decide) (by decide) hk1 hFc hP1 hD1
  generalize H1 = H at hP hS ⊢
  have hP : va_P (dC, dI) vwCl [(h0, .inr (9, [.int 0, .ref h1, .ref z0, .ref z1, .int 0, .int 0, .int 0])), (h1, .inl (k0, 4, .inr (.inr (.inr (.inr (va_up (va_up (va_up (va_up (fun _ => none) 0 (some ge5)) 1 (some ge5)) 2 (some ge5)) 3 (some ge5)))))))] H := hP
  have hD : va_D A [(h0, .inr (9, [.int 0, .ref h1, .ref z0, .ref z1, .int 0, .int 0, .int 0])), (h1, .inl (k0, 4, .inr (.inr (.inr (.inr (va_up (va_up (va_up (va_up (fun _ => none) 0 (some ge5)) 1 (some ge5)) 2 (some ge5)) 3 (some ge5)))))))] := hD
  refine lv_if_ne (tgt := 32) hx hb dX5_lay_12 (by decide) (fun c9 => absurd (by decide) c9) (fun _ => ?_)
  refine lv_iload_n hx hb dX5_lay_15 rfl (lv_at hl 2 rfl) ?_
  refine lv_iconst (v := 0) hx hb dX5_lay_16 (by decide) ?_
  refine lv_aload_n hx hb dX5_lay_17 rfl (lv_at hl 0 rfl) ?_
  refine va_get (D := (dC, dI)) (ci := 9) (v := .ref h1) (C := RX5) (T := TX5) (N := 7) hx hb hts (by decide +kernel) hown hK hP 0 rfl rfl 1 (by decide) (hts (.fieldLink RX5 11 "RewriteropeModel" "ropes" "[Ljava/lang/String;") (by decide +kernel)) (fun _ h9 => h9) rfl dX5_lay_18 ?_
  refine lv_iload_n hx hb dX5_lay_21 rfl (lv_at hl 1 rfl) ?_
  refine va_aldq (D := (dC, dI)) hx hb hK hP 1 0 rfl rfl (kz_in4 i0_l i0_u) dX5_lay_22 ?_
  rw [show (va_up (va_up (va_up (va_up (fun _ => none) 0 (some ge5)) 1 (some ge5)) 2 (some ge5)) 3 (some ge5)) i0.toNatClampNeg = some ge5 from (kz_ix4 (P := fun z => (va_up (va_up (va_up (va_up (fun _ => none) 0 (some ge5)) 1 (some ge5)) 2 (some ge5)) 3 (some ge5)) z.toNatClampNeg = some ge5) rfl rfl rfl rfl i0_l i0_u)]
  refine W.eq (g2 := F0 m 23 ls [.ref ge5, .int 0, .int i1, .ref h0]) rfl ?_
  have hPc := hP.sub (ws' := []) [] rfl
  have hDc := hD.sub (ws' := []) [] (by decide) rfl
  have hKc := hK.sub (tys' := []) [] rfl
  have hFc := va_free (wc := []) hD hS hA [] rfl
  refine va_calli (va_runV (As := []) (rest := [.int 0, .int i1, .ref h0]) ⟨hx, hb, hml, hown, hts⟩ (kx_J0_length_8abf5_0 l dC dI ge5 gea gv5 gva gde gic gi0 H.size) (cwV 0 hts gX5_lay_J0_length_8abf5 rfl rfl rfl (by decide +kernel) ⟨Nat.le_of_ble_eq_true rfl, Nat.le_of_ble_eq_true rfl⟩) ⟨fun a U g mk q => by obtain ⟨q0, q1, qP, qK, qD, qG⟩ := q; exact ⟨q0, q1, qP, va_K.moved (u := U) (U := U.calling g mk a) (Vm.Alike.refl U.vm) qK, qD, gv.fb qG⟩, (by obtain ⟨cell, k1, k2, k3, -⟩ := g_o5.kept hS.2.1; exact ⟨cell, k1, k2, k3⟩), fun U hU hW => ⟨rfl, by rw [hU], by rw [hU]; exact hPc, va_K.moved hW.alike hKc, hDc.weaken (fun _ _ _ _ => trivial), gv.pass hW hU hS hFc hG⟩⟩ rfl rfl hl.1 rfl (lv_room (Nat.le_of_ble_eq_true rfl)) dX5_lay_23 ⟨Nat.le_of_ble_eq_true rfl, Nat.le_of_ble_eq_true rfl⟩) hS (fun q _ h => hFc q h) hFc (fun r9 u t H1 locs ht hvm hw hB hz1 hk1 hS => ?_)
  obtain rfl := hw
  obtain ⟨hP1, hK1, hD1⟩ := hB
  rw [ht] at hP1
  have hK1 := va_K.moved hvm.symm hK1
  obtain ⟨hP, hD⟩ := va_join (wr := [(h0, .inr (9, [.int 0, .ref h1, .ref z0, .ref z1, .int 0, .int 0, .int 0])), (h1, .inl (k0, 4, .inr (.inr (.inr (.inr (va_up (va_up (va_up (va_up (fun _ => none) 0 (some ge5)) 1 (some ge5)) 2 (some ge5)) 3 (some ge5)))))))]) (w1 := []) hP hD [] [0, 1] rfl rfl (by decide) (by decide) hk1 hFc hP1 hD1
  generalize H1 = H at hP hS ⊢
  have hP : va_P (dC, dI) vwCl [(h0, .inr (9, [.int 0, .ref h1, .ref z0, .ref z1, .int 0, .int 0, .int 0])), (h1, .inl (k0, 4, .inr (.inr (.inr (.inr (va_up (va_up (va_up (va_up (fun _ => none) 0 (some ge5)) 1 (some ge5)) 2 (some ge5)) 3 (some ge5)))))))] H := hP
  have hD : va_D A [(h0, .inr (9, [.int 0, .ref h1, .ref z0, .ref z1, .int 0, .int 0, .int 0])), (h1, .inl (k0, 4, .inr (.inr (.inr (.inr (va_up (va_up (va_up (va_up (fun _ => none) 0 (some ge5)) 1 (some ge5)) 2 (some ge5)) 3 (some ge5)))))))] := hD
  have hPc := hP.sub (ws' := []) [] rfl
  have hDc := hD.sub (ws' := []) [] (by decide) rfl
  have hKc := hK.sub (tys' := []) [] rfl
  have hFc := va_free (wc := []) hD hS hA [] rfl
  refine va_calli (va_runS (As := [.int i1, .int 0, .int 0]) (rest := [.ref h0]) ⟨hx, hb, hml, hown, hts⟩ (kx_X5_isIn_4 l dC dI H.size i1 i1_l i1_u) (cwS 3 hts gX5_lay_X5_isIn rfl rfl rfl (by decide +kernel) ⟨Nat.le_of_ble_eq_true rfl, Nat.le_of_ble_eq_true rfl⟩) ⟨fun a U g mk q => by obtain ⟨q0, q1, qP, qK, qD⟩ := q; exact ⟨q0, q1, qP, va_K.moved (u := U) (U := U.calling g mk a) (Vm.Alike.refl U.vm) qK, qD⟩, fun U hU hW => ⟨rfl, by rw [hU], by rw [hU]; exact hPc, va_K.moved hW.alike hKc, hDc.weaken (fun _ _ _ _ => trivial)⟩⟩ rfl rfl hl.1 rfl (lv_room (Nat.le_of_ble_eq_true rfl)) dX5_lay_26 ⟨Nat.le_of_ble_eq_true rfl, Nat.le_of_ble_eq_true rfl⟩) hS (fun q _ h => hFc q h) hFc (fun r9 u t H1 locs ht hvm hw hB hz1 hk1 hS => ?_)
  obtain rfl := hw
  obtain ⟨hP1, hK1, hD1⟩ := hB
  rw [ht] at hP1
  have hK1 := va_K.moved hvm.symm hK1
  obtain ⟨hP, hD⟩ := va_join (wr := [(h0, .inr (9, [.int 0, .ref h1, .ref z0, .ref z1, .int 0, .int 0, .int 0])), (h1, .inl (k0, 4, .inr (.inr (.inr (.inr (va_up (va_up (va_up (va_up (fun _ => none) 0 (some ge5)) 1 (some ge5)) 2 (some ge5)) 3 (some ge5)))))))]) (w1 := []) hP hD [] [0, 1] rfl rfl (by decide) (by decide) hk1 hFc hP1 hD1
  generalize H1 = H at hP hS ⊢
  have hP : va_P (dC, dI) vwCl [(h0, .inr (9, [.int 0, .ref h1, .ref z0, .ref z1, .int 0, .int 0, .int 0])), (h1, .inl (k0, 4, .inr (.inr (.inr (.inr (va_up (va_up (va_up (va_up (fun _ => none) 0 (some ge5)) 1 (some ge5)) 2 (some ge5)) 3 (some ge5)))))))] H := hP
  have hD : va_D A [(h0, .inr (9, [.int 0, .ref h1, .ref z0, .ref z1, .int 0, .int 0, .int 0])), (h1, .inl (k0, 4, .inr (.inr (.inr (.inr (va_up (va_up (va_up (va_up (fun _ => none) 0 (some ge5)) 1 (some ge5)) 2 (some ge5)) 3 (some ge5)))))))] := hD
  refine lv_if_ne (tgt := 36) hx hb dX5_lay_29 (by decide) (fun c9 => absurd (by decide) c9) (fun _ => ?_)
  refine lv_iconst (v := 1) hx hb dX5_lay_32 (by decide) ?_
  refine lv_goto (tgt := 37) hx hb dX5_lay_33 (by decide) ?_
  refine lv_iconst (v := 0) hx hb dX5_lay_37 (by decide) ?_
  refine lv_iconst (v := 0) hx hb dX5_lay_38 (by decide) ?_
  have hPc := hP.sub (ws' := [(h0, .inr (9, [.int 0, .ref h1, .ref z0, .ref z1, .int 0, .int 0, .int 0]))]) [0] rfl
  have hDc := hD.sub (ws' := [(h0, .inr (9, [.int 0, .ref h1, .ref z0, .ref z1, .int 0, .int 0, .int 0]))]) [0] (by decide) rfl
  have hKc := hK.sub (tys' := []) [] rfl
  have hFc := va_free (wc := [(h0, .inr (9, [.int 0, .ref h1, .ref z0, .ref z1, .int 0, .int 0, .int 0]))]) hD hS hA [0] rfl
  refine va_calli (va_runV (As := [.int 1, .int 0, .int 0]) (rest := []) ⟨hx, hb, hml, hown, hts⟩ (kx_X5_fails_1 l dC dI h0 h1 z0 z1 H.size) (cwV 3 hts gX5_lay_X5_fails rfl rfl rfl (by decide +kernel) ⟨Nat.le_of_ble_eq_true rfl, Nat.le_of_ble_eq_true rfl⟩) ⟨fun a U g mk q => by obtain ⟨q0, q1, qP, qK, qD⟩ := q; exact ⟨q0, q1, qP, va_K.moved (u := U) (U := U.calling g mk a) (Vm.Alike.refl U.vm) qK, qD⟩, va_recv hKc hPc (ci := 9) (q0 := 0) rfl rfl, fun U hU hW => ⟨rfl, by rw [hU], by rw [hU]; exact hPc, va_K.moved hW.alike hKc, hDc.weaken (fun _ _ _ _ => trivial)⟩⟩ rfl rfl hl.1 rfl (lv_room (Nat.le_of_ble_eq_true rfl)) dX5_lay_39 ⟨Nat.le_of_ble_eq_true rfl, Nat.le_of_ble_eq_true rfl⟩) hS (fun q _ h => hFc q h) hFc (fun r9 u t H1 locs ht hvm hw hB hz1 hk1 hS => ?_)
  obtain rfl := hw
  obtain ⟨hP1, hK1, hD1⟩ := hB
  rw [ht] at hP1
  have hK1 := va_K.moved hvm.symm hK1
  obtain ⟨hP, hD⟩ := va_join (wr := [(h1, .inl (k0, 4, .inr (.inr (.inr (.inr (va_up (va_up (va_up (va_up (fun _ => none) 0 (some ge5)) 1 (some ge5)) 2 (some ge5)) 3 (some ge5)))))))]) (w1 := [(h0, .inr (9, [.int 1, .ref h1, .ref z0, .ref z1, .int 0, .int 0, .int 0]))]) hP hD [0] [1] rfl rfl (by decide) (by decide) hk1 hFc hP1 hD1
  generalize H1 = H at hP hS ⊢
  have hP : va_P (dC, dI) vwCl [(h1, .inl (k0, 4, .inr (.inr (.inr (.inr (va_up (va_up (va_up (va_up (fun _ => none) 0 (some ge5)) 1 (some ge5)) 2 (some ge5)) 3 (some ge5))))))), (h0, .inr (9, [.int 1, .ref h1, .ref z0, .ref z1, .int 0, .int 0, .int 0]))] H := hP
  have hD : va_D A [(h1, .inl (k0, 4, .inr (.inr (.inr (.inr (va_up (va_up (va_up (va_up (fun _ => none) 0 (some ge5)) 1 (some ge5)) 2 (some ge5)) 3 (some ge5))))))), (h0, .inr (9, [.int 1, .ref h1, .ref z0, .ref z1, .int 0, .int 0, .int 0]))] := hD
  refine lv_if_eq (tgt := 47) hx hb dX5_lay_42 (by decide) (fun c9 => absurd c9 (by decide)) (fun _ => ?_)
  refine lv_iconst (v := 0) hx hb dX5_lay_45 (by decide) ?_
  have hP := hP.sub (ws' := [(h0, .inr (9, [.int 1, .ref h1, .ref z0, .ref z1, .int 0, .int 0, .int 0])), (h1, .inl (k0, 4, .inr (.inr (.inr (.inr (va_up (va_up (va_up (va_up (fun _ => none) 0 (some ge5)) 1 (some ge5)) 2 (some ge5)) 3 (some ge5)))))))]) [1, 0] rfl
  have hD := hD.sub (ws' := [(h0, .inr (9, [.int 1, .ref h1, .ref z0, .ref z1, .int 0, .int 0, .int 0])), (h1, .inl (k0, 4, .inr (.inr (.inr (.inr (va_up (va_up (va_up (va_up (fun _ => none) 0 (some ge5)) 1 (some ge5)) 2 (some ge5)) 3 (some ge5)))))))]) [1, 0] (by decide) rfl
  have hP := hP.sub (ws' := [(h0, .inr (9, [.int 1, .ref h1, .ref z0, .ref z1, .int 0, .int 0, .int 0]))]) [0] rfl
  have hD := hD.sub (ws' := [(h0, .inr (9, [.int 1, .ref h1, .ref z0, .ref z1, .int 0, .int 0, .int 0]))]) [0] (by decide) rfl
  exact W.iret (v := 0) hx hb hr (fun t ht hW => ⟨⟨0, (), rfl, rfl, by rw [ht]; exact hP, va_K.moved hW.alike hK, hD⟩, hS.F ht⟩) hS.2.2 dX5_lay_46
set_option maxHeartbeats 4000000 in
set_option maxRecDepth 100000 in
theorem kx_J5_init_d00df_0 (l : Launch) (dC : Nat → ClassId) (dI : Nat → Nat → Nat) (ge5 gea gv5 gva gde gic gi0 : Nat) (h0 : Nat) (sz : Nat) : Met l yJ5_init_d00df wsJ5_init_d00df ({ frames := 1, cells := 1, slots := 16, locals := 12 }) (va_Pc [.ref h0, .int 16] (fun U => U.heap.size = sz ∧ va_P (dC, dI) vwCl [(h0, .inr (1, [.null, .int 0, .int 0, .int 0]))] U.heap ∧ va_K (dC, dI) vwCl [] U ∧ va_D (fun _ => True) [(h0, .inr (1, [.null, .int 0, .int 0, .int 0]))] ∧ gv ge5 gea gv5 gva gde gic gi0 (va_A [(h0, .inr (1, [.null, .int 0, .int 0, .int 0]))] sz) U U.heap)) (va_Qv (fun _ : Unit => True) (fun (_ : Unit) (t : State) => ∃ q1 : Nat, ∃ cq1 : ClassId, va_P (dC, dI) vwCl [(h0, .inr (1, [.ref q1, .int 0, .int 0, .int 0])), (q1, .inl (cq1, 16, .inl (fun _ => 0)))] t.heap ∧ va_K (dC, dI) vwCl [(cq1, .byte)] t ∧ va_D (va_A [(h0, .inr (1, [.null, .int 0, .int 0, .int 0]))] sz) [(h0, .inr (1, [.ref q1, .int 0, .int 0, .int 0])), (q1, .inl (cq1, 16, .inl (fun _ => 0)))]) (va_A [(h0, .inr (1, [.null, .int 0, .int 0, .int 0]))] sz)) 1 16 (va_A [(h0, .inr (1, [.null, .int 0, .int 0, .int 0]))] sz) := by
  refine Met.ofW (cc := cJ5_init_d00df) (maxL := 2) (ret := none) (by decide) rfl ?_
  intro p e s m args below meth c s₁ B hml hv
  obtain ⟨rfl, hsz, hP, hK, hD0, hG⟩ := hv
  have hx := B.exec
  have hb := B.bytes
  have hr := B.returns
  have hts := atoms_spec (ws := wsJ5_init_d00df) B.pre
  have hown : s.vm.findClass RJ5 = some m.cls := findClass_of_methodNamed B.named
  have hlocks := B.notSynchronized
  have hin : meth.name = "<init>" := (name_of_methodNamed B.named B.method).1
  subst hsz
  have hD := hD0.self (sz := s.heap.size)
  generalize hAe : va_A [(h0, .inr (1, [.null, .int 0, .int 0, .int 0]))] s.heap.size = A at hD hG ⊢
  obtain ⟨⟨g_AO_Text, g_AO_String, g_AO_Object, g_nm_RX1_20, g_nm_RX0_17, g_nm_RX3_31, g_nm_RX2_44, g_nm_RL_121, g_nf_RL_13, g_nf_RL_47, g_ca_IO, g_ca_IA, g_ca_IS, g_ca_IntObj, g_ca_StrObj, g_de_RT, g_de_EX, g_de_TH, g_nc_IA_IO, g_nc_IS_IO, g_nc_IS_IA⟩, ⟨g_s3, g_s5, g_sa, g_x278, g_x280, g_x282, g_x284, g_x286, g_x180, g_x238, g_x250⟩, ⟨g_o5, g_c5, g_v5, g_t5, g_oa, g_ca, g_va, g_ta, g_zc, g_zd, g_td, g_zf, g_zU, g_zN, g_zh, g_zk, g_tk, g_oi, g_vi⟩⟩ := id hG
  have hA : ∀ q : Nat, s.heap.size ≤ q → A q := fun q h => by rw [← hAe]; exact Or.inr h
  have hS : va_S A s.heap s.heap [] := va_S.rf
  have hP : va_P (dC, dI) vwCl [(h0, .inr (1, [.null, .int 0, .int 0, .int 0]))] s.heap := hP
  have hl := lv_entry ([.ref h0, .int 16]) (n := 2) (Nat.le_of_ble_eq_true rfl)
  rw [lg_entry_eq]
  generalize (lg_sl ([.ref h0, .int 16]) ++ List.replicate (2 - (lg_sl ([.ref h0, .int 16])).length) Slot.unset).toArray = ls at hl ⊢
  have hl : lv_has ls 2 [(0, .ref h0), (1, .int 16)] := hl
  refine lv_aload_n hx hb dJ5_init_d00df_0 rfl (lv_at hl 0 rfl) ?_
  refine W.objInit hx hb hown (hts (.methodLink RJ5 3 objectInit) (by decide +kernel)) (hts (.instanceMethod objectInit) (by decide +kernel)) (hts (.code objectInit ⟨#[0xb1]⟩ 1 none) (by decide +kernel)) rfl (by rw [hml]; exact hl.1) rfl dJ5_init_d00df_1 (Nat.le_of_ble_eq_true rfl) (Nat.le_of_ble_eq_true rfl) ?_
  refine W.eq (g2 := F0 m 4 ls []) rfl ?_
  refine va_gets (v := .int 1) hx hb g_zc hS hown (hts (.fieldLink RJ5 18 "java/lang/String" "COMPACT_STRINGS" "Z") (by decide +kernel)) (fun _ h9 => h9) dJ5_init_d00df_4 ?_
  refine lv_if_eq (tgt := 25) hx hb dJ5_init_d00df_7 (by decide) (fun c9 => absurd c9 (by decide)) (fun _ => ?_)
  refine lv_aload_n hx hb dJ5_init_d00df_10 rfl (lv_at hl 0 rfl) ?_
  refine lv_iload_n hx hb dJ5_init_d00df_11 rfl (lv_at hl 1 rfl) ?_
  refine va_newa (D := (dC, dI)) (atype := .byte) (ty := .byte) (a0 := (16, .inl (fun _ => 0))) (n := 16) (N' := 16) hx hb (hts (.arrayClass .byte) (by decide +kernel)) rfl hK hP hD hS hA (fun _ => rfl) (by decide) (by decide) (Nat.le_of_ble_eq_true rfl) (Nat.le_of_ble_eq_true rfl) (Nat.le_of_ble_eq_true rfl) dJ5_init_d00df_12 (fun q1 cq1 H hK hP hD hS => ?_)
  have hK : va_K (dC, dI) vwCl [(cq1, .byte)] s := hK
  have hP : va_P (dC, dI) vwCl [(h0, .inr (1, [.null, .int 0, .int 0, .int 0])), (q1, .inl (cq1, 16, .inl (fun _ => 0)))] H := hP
  have hD : va_D A [(h0, .inr (1, [.null, .int 0, .int 0, .int 0])), (q1, .inl (cq1, 16, .inl (fun _ => 0)))] := hD
  refine W.widen (k := 1) (n := 16) (by omega) (by omega) ?_
  refine va_put (D := (dC, dI)) (ci := 1) (v := .ref q1) (ty := .array .byte) (C := RJ4) (T := TJ4) (N := 4) hx hb hts (by decide +kernel) tyJ4 tyJ4_ok nmJ4 hown hK hP hD hS 0 rfl rfl 0 (by decide) (hts (.fieldLink RJ5 15 "java/lang/AbstractStringBuilder" "value" "[B") (by decide +kernel)) (fun _ h9 => h9) rfl (by decide +kernel) rfl rfl (Nat.le_of_ble_eq_true rfl) dJ5_init_d00df_14 (fun H locs hP hD hS => ?_)
  have hP : va_P (dC, dI) vwCl [(h0, .inr (1, [.ref q1, .int 0, .int 0, .int 0])), (q1, .inl (cq1, 16, .inl (fun _ => 0)))] H := hP
  have hD : va_D A [(h0, .inr (1, [.ref q1, .int 0, .int 0, .int 0])), (q1, .inl (cq1, 16, .inl (fun _ => 0)))] := hD
  refine lv_aload_n hx hb dJ5_init_d00df_17 rfl (lv_at hl 0 rfl) ?_
  refine lv_iconst (v := 0) hx hb dJ5_init_d00df_18 (by decide) ?_
  refine va_put (D := (dC, dI)) (ci := 1) (v := .int 0) (ty := .byte) (C := RJ4) (T := TJ4) (N := 4) hx hb hts (by decide +kernel) tyJ4 tyJ4_ok nmJ4 hown hK hP hD hS 0 rfl rfl 1 (by decide) (hts (.fieldLink RJ5 22 "java/lang/AbstractStringBuilder" "coder" "B") (by decide +kernel)) (fun _ h9 => h9) rfl (by decide +kernel) rfl rfl (Nat.le_of_ble_eq_true rfl) dJ5_init_d00df_19 (fun H locs hP hD hS => ?_)
  have hP : va_P (dC, dI) vwCl [(h0, .inr (1, [.ref q1, .int 0, .int 0, .int 0])), (q1, .inl (cq1, 16, .inl (fun _ => 0)))] H := hP
  have hD : va_D A [(h0, .inr (1, [.ref q1, .int 0, .int 0, .int 0])), (q1, .inl (cq1, 16, .inl (fun _ => 0)))] := hD
  refine lv_goto (tgt := 38) hx hb dJ5_init_d00df_22 (by decide) ?_
  exact W.vret hx hb hr (fun t ht hW => ⟨⟨(), rfl, trivial, q1, cq1, by rw [ht]; exact hP, va_K.moved hW.alike hK, hD⟩, hS.F ht⟩) hS.2.2 dJ5_init_d00df_38
set_option maxHeartbeats 4000000 in
set_option maxRecDepth 100000 in
theorem kx_J4_init_da8c8_0 (l : Launch) (dC : Nat → ClassId) (dI : Nat → Nat → Nat) (ge5 gea gv5 gva gde gic gi0 : Nat) (h0 : Nat) (sz : Nat) : Met l yJ4_init_da8c8 wsJ4_init_da8c8 ({ frames := 2, cells := 1, slots := 16, locals := 33 }) (va_Pc [.ref h0] (fun U => U.heap.size = sz ∧ va_P (dC, dI) vwCl [(h0, .inr (1, [.null, .int 0, .int 0, .int 0]))] U.heap ∧ va_K (dC, dI) vwCl [] U ∧ va_D (fun _ => True) [(h0, .inr (1, [.null, .int 0, .int 0, .int 0]))] ∧ gv ge5 gea gv5 gva gde gic gi0 (va_A [(h0, .inr (1, [.null, .int 0, .int 0, .int 0]))] sz) U U.heap)) (va_Qv (fun _ : Unit => True) (fun (_ : Unit) (t : State) => ∃ q1 : Nat, ∃ cq2 : ClassId, va_P (dC, dI) vwCl [(h0, .inr (1, [.ref q1, .int 0, .int 0, .int 0])), (q1, .inl (cq2, 16, .inl (fun _ => 0)))] t.heap ∧ va_K (dC, dI) vwCl [(cq2, .byte)] t ∧ va_D (va_A [(h0, .inr (1, [.null, .int 0, .int 0, .int 0]))] sz) [(h0, .inr (1, [.ref q1, .int 0, .int 0, .int 0])), (q1, .inl (cq2, 16, .inl (fun _ => 0)))]) (va_A [(h0, .inr (1, [.null, .int 0, .int 0, .int 0]))] sz)) 1 16 (va_A [(h0, .inr (1, [.null, .int 0, .int 0, .int 0]))] sz) := by
  refine Met.ofW (cc := cJ4_init_da8c8) (maxL := 1) (ret := none) (by decide) rfl ?_
  intro p e s m args below meth c s₁ B hml hv
  obtain ⟨rfl, hsz, hP, hK, hD0, hG⟩ := hv
  have hx := B.exec
  have hb := B.bytes
  have hr := B.returns
  have hts := atoms_spec (ws := wsJ4_init_da8c8) B.pre
  have hown : s.vm.findClass RJ4 = some m.cls := findClass_of_methodNamed B.named
  have hlocks := B.notSynchronized
  have hin : meth.name = "<init>" := (name_of_methodNamed B.named B.method).1
  subst hsz
  have hD := hD0.self (sz := s.heap.size)
  generalize hAe : va_A [(h0, .inr (1, [.null, .int 0, .int 0, .int 0]))] s.heap.size = A at hD hG ⊢
  obtain ⟨⟨g_AO_Text, g_AO_String, g_AO_Object, g_nm_RX1_20, g_nm_RX0_17, g_nm_RX3_31, g_nm_RX2_44, g_nm_RL_121, g_nf_RL_13, g_nf_RL_47, g_ca_IO, g_ca_IA, g_ca_IS, g_ca_IntObj, g_ca_StrObj, g_de_RT, g_de_EX, g_de_TH, g_nc_IA_IO, g_nc_IS_IO, g_nc_IS_IA⟩, ⟨g_s3, g_s5, g_sa, g_x278, g_x280, g_x282, g_x284, g_x286, g_x180, g_x238, g_x250⟩, ⟨g_o5, g_c5, g_v5, g_t5, g_oa, g_ca, g_va, g_ta, g_zc, g_zd, g_td, g_zf, g_zU, g_zN, g_zh, g_zk, g_tk, g_oi, g_vi⟩⟩ := id hG
  have hA : ∀ q : Nat, s.heap.size ≤ q → A q := fun q h => by rw [← hAe]; exact Or.inr h
  have hS : va_S A s.heap s.heap [] := va_S.rf
  have hP : va_P (dC, dI) vwCl [(h0, .inr (1, [.null, .int 0, .int 0, .int 0]))] s.heap := hP
  have hl := lv_entry ([.ref h0]) (n := 1) (Nat.le_of_ble_eq_true rfl)
  rw [lg_entry_eq]
  generalize (lg_sl ([.ref h0]) ++ List.replicate (1 - (lg_sl ([.ref h0])).length) Slot.unset).toArray = ls at hl ⊢
  have hl : lv_has ls 1 [(0, .ref h0)] := hl
  refine lv_aload_n hx hb dJ4_init_da8c8_0 rfl (lv_at hl 0 rfl) ?_
  refine lv_bipush (v := 16) hx hb dJ4_init_da8c8_1 (by decide) ?_
  have hPc := hP.sub (ws' := [(h0, .inr (1, [.null, .int 0, .int 0, .int 0]))]) [0] rfl
  have hDc := hD.sub (ws' := [(h0, .inr (1, [.null, .int 0, .int 0, .int 0]))]) [0] (by decide) rfl
  have hKc := hK.sub (tys' := []) [] rfl
  have hFc := va_free (wc := [(h0, .inr (1, [.null, .int 0, .int 0, .int 0]))]) hD hS hA [0] rfl
  refine va_callv (va_runI (As := [.int 16]) (rest := []) ⟨hx, hb, hml, hown, hts⟩ (kx_J5_init_d00df_0 l dC dI ge5 gea gv5 gva gde gic gi0 h0 s.heap.size) (cwI 1 hts gJ4_init_da8c8_J5_init_d00df rfl rfl rfl (hts (.initialized RJ5) (by decide +kernel)) (hts (.methodLink RJ4 1 yJ5_init_d00df) (by decide +kernel)) (hts (.instanceMethod yJ5_init_d00df) (by decide +kernel)) rfl (by decide +kernel) ⟨Nat.le_of_ble_eq_true rfl, Nat.le_of_ble_eq_true rfl⟩) ⟨fun a U g mk q => by obtain ⟨q0, q1, qP, qK, qD, qG⟩ := q; exact ⟨q0, q1, qP, va_K.moved (u := U) (U := U.calling g mk a) (Vm.Alike.refl U.vm) qK, qD, gv.fb qG⟩, fun U hU hW => ⟨rfl, by rw [hU], by rw [hU]; exact hPc, va_K.moved hW.alike hKc, hDc.weaken (fun _ _ _ _ => trivial), gv.pass hW hU hS hFc hG⟩⟩ rfl rfl hl.1 rfl (lv_room (Nat.le_of_ble_eq_true rfl)) dJ4_init_da8c8_3 ⟨Nat.le_of_ble_eq_true rfl, Nat.le_of_ble_eq_true rfl⟩) hS (fun q _ h => hFc q h) hFc (fun u t H1 locs ht hvm hw hB hz1 hk1 hS => ?_)
  obtain ⟨q1, cq2, hP1, hK1, hD1⟩ := hB
  rw [ht] at hP1
  have hK1 := va_K.moved hvm.symm hK1
  obtain ⟨hP, hD⟩ := va_join (wr := []) (w1 := [(h0, .inr (1, [.ref q1, .int 0, .int 0, .int 0])), (q1, .inl (cq2, 16, .inl (fun _ => 0)))]) hP hD [0] [] rfl rfl (by decide) (by decide) hk1 hFc hP1 hD1
  have hK := hK.app (hK1.sub (tys' := [(cq2, .byte)]) [0] rfl)
  generalize H1 = H at hP hS ⊢
  have hK : va_K (dC, dI) vwCl [(cq2, .byte)] s := hK
  have hP : va_P (dC, dI) vwCl [(h0, .inr (1, [.ref q1, .int 0, .int 0, .int 0])), (q1, .inl (cq2, 16, .inl (fun _ => 0)))] H := hP
  have hD : va_D A [(h0, .inr (1, [.ref q1, .int 0, .int 0, .int 0])), (q1, .inl (cq2, 16, .inl (fun _ => 0)))] := hD
  refine W.widen (k := 1) (n := 16) (by omega) (by omega) ?_
  exact W.vret hx hb hr (fun t ht hW => ⟨⟨(), rfl, trivial, q1, cq2, by rw [ht]; exact hP, va_K.moved hW.alike hK, hD⟩, hS.F ht⟩) hS.2.2 dJ4_init_da8c8_6
set_option maxHeartbeats 4000000 in
set_option maxRecDepth 100000 in
theorem kx_J5_getValue_6d5f1_0 (l : Launch) (dC : Nat → ClassId) (dI : Nat → Nat → Nat) (h0 : Nat) (z0 : Nat) (sz : Nat) : Met l yJ5_getValue_6d5f1 wsJ5_getValue_6d5f1 ({ frames := 0, cells := 0, slots := 0, locals := 0 }) (va_Pc [.ref h0] (fun U => U.heap.size = sz ∧ va_P (dC, dI) vwCl [(h0, .inr (1, [.ref z0, .int 0, .int 0, .int 0]))] U.heap ∧ va_K (dC, dI) vwCl [] U ∧ va_D (fun _ => True) [(h0, .inr (1, [.ref z0, .int 0, .int 0, .int 0]))])) (va_Qr (fun _ : Unit => True) (fun (_ : Unit) (ra : Nat) (t : State) => ra = z0 ∧ va_P (dC, dI) vwCl [(h0, .inr (1, [.ref z0, .int 0, .int 0, .int 0]))] t.heap ∧ va_K (dC, dI) vwCl [] t ∧ va_D (va_A [(h0, .inr (1, [.ref z0, .int 0, .int 0, .int 0]))] sz) [(h0, .inr (1, [.ref z0, .int 0, .int 0, .int 0]))]) (va_A [(h0, .inr (1, [.ref z0, .int 0, .int 0, .int 0]))] sz)) 0 0 (va_A [(h0, .inr (1, [.ref z0, .int 0, .int 0, .int 0]))] sz) := by
  refine Met.ofW (cc := cJ5_getValue_6d5f1) (maxL := 1) (ret := (some (.array .byte))) (by decide) rfl ?_
  intro p e s m args below meth c s₁ B hml hv
  obtain ⟨rfl, hsz, hP, hK, hD0⟩ := hv
  have hx := B.exec
  have hb := B.bytes
  have hr := B.returns
  have hts := atoms_spec (ws := wsJ5_getValue_6d5f1) B.pre
  have hown : s.vm.findClass RJ5 = some m.cls := findClass_of_methodNamed B.named
  have hlocks := B.notSynchronized
  subst hsz
  have hD := hD0.self (sz := s.heap.size)
  generalize hAe : va_A [(h0, .inr (1, [.ref z0, .int 0, .int 0, .int 0]))] s.heap.size = A at hD ⊢
  have hA : ∀ q : Nat, s.heap.size ≤ q → A q := fun q h => by rw [← hAe]; exact Or.inr h
  have hS : va_S A s.heap s.heap [] := va_S.rf
  have hP : va_P (dC, dI) vwCl [(h0, .inr (1, [.ref z0, .int 0, .int 0, .int 0]))] s.heap := hP
  have hl := lv_entry ([.ref h0]) (n := 1) (Nat.le_of_ble_eq_true rfl)
  rw [lg_entry_eq]
  generalize (lg_sl ([.ref h0]) ++ List.replicate (1 - (lg_sl ([.ref h0])).length) Slot.unset).toArray = ls at hl ⊢
  have hl : lv_has ls 1 [(0, .ref h0)] := hl
  refine lv_aload_n hx hb dJ5_getValue_6d5f1_0 rfl (lv_at hl 0 rfl) ?_
  refine va_get (D := (dC, dI)) (ci := 1) (v := .ref z0) (C := RJ4) (T := TJ4) (N := 4) hx hb hts (by decide +kernel) hown hK hP 0 rfl rfl 0 (by decide) (hts (.fieldLink RJ5 15 "java/lang/AbstractStringBuilder" "value" "[B") (by decide +kernel)) (fun _ h9 => h9) rfl dJ5_getValue_6d5f1_1 ?_
  exact W.aret (v := .ref z0) hx hb hr (Or.inr ⟨_, rfl⟩) (Or.inr ⟨_, rfl⟩) (fun t ht hW => ⟨⟨(), z0, rfl, trivial, rfl, by rw [ht]; exact hP, va_K.moved hW.alike hK, hD⟩, hS.F ht⟩) hS.2.2 dJ5_getValue_6d5f1_4
set_option maxHeartbeats 4000000 in
set_option maxRecDepth 100000 in
theorem kx_J5_length_8abf5_0 (l : Launch) (dC : Nat → ClassId) (dI : Nat → Nat → Nat) (h0 : Nat) (z0 : Nat) (sz : Nat) : Met l yJ5_length_8abf5 wsJ5_length_8abf5 ({ frames := 0, cells := 0, slots := 0, locals := 0 }) (va_Pc [.ref h0] (fun U => U.heap.size = sz ∧ va_P (dC, dI) vwCl [(h0, .inr (1, [.ref z0, .int 0, .int 0, .int 0]))] U.heap ∧ va_K (dC, dI) vwCl [] U ∧ va_D (fun _ => True) [(h0, .inr (1, [.ref z0, .int 0, .int 0, .int 0]))])) (va_Qi (fun (r : Int32) (_ : Unit) => r = 0) (fun (_ : Unit) (t : State) => va_P (dC, dI) vwCl [(h0, .inr (1, [.ref z0, .int 0, .int 0, .int 0]))] t.heap ∧ va_K (dC, dI) vwCl [] t ∧ va_D (va_A [(h0, .inr (1, [.ref z0, .int 0, .int 0, .int 0]))] sz) [(h0, .inr (1, [.ref z0, .int 0, .int 0, .int 0]))]) (va_A [(h0, .inr (1, [.ref z0, .int 0, .int 0, .int 0]))] sz)) 0 0 (va_A [(h0, .inr (1, [.ref z0, .int 0, .int 0, .int 0]))] sz) := by
  refine Met.ofW (cc := cJ5_length_8abf5) (maxL := 1) (ret := (some .int)) (by decide) rfl ?_
  intro p e s m args below meth c s₁ B hml hv
  obtain ⟨rfl, hsz, hP, hK, hD0⟩ := hv
  have hx := B.exec
  have hb := B.bytes
  have hr := B.returns
  have hts := atoms_spec (ws := wsJ5_length_8abf5) B.pre
  have hown : s.vm.findClass RJ5 = some m.cls := findClass_of_methodNamed B.named
  have hlocks := B.notSynchronized
  subst hsz
  have hD := hD0.self (sz := s.heap.size)
  generalize hAe : va_A [(h0, .inr (1, [.ref z0, .int 0, .int 0, .int 0]))] s.heap.size = A at hD ⊢
  have hA : ∀ q : Nat, s.heap.size ≤ q → A q := fun q h => by rw [← hAe]; exact Or.inr h
  have hS : va_S A s.heap s.heap [] := va_S.rf
  have hP : va_P (dC, dI) vwCl [(h0, .inr (1, [.ref z0, .int 0, .int 0, .int 0]))] s.heap := hP
  have hl := lv_entry ([.ref h0]) (n := 1) (Nat.le_of_ble_eq_true rfl)
  rw [lg_entry_eq]
  generalize (lg_sl ([.ref h0]) ++ List.replicate (1 - (lg_sl ([.ref h0])).length) Slot.unset).toArray = ls at hl ⊢
  have hl : lv_has ls 1 [(0, .ref h0)] := hl
  refine lv_aload_n hx hb dJ5_length_8abf5_0 rfl (lv_at hl 0 rfl) ?_
  refine va_get (D := (dC, dI)) (ci := 1) (v := .int 0) (C := RJ4) (T := TJ4) (N := 4) hx hb hts (by decide +kernel) hown hK hP 0 rfl rfl 3 (by decide) (hts (.fieldLink RJ5 79 "java/lang/AbstractStringBuilder" "count" "I") (by decide +kernel)) (fun _ h9 => h9) rfl dJ5_length_8abf5_1 ?_
  exact W.iret (v := 0) hx hb hr (fun t ht hW => ⟨⟨0, (), rfl, rfl, by rw [ht]; exact hP, va_K.moved hW.alike hK, hD⟩, hS.F ht⟩) hS.2.2 dJ5_length_8abf5_4
set_option maxHeartbeats 4000000 in
set_option maxRecDepth 100000 in
theorem kx_J4_length_8abf5_0 (l : Launch) (dC : Nat → ClassId) (dI : Nat → Nat → Nat) (h0 : Nat) (z0 : Nat) (sz : Nat) : Met l yJ4_length_8abf5 wsJ4_length_8abf5 ({ frames := 1, cells := 0, slots := 0, locals := 20 }) (va_Pc [.ref h0] (fun U => U.heap.size = sz ∧ va_P (dC, dI) vwCl [(h0, .inr (1, [.ref z0, .int 0, .int 0, .int 0]))] U.heap ∧ va_K (dC, dI) vwCl [] U ∧ va_D (fun _ => True) [(h0, .inr (1, [.ref z0, .int 0, .int 0, .int 0]))])) (va_Qi (fun (r : Int32) (_ : Unit) => r = 0) (fun (_ : Unit) (t : State) => va_P (dC, dI) vwCl [(h0, .inr (1, [.ref z0, .int 0, .int 0, .int 0]))] t.heap ∧ va_K (dC, dI) vwCl [] t ∧ va_D (va_A [(h0, .inr (1, [.ref z0, .int 0, .int 0, .int 0]))] sz) [(h0, .inr (1, [.ref z0, .int 0, .int 0, .int 0]))]) (va_A [(h0, .inr (1, [.ref z0, .int 0, .int 0, .int 0]))] sz)) 0 0 (va_A [(h0, .inr (1, [.ref z0, .int 0, .int 0, .int 0]))] sz) := by
  refine Met.ofW (cc := cJ4_length_8abf5) (maxL := 1) (ret := (some .int)) (by decide) rfl ?_
  intro p e s m args below meth c s₁ B hml hv
  obtain ⟨rfl, hsz, hP, hK, hD0⟩ := hv
  have hx := B.exec
  have hb := B.bytes
  have hr := B.returns
  have hts := atoms_spec (ws := wsJ4_length_8abf5) B.pre
  have hown : s.vm.findClass RJ4 = some m.cls := findClass_of_methodNamed B.named
  have hlocks := B.notSynchronized
  subst hsz
  have hD := hD0.self (sz := s.heap.size)
  generalize hAe : va_A [(h0, .inr (1, [.ref z0, .int 0, .int 0, .int 0]))] s.heap.size = A at hD ⊢
  have hA : ∀ q : Nat, s.heap.size ≤ q → A q := fun q h => by rw [← hAe]; exact Or.inr h
  have hS : va_S A s.heap s.heap [] := va_S.rf
  have hP : va_P (dC, dI) vwCl [(h0, .inr (1, [.ref z0, .int 0, .int 0, .int 0]))] s.heap := hP
  have hl := lv_entry ([.ref h0]) (n := 1) (Nat.le_of_ble_eq_true rfl)
  rw [lg_entry_eq]
  generalize (lg_sl ([.ref h0]) ++ List.replicate (1 - (lg_sl ([.ref h0])).length) Slot.unset).toArray = ls at hl ⊢
  have hl : lv_has ls 1 [(0, .ref h0)] := hl
  refine lv_aload_n hx hb dJ4_length_8abf5_0 rfl (lv_at hl 0 rfl) ?_
  have hPc := hP.sub (ws' := [(h0, .inr (1, [.ref z0, .int 0, .int 0, .int 0]))]) [0] rfl
  have hDc := hD.sub (ws' := [(h0, .inr (1, [.ref z0, .int 0, .int 0, .int 0]))]) [0] (by decide) rfl
  have hKc := hK.sub (tys' := []) [] rfl
  have hFc := va_free (wc := [(h0, .inr (1, [.ref z0, .int 0, .int 0, .int 0]))]) hD hS hA [0] rfl
  refine va_calli (va_runSU (hK.1 1 _ rfl).2 (As := []) (rest := []) ⟨hx, hb, hml, hown, hts⟩ (kx_J5_length_8abf5_0 l dC dI h0 z0 s.heap.size) (va_cwSU 0 hts gJ4_length_8abf5_J5_length_8abf5_s343 rfl rfl rfl (by decide +kernel) ⟨Nat.le_of_ble_eq_true rfl, Nat.le_of_ble_eq_true rfl⟩) ⟨fun a U g mk q => by obtain ⟨q0, q1, qP, qK, qD⟩ := q; exact ⟨q0, q1, qP, va_K.moved (u := U) (U := U.calling g mk a) (Vm.Alike.refl U.vm) qK, qD⟩, va_recv hKc hPc (ci := 1) (q0 := 0) rfl rfl, fun U hU hW => ⟨rfl, by rw [hU], by rw [hU]; exact hPc, va_K.moved hW.alike hKc, hDc.weaken (fun _ _ _ _ => trivial)⟩⟩ rfl rfl hl.1 rfl (lv_room (Nat.le_of_ble_eq_true rfl)) dJ4_length_8abf5_1 ⟨Nat.le_of_ble_eq_true rfl, Nat.le_of_ble_eq_true rfl⟩) hS (fun q _ h => hFc q h) hFc (fun r9 u t H1 locs ht hvm hw hB hz1 hk1 hS => ?_)
  obtain rfl := hw
  obtain ⟨hP1, hK1, hD1⟩ := hB
  rw [ht] at hP1
  have hK1 := va_K.moved hvm.symm hK1
  obtain ⟨hP, hD⟩ := va_join (wr := []) (w1 := [(h0, .inr (1, [.ref z0, .int 0, .int 0, .int 0]))]) hP hD [0] [] rfl rfl (by decide) (by decide) hk1 hFc hP1 hD1
  generalize H1 = H at hP hS ⊢
  have hP : va_P (dC, dI) vwCl [(h0, .inr (1, [.ref z0, .int 0, .int 0, .int 0]))] H := hP
  have hD : va_D A [(h0, .inr (1, [.ref z0, .int 0, .int 0, .int 0]))] := hD
  exact W.iret (v := 0) hx hb hr (fun t ht hW => ⟨⟨0, (), rfl, rfl, by rw [ht]; exact hP, va_K.moved hW.alike hK, hD⟩, hS.F ht⟩) hS.2.2 dJ4_length_8abf5_4
set_option maxHeartbeats 4000000 in
set_option maxRecDepth 100000 in
theorem kx_J5_isLatin1_aae02_0 (l : Launch) (dC : Nat → ClassId) (dI : Nat → Nat → Nat) (ge5 gea gv5 gva gde gic gi0 : Nat) (h0 : Nat) (z0 : Nat) (sz : Nat) : Met l yJ5_isLatin1_aae02 wsJ5_isLatin1_aae02 ({ frames := 0, cells := 0, slots := 0, locals := 0 }) (va_Pc [.ref h0] (fun U => U.heap.size = sz ∧ va_P (dC, dI) vwCl [(h0, .inr (1, [.ref z0, .int 0, .int 0, .int 0]))] U.heap ∧ va_K (dC, dI) vwCl [] U ∧ va_D (fun _ => True) [(h0, .inr (1, [.ref z0, .int 0, .int 0, .int 0]))] ∧ gv ge5 gea gv5 gva gde gic gi0 (va_A [(h0, .inr (1, [.ref z0, .int 0, .int 0, .int 0]))] sz) U U.heap)) (va_Qi (fun (r : Int32) (_ : Unit) => r = 1) (fun (_ : Unit) (t : State) => va_P (dC, dI) vwCl [(h0, .inr (1, [.ref z0, .int 0, .int 0, .int 0]))] t.heap ∧ va_K (dC, dI) vwCl [] t ∧ va_D (va_A [(h0, .inr (1, [.ref z0, .int 0, .int 0, .int 0]))] sz) [(h0, .inr (1, [.ref z0, .int 0, .int 0, .int 0]))]) (va_A [(h0, .inr (1, [.ref z0, .int 0, .int 0, .int 0]))] sz)) 0 0 (va_A [(h0, .inr (1, [.ref z0, .int 0, .int 0, .int 0]))] sz) := by
  refine Met.ofW (cc := cJ5_isLatin1_aae02) (maxL := 1) (ret := (some .boolean)) (by decide) rfl ?_
  intro p e s m args below meth c s₁ B hml hv
  obtain ⟨rfl, hsz, hP, hK, hD0, hG⟩ := hv
  have hx := B.exec
  have hb := B.bytes
  have hr := B.returns
  have hts := atoms_spec (ws := wsJ5_isLatin1_aae02) B.pre
  have hown : s.vm.findClass RJ5 = some m.cls := findClass_of_methodNamed B.named
  have hlocks := B.notSynchronized
  subst hsz
  have hD := hD0.self (sz := s.heap.size)
  generalize hAe : va_A [(h0, .inr (1, [.ref z0, .int 0, .int 0, .int 0]))] s.heap.size = A at hD hG ⊢
  obtain ⟨⟨g_AO_Text, g_AO_String, g_AO_Object, g_nm_RX1_20, g_nm_RX0_17, g_nm_RX3_31, g_nm_RX2_44, g_nm_RL_121, g_nf_RL_13, g_nf_RL_47, g_ca_IO, g_ca_IA, g_ca_IS, g_ca_IntObj, g_ca_StrObj, g_de_RT, g_de_EX, g_de_TH, g_nc_IA_IO, g_nc_IS_IO, g_nc_IS_IA⟩, ⟨g_s3, g_s5, g_sa, g_x278, g_x280, g_x282, g_x284, g_x286, g_x180, g_x238, g_x250⟩, ⟨g_o5, g_c5, g_v5, g_t5, g_oa, g_ca, g_va, g_ta, g_zc, g_zd, g_td, g_zf, g_zU, g_zN, g_zh, g_zk, g_tk, g_oi, g_vi⟩⟩ := id hG
  have hA : ∀ q : Nat, s.heap.size ≤ q → A q := fun q h => by rw [← hAe]; exact Or.inr h
  have hS : va_S A s.heap s.heap [] := va_S.rf
  have hP : va_P (dC, dI) vwCl [(h0, .inr (1, [.ref z0, .int 0, .int 0, .int 0]))] s.heap := hP
  have hl := lv_entry ([.ref h0]) (n := 1) (Nat.le_of_ble_eq_true rfl)
  rw [lg_entry_eq]
  generalize (lg_sl ([.ref h0]) ++ List.replicate (1 - (lg_sl ([.ref h0])).length) Slot.unset).toArray = ls at hl ⊢
  have hl : lv_has ls 1 [(0, .ref h0)] := hl
  refine va_gets (v := .int 1) hx hb g_zc hS hown (hts (.fieldLink RJ5 18 "java/lang/String" "COMPACT_STRINGS" "Z") (by decide +kernel)) (fun _ h9 => h9) dJ5_isLatin1_aae02_0 ?_
  refine lv_if_eq (tgt := 17) hx hb dJ5_isLatin1_aae02_3 (by decide) (fun c9 => absurd c9 (by decide)) (fun _ => ?_)
  refine lv_aload_n hx hb dJ5_isLatin1_aae02_6 rfl (lv_at hl 0 rfl) ?_
  refine va_get (D := (dC, dI)) (ci := 1) (v := .int 0) (C := RJ4) (T := TJ4) (N := 4) hx hb hts (by decide +kernel) hown hK hP 0 rfl rfl 1 (by decide) (hts (.fieldLink RJ5 22 "java/lang/AbstractStringBuilder" "coder" "B") (by decide +kernel)) (fun _ h9 => h9) rfl dJ5_isLatin1_aae02_7 ?_
  refine lv_if_ne (tgt := 17) hx hb dJ5_isLatin1_aae02_10 (by decide) (fun c9 => absurd (by decide) c9) (fun _ => ?_)
  refine lv_iconst (v := 1) hx hb dJ5_isLatin1_aae02_13 (by decide) ?_
  refine lv_goto (tgt := 18) hx hb dJ5_isLatin1_aae02_14 (by decide) ?_
  exact W.zret (v := 1) hx hb hr (by decide) (fun t ht hW => ⟨⟨1, (), rfl, rfl, by rw [ht]; exact hP, va_K.moved hW.alike hK, hD⟩, hS.F ht⟩) hS.2.2 dJ5_isLatin1_aae02_18
set_option maxHeartbeats 4000000 in
set_option maxRecDepth 100000 in
theorem kx_J7_checkLength_df160_0 (l : Launch) (dC : Nat → ClassId) (dI : Nat → Nat → Nat) (sz : Nat) : Met l yJ7_checkLength_df160 wsJ7_checkLength_df160 ({ frames := 0, cells := 0, slots := 0, locals := 0 }) (va_Pc [.int 0, .int 0] (fun U => U.heap.size = sz ∧ va_P (dC, dI) vwCl [] U.heap ∧ va_K (dC, dI) vwCl [] U ∧ va_D (fun _ => True) [])) (va_Qv (fun _ : Unit => True) (fun (_ : Unit) (t : State) => va_P (dC, dI) vwCl [] t.heap ∧ va_K (dC, dI) vwCl [] t ∧ va_D (va_A [] sz) []) (va_A [] sz)) 0 0 (va_A [] sz) := by
  refine Met.ofW (cc := cJ7_checkLength_df160) (maxL := 2) (ret := none) (by decide) rfl ?_
  intro p e s m args below meth c s₁ B hml hv
  obtain ⟨rfl, hsz, hP, hK, hD0⟩ := hv
  have hx := B.exec
  have hb := B.bytes
  have hr := B.returns
  have hts := atoms_spec (ws := wsJ7_checkLength_df160) B.pre
  have hown : s.vm.findClass RJ7 = some m.cls := findClass_of_methodNamed B.named
  have hlocks := B.notSynchronized
  subst hsz
  have hD := hD0.self (sz := s.heap.size)
  generalize hAe : va_A [] s.heap.size = A at hD ⊢
  have hA : ∀ q : Nat, s.heap.size ≤ q → A q := fun q h => by rw [← hAe]; exact Or.inr h
  have hS : va_S A s.heap s.heap [] := va_S.rf
  have hP : va_P (dC, dI) vwCl [] s.heap := hP
  have hl := lv_entry ([.int 0, .int 0]) (n := 2) (Nat.le_of_ble_eq_true rfl)
  rw [lg_entry_eq]
  generalize (lg_sl ([.int 0, .int 0]) ++ List.replicate (2 - (lg_sl ([.int 0, .int 0])).length) Slot.unset).toArray = ls at hl ⊢
  have hl : lv_has ls 2 [(0, .int 0), (1, .int 0)] := hl
  refine lv_iload_n hx hb dJ7_checkLength_df160_0 rfl (lv_at hl 1 rfl) ?_
  refine lv_iload_n hx hb dJ7_checkLength_df160_1 rfl (lv_at hl 0 rfl) ?_
  refine lv_icmp_ge (tgt := 37) hx hb dJ7_checkLength_df160_2 (by decide) (fun _ => ?_) (fun c9 => absurd (by decide) c9)
  exact W.vret hx hb hr (fun t ht hW => ⟨⟨(), rfl, trivial, by rw [ht]; exact hP, va_K.moved hW.alike hK, hD⟩, hS.F ht⟩) hS.2.2 dJ7_checkLength_df160_37
set_option maxHeartbeats 4000000 in
set_option maxRecDepth 100000 in
theorem kx_J7_copyOfRangeByte_39247_0 (l : Launch) (dC : Nat → ClassId) (dI : Nat → Nat → Nat) (h0 : Nat) (k0 : ClassId) (sz : Nat) : Met l yJ7_copyOfRangeByte_39247 wsJ7_copyOfRangeByte_39247 ({ frames := 1, cells := 1, slots := 0, locals := 60 }) (va_Pc [.ref h0, .int 0, .int 0] (fun U => U.heap.size = sz ∧ va_P (dC, dI) vwCl [(h0, .inl (k0, 16, .inl (fun _ => 0)))] U.heap ∧ va_K (dC, dI) vwCl [(k0, .byte)] U ∧ va_D (fun _ => True) [(h0, .inl (k0, 16, .inl (fun _ => 0)))])) (va_Qr (fun _ : Unit => True) (fun (_ : Unit) (ra : Nat) (t : State) => ∃ q2 : Nat, ∃ cq2 : ClassId, ra = q2 ∧ va_P (dC, dI) vwCl [(h0, .inl (k0, 16, .inl (fun _ => 0))), (q2, .inl (cq2, 0, .inl (fun _ => 0)))] t.heap ∧ va_K (dC, dI) vwCl [(k0, .byte), (cq2, .byte)] t ∧ va_D (va_A [(h0, .inl (k0, 16, .inl (fun _ => 0)))] sz) [(h0, .inl (k0, 16, .inl (fun _ => 0))), (q2, .inl (cq2, 0, .inl (fun _ => 0)))]) (va_A [(h0, .inl (k0, 16, .inl (fun _ => 0)))] sz)) 1 0 (va_A [(h0, .inl (k0, 16, .inl (fun _ => 0)))] sz) := by
  refine Met.ofW (cc := cJ7_copyOfRangeByte_39247) (maxL := 5) (ret := (some (.array .byte))) (by decide) rfl ?_
  intro p e s m args below meth c s₁ B hml hv
  obtain ⟨rfl, hsz, hP, hK, hD0⟩ := hv
  have hx := B.exec
  have hb := B.bytes
  have hr := B.returns
  have hts := atoms_spec (ws := wsJ7_copyOfRangeByte_39247) B.pre
  have hown : s.vm.findClass RJ7 = some m.cls := findClass_of_methodNamed B.named
  have hlocks := B.notSynchronized
  subst hsz
  have hD := hD0.self (sz := s.heap.size)
  generalize hAe : va_A [(h0, .inl (k0, 16, .inl (fun _ => 0)))] s.heap.size = A at hD ⊢
  have hA : ∀ q : Nat, s.heap.size ≤ q → A q := fun q h => by rw [← hAe]; exact Or.inr h
  have hS : va_S A s.heap s.heap [] := va_S.rf
  have hP : va_P (dC, dI) vwCl [(h0, .inl (k0, 16, .inl (fun _ => 0)))] s.heap := hP
  have hl := lv_entry ([.ref h0, .int 0, .int 0]) (n := 5) (Nat.le_of_ble_eq_true rfl)
  rw [lg_entry_eq]
  generalize (lg_sl ([.ref h0, .int 0, .int 0]) ++ List.replicate (5 - (lg_sl ([.ref h0, .int 0, .int 0])).length) Slot.unset).toArray = ls at hl ⊢
  have hl : lv_has ls 5 [(0, .ref h0), (1, .int 0), (2, .int 0)] := hl
  refine lv_iload_n hx hb dJ7_copyOfRangeByte_39247_0 rfl (lv_at hl 1 rfl) ?_
  refine lv_iload_n hx hb dJ7_copyOfRangeByte_39247_1 rfl (lv_at hl 2 rfl) ?_
  have hPc := hP.sub (ws' := []) [] rfl
  have hDc := hD.sub (ws' := []) [] (by decide) rfl
  have hKc := hK.sub (tys' := []) [] rfl
  have hFc := va_free (wc := []) hD hS hA [] rfl
  refine va_callv (va_runS (As := [.int 0, .int 0]) (rest := []) ⟨hx, hb, hml, hown, hts⟩ (kx_J7_checkLength_df160_0 l dC dI s.heap.size) (cwS 2 hts gJ7_copyOfRangeByte_39247_J7_checkLength_df160 rfl rfl rfl (by decide +kernel) ⟨Nat.le_of_ble_eq_true rfl, Nat.le_of_ble_eq_true rfl⟩) ⟨fun a U g mk q => by obtain ⟨q0, q1, qP, qK, qD⟩ := q; exact ⟨q0, q1, qP, va_K.moved (u := U) (U := U.calling g mk a) (Vm.Alike.refl U.vm) qK, qD⟩, fun U hU hW => ⟨rfl, by rw [hU], by rw [hU]; exact hPc, va_K.moved hW.alike hKc, hDc.weaken (fun _ _ _ _ => trivial)⟩⟩ rfl rfl hl.1 rfl (lv_room (Nat.le_of_ble_eq_true rfl)) dJ7_copyOfRangeByte_39247_2 ⟨Nat.le_of_ble_eq_true rfl, Nat.le_of_ble_eq_true rfl⟩) hS (fun q _ h => hFc q h) hFc (fun u t H1 locs ht hvm hw hB hz1 hk1 hS => ?_)
  obtain ⟨hP1, hK1, hD1⟩ := hB
  rw [ht] at hP1
  have hK1 := va_K.moved hvm.symm hK1
  obtain ⟨hP, hD⟩ := va_join (wr := [(h0, .inl (k0, 16, .inl (fun _ => 0)))]) (w1 := []) hP hD [] [0] rfl rfl (by decide) (by decide) hk1 hFc hP1 hD1
  generalize H1 = H at hP hS ⊢
  have hP : va_P (dC, dI) vwCl [(h0, .inl (k0, 16, .inl (fun _ => 0)))] H := hP
  have hD : va_D A [(h0, .inl (k0, 16, .inl (fun _ => 0)))] := hD
  refine lv_iload_n hx hb dJ7_copyOfRangeByte_39247_5 rfl (lv_at hl 2 rfl) ?_
  refine lv_iload_n hx hb dJ7_copyOfRangeByte_39247_6 rfl (lv_at hl 1 rfl) ?_
  refine lv_isub hx hb dJ7_copyOfRangeByte_39247_7 ?_
  refine lv_topi (fun y1 ey1 => ?_)
  obtain rfl : y1 = 0 := ey1.trans (by decide)
  refine lv_istore_n (lv' := [(3, .int 0), (0, .ref h0), (1, .int 0), (2, .int 0)]) hx hb dJ7_copyOfRangeByte_39247_8 rfl hl (by decide) rfl (fun ls hl => ?_)
  refine lv_iload_n hx hb dJ7_copyOfRangeByte_39247_9 rfl (lv_at hl 0 rfl) ?_
  refine va_newa (D := (dC, dI)) (atype := .byte) (ty := .byte) (a0 := (0, .inl (fun _ => 0))) (n := 0) (N' := 0) hx hb (hts (.arrayClass .byte) (by decide +kernel)) rfl hK hP hD hS hA (fun _ => rfl) (by decide) (by decide) (Nat.le_of_ble_eq_true rfl) (Nat.le_of_ble_eq_true rfl) (Nat.le_of_ble_eq_true rfl) dJ7_copyOfRangeByte_39247_10 (fun q2 cq2 H hK hP hD hS => ?_)
  have hK : va_K (dC, dI) vwCl [(k0, .byte), (cq2, .byte)] s := hK
  have hP : va_P (dC, dI) vwCl [(h0, .inl (k0, 16, .inl (fun _ => 0))), (q2, .inl (cq2, 0, .inl (fun _ => 0)))] H := hP
  have hD : va_D A [(h0, .inl (k0, 16, .inl (fun _ => 0))), (q2, .inl (cq2, 0, .inl (fun _ => 0)))] := hD
  refine W.widen (k := 1) (n := 0) (by omega) (by omega) ?_
  refine lv_astore (lv' := [(4, .ref q2), (3, .int 0), (0, .ref h0), (1, .int 0), (2, .int 0)]) hx hb dJ7_copyOfRangeByte_39247_12 hl (by decide) rfl (fun ls hl => ?_)
  refine lv_aload_n hx hb dJ7_copyOfRangeByte_39247_14 rfl (lv_at hl 2 rfl) ?_
  refine lv_iload_n hx hb dJ7_copyOfRangeByte_39247_15 rfl (lv_at hl 3 rfl) ?_
  refine lv_aload hx hb dJ7_copyOfRangeByte_39247_16 (lv_at hl 0 rfl) ?_
  refine lv_iconst (v := 0) hx hb dJ7_copyOfRangeByte_39247_18 (by decide) ?_
  refine lv_aload_n hx hb dJ7_copyOfRangeByte_39247_19 rfl (lv_at hl 2 rfl) ?_
  refine va_alen (D := (dC, dI)) (v := 16) hx hb hK hP 0 0 rfl rfl (by decide) dJ7_copyOfRangeByte_39247_20 ?_
  refine lv_iload_n hx hb dJ7_copyOfRangeByte_39247_21 rfl (lv_at hl 3 rfl) ?_
  refine lv_isub hx hb dJ7_copyOfRangeByte_39247_22 ?_
  refine lv_topi (fun y3 ey3 => ?_)
  obtain rfl : y3 = 16 := ey3.trans (by decide)
  refine lv_iload_n hx hb dJ7_copyOfRangeByte_39247_23 rfl (lv_at hl 1 rfl) ?_
  refine va_mmin (x := 16) (y := 0) hx hb (by rw [hml]; exact hl.1.symm) hown (hts (.methodLink RJ7 304 Lib.Math.min.name) (by decide +kernel)) (hts (.static Lib.Math.min.name) (by decide +kernel)) (hts (.initialized "java/lang/Math") (by decide +kernel)) (hts (.code Lib.Math.min.name Lib.Math.min.code 2 (some .int)) (by decide +kernel)) (Nat.le_of_ble_eq_true rfl) (Nat.le_of_ble_eq_true rfl) (Nat.le_of_ble_eq_true rfl) (Nat.le_of_ble_eq_true rfl) dJ7_copyOfRangeByte_39247_24 ?_
  refine lv_topi (fun y4 ey4 => ?_)
  obtain rfl : y4 = 0 := ey4.trans (by decide)
  refine va_copyi (D := (dC, dI)) (sp := 0) (dp := 0) (n := 0) hx hb (by rw [hml]; exact hl.1.symm) hown (hts (.methodLink RJ7 150 arraycopyName) (by decide +kernel)) (hts (.native arraycopyName) (by decide +kernel)) (hts (.static arraycopyName) (by decide +kernel)) (hts (.initialized "java/lang/System") (by decide +kernel)) hK hP hD hS 0 1 0 1 rfl rfl rfl rfl rfl (by decide) (by decide) (by decide) (by decide) (by decide) (fun i hi => absurd hi (Nat.not_lt_zero i)) (Nat.le_of_ble_eq_true rfl) (Nat.le_of_ble_eq_true rfl) dJ7_copyOfRangeByte_39247_27 (fun H locs hP hD hS => ?_)
  rw [kz0] at hP hD
  have hP : va_P (dC, dI) vwCl [(h0, .inl (k0, 16, .inl (fun _ => 0))), (q2, .inl (cq2, 0, .inl (fun _ => 0)))] H := hP
  have hD : va_D A [(h0, .inl (k0, 16, .inl (fun _ => 0))), (q2, .inl (cq2, 0, .inl (fun _ => 0)))] := hD
  refine lv_aload hx hb dJ7_copyOfRangeByte_39247_30 (lv_at hl 0 rfl) ?_
  exact W.aret (v := .ref q2) hx hb hr (Or.inr ⟨_, rfl⟩) (Or.inr ⟨_, rfl⟩) (fun t ht hW => ⟨⟨(), q2, rfl, trivial, q2, cq2, rfl, by rw [ht]; exact hP, va_K.moved hW.alike hK, hD⟩, hS.F ht⟩) hS.2.2 dJ7_copyOfRangeByte_39247_32
set_option maxHeartbeats 4000000 in
set_option maxRecDepth 100000 in
theorem kx_J7_copyOfRange_39247_0 (l : Launch) (dC : Nat → ClassId) (dI : Nat → Nat → Nat) (h0 : Nat) (k0 : ClassId) (sz : Nat) : Met l yJ7_copyOfRange_39247 wsJ7_copyOfRange_39247 ({ frames := 2, cells := 1, slots := 0, locals := 84 }) (va_Pc [.ref h0, .int 0, .int 0] (fun U => U.heap.size = sz ∧ va_P (dC, dI) vwCl [(h0, .inl (k0, 16, .inl (fun _ => 0)))] U.heap ∧ va_K (dC, dI) vwCl [(k0, .byte)] U ∧ va_D (fun _ => True) [(h0, .inl (k0, 16, .inl (fun _ => 0)))])) (va_Qr (fun _ : Unit => True) (fun (_ : Unit) (ra : Nat) (t : State) => ∃ q1 : Nat, ∃ cq2 : ClassId, ra = q1 ∧ va_P (dC, dI) vwCl [(h0, .inl (k0, 16, .inl (fun _ => 0))), (q1, .inl (cq2, 0, .inl (fun _ => 0)))] t.heap ∧ va_K (dC, dI) vwCl [(k0, .byte), (cq2, .byte)] t ∧ va_D (va_A [(h0, .inl (k0, 16, .inl (fun _ => 0)))] sz) [(h0, .inl (k0, 16, .inl (fun _ => 0))), (q1, .inl (cq2, 0, .inl (fun _ => 0)))]) (va_A [(h0, .inl (k0, 16, .inl (fun _ => 0)))] sz)) 1 0 (va_A [(h0, .inl (k0, 16, .inl (fun _ => 0)))] sz) := by
  refine Met.ofW (cc := cJ7_copyOfRange_39247) (maxL := 3) (ret := (some (.array .byte))) (by decide) rfl ?_
  intro p e s m args below meth c s₁ B hml hv
  obtain ⟨rfl, hsz, hP, hK, hD0⟩ := hv
  have hx := B.exec
  have hb := B.bytes
  have hr := B.returns
  have hts := atoms_spec (ws := wsJ7_copyOfRange_39247) B.pre
  have hown : s.vm.findClass RJ7 = some m.cls := findClass_of_methodNamed B.named
  have hlocks := B.notSynchronized
  subst hsz
  have hD := hD0.self (sz := s.heap.size)
  generalize hAe : va_A [(h0, .inl (k0, 16, .inl (fun _ => 0)))] s.heap.size = A at hD ⊢
  have hA : ∀ q : Nat, s.heap.size ≤ q → A q := fun q h => by rw [← hAe]; exact Or.inr h
  have hS : va_S A s.heap s.heap [] := va_S.rf
  have hP : va_P (dC, dI) vwCl [(h0, .inl (k0, 16, .inl (fun _ => 0)))] s.heap := hP
  have hl := lv_entry ([.ref h0, .int 0, .int 0]) (n := 3) (Nat.le_of_ble_eq_true rfl)
  rw [lg_entry_eq]
  generalize (lg_sl ([.ref h0, .int 0, .int 0]) ++ List.replicate (3 - (lg_sl ([.ref h0, .int 0, .int 0])).length) Slot.unset).toArray = ls at hl ⊢
  have hl : lv_has ls 3 [(0, .ref h0), (1, .int 0), (2, .int 0)] := hl
  refine lv_iload_n hx hb dJ7_copyOfRange_39247_0 rfl (lv_at hl 1 rfl) ?_
  refine lv_if_ne (tgt := 10) hx hb dJ7_copyOfRange_39247_1 (by decide) (fun c9 => absurd (by decide) c9) (fun _ => ?_)
  refine lv_iload_n hx hb dJ7_copyOfRange_39247_4 rfl (lv_at hl 2 rfl) ?_
  refine lv_aload_n hx hb dJ7_copyOfRange_39247_5 rfl (lv_at hl 0 rfl) ?_
  refine va_alen (D := (dC, dI)) (v := 16) hx hb hK hP 0 0 rfl rfl (by decide) dJ7_copyOfRange_39247_6 ?_
  refine lv_icmp_eq (tgt := 17) hx hb dJ7_copyOfRange_39247_7 (by decide) (fun c9 => absurd c9 (by decide)) (fun _ => ?_)
  refine lv_aload_n hx hb dJ7_copyOfRange_39247_10 rfl (lv_at hl 0 rfl) ?_
  refine lv_iload_n hx hb dJ7_copyOfRange_39247_11 rfl (lv_at hl 1 rfl) ?_
  refine lv_iload_n hx hb dJ7_copyOfRange_39247_12 rfl (lv_at hl 2 rfl) ?_
  have hPc := hP.sub (ws' := [(h0, .inl (k0, 16, .inl (fun _ => 0)))]) [0] rfl
  have hDc := hD.sub (ws' := [(h0, .inl (k0, 16, .inl (fun _ => 0)))]) [0] (by decide) rfl
  have hKc := hK.sub (tys' := [(k0, .byte)]) [0] rfl
  have hFc := va_free (wc := [(h0, .inl (k0, 16, .inl (fun _ => 0)))]) hD hS hA [0] rfl
  refine va_callr (va_runS (As := [.ref h0, .int 0, .int 0]) (rest := []) ⟨hx, hb, hml, hown, hts⟩ (kx_J7_copyOfRangeByte_39247_0 l dC dI h0 k0 s.heap.size) (cwS 3 hts gJ7_copyOfRange_39247_J7_copyOfRangeByte_39247 rfl rfl rfl (by decide +kernel) ⟨Nat.le_of_ble_eq_true rfl, Nat.le_of_ble_eq_true rfl⟩) ⟨fun a U g mk q => by obtain ⟨q0, q1, qP, qK, qD⟩ := q; exact ⟨q0, q1, qP, va_K.moved (u := U) (U := U.calling g mk a) (Vm.Alike.refl U.vm) qK, qD⟩, fun U hU hW => ⟨rfl, by rw [hU], by rw [hU]; exact hPc, va_K.moved hW.alike hKc, hDc.weaken (fun _ _ _ _ => trivial)⟩⟩ rfl rfl hl.1 rfl (lv_room (Nat.le_of_ble_eq_true rfl)) dJ7_copyOfRange_39247_13 ⟨Nat.le_of_ble_eq_true rfl, Nat.le_of_ble_eq_true rfl⟩) hS (fun q _ h => hFc q h) hFc (fun u ra t H1 locs ht hvm hw hB hz1 hk1 hS => ?_)
  obtain ⟨q1, cq2, hra, hP1, hK1, hD1⟩ := hB
  rw [hra]
  rw [ht] at hP1
  have hK1 := va_K.moved hvm.symm hK1
  obtain ⟨hP, hD⟩ := va_join (wr := []) (w1 := [(h0, .inl (k0, 16, .inl (fun _ => 0))), (q1, .inl (cq2, 0, .inl (fun _ => 0)))]) hP hD [0] [] rfl rfl (by decide) (by decide) hk1 hFc hP1 hD1
  have hK := hK.app (hK1.sub (tys' := [(cq2, .byte)]) [1] rfl)
  generalize H1 = H at hP hS ⊢
  have hK : va_K (dC, dI) vwCl [(k0, .byte), (cq2, .byte)] s := hK
  have hP : va_P (dC, dI) vwCl [(h0, .inl (k0, 16, .inl (fun _ => 0))), (q1, .inl (cq2, 0, .inl (fun _ => 0)))] H := hP
  have hD : va_D A [(h0, .inl (k0, 16, .inl (fun _ => 0))), (q1, .inl (cq2, 0, .inl (fun _ => 0)))] := hD
  refine W.widen (k := 1) (n := 0) (by omega) (by omega) ?_
  exact W.aret (v := .ref q1) hx hb hr (Or.inr ⟨_, rfl⟩) (Or.inr ⟨_, rfl⟩) (fun t ht hW => ⟨⟨(), q1, rfl, trivial, q1, cq2, rfl, by rw [ht]; exact hP, va_K.moved hW.alike hK, hD⟩, hS.F ht⟩) hS.2.2 dJ7_copyOfRange_39247_16
set_option maxHeartbeats 4000000 in
set_option maxRecDepth 100000 in
theorem kx_J0_init_db425_0 (l : Launch) (dC : Nat → ClassId) (dI : Nat → Nat → Nat) (ge5 gea gv5 gva gde gic gi0 : Nat) (h0 : Nat) (h1 : Nat) (h2 : Nat) (k0 : ClassId) (sz : Nat) : Met l yJ0_init_db425 wsJ0_init_db425 ({ frames := 3, cells := 1, slots := 0, locals := 106 }) (va_Pc [.ref h2, .ref h0, .null] (fun U => U.heap.size = sz ∧ va_P (dC, dI) vwCl [(h0, .inr (1, [.ref h1, .int 0, .int 0, .int 0])), (h1, .inl (k0, 16, .inl (fun _ => 0))), (h2, .inr (0, [.null, .int 0, .int 0, .int 0]))] U.heap ∧ va_K (dC, dI) vwCl [(k0, .byte)] U ∧ va_D (fun _ => True) [(h0, .inr (1, [.ref h1, .int 0, .int 0, .int 0])), (h1, .inl (k0, 16, .inl (fun _ => 0))), (h2, .inr (0, [.null, .int 0, .int 0, .int 0]))] ∧ gv ge5 gea gv5 gva gde gic gi0 (va_A [(h0, .inr (1, [.ref h1, .int 0, .int 0, .int 0])), (h1, .inl (k0, 16, .inl (fun _ => 0))), (h2, .inr (0, [.null, .int 0, .int 0, .int 0]))] sz) U U.heap)) (va_Qv (fun _ : Unit => True) (fun (_ : Unit) (t : State) => ∃ q1 : Nat, ∃ cq2 : ClassId, va_P (dC, dI) vwCl [(h0, .inr (1, [.ref h1, .int 0, .int 0, .int 0])), (h1, .inl (k0, 16, .inl (fun _ => 0))), (h2, .inr (0, [.ref q1, .int 0, .int 0, .int 0])), (q1, .inl (cq2, 0, .inl (fun _ => 0)))] t.heap ∧ va_K (dC, dI) vwCl [(k0, .byte), (cq2, .byte)] t ∧ va_D (va_A [(h0, .inr (1, [.ref h1, .int 0, .int 0, .int 0])), (h1, .inl (k0, 16, .inl (fun _ => 0))), (h2, .inr (0, [.null, .int 0, .int 0, .int 0]))] sz) [(h0, .inr (1, [.ref h1, .int 0, .int 0, .int 0])), (h1, .inl (k0, 16, .inl (fun _ => 0))), (h2, .inr (0, [.ref q1, .int 0, .int 0, .int 0])), (q1, .inl (cq2, 0, .inl (fun _ => 0)))]) (va_A [(h0, .inr (1, [.ref h1, .int 0, .int 0, .int 0])), (h1, .inl (k0, 16, .inl (fun _ => 0))), (h2, .inr (0, [.null, .int 0, .int 0, .int 0]))] sz)) 1 0 (va_A [(h0, .inr (1, [.ref h1, .int 0, .int 0, .int 0])), (h1, .inl (k0, 16, .inl (fun _ => 0))), (h2, .inr (0, [.null, .int 0, .int 0, .int 0]))] sz) := by
  refine Met.ofW (cc := cJ0_init_db425) (maxL := 5) (ret := none) (by decide) rfl ?_
  intro p e s m args below meth c s₁ B hml hv
  obtain ⟨rfl, hsz, hP, hK, hD0, hG⟩ := hv
  have hx := B.exec
  have hb := B.bytes
  have hr := B.returns
  have hts := atoms_spec (ws := wsJ0_init_db425) B.pre
  have hown : s.vm.findClass RJ0 = some m.cls := findClass_of_methodNamed B.named
  have hlocks := B.notSynchronized
  have hin : meth.name = "<init>" := (name_of_methodNamed B.named B.method).1
  subst hsz
  have hD := hD0.self (sz := s.heap.size)
  generalize hAe : va_A [(h0, .inr (1, [.ref h1, .int 0, .int 0, .int 0])), (h1, .inl (k0, 16, .inl (fun _ => 0))), (h2, .inr (0, [.null, .int 0, .int 0, .int 0]))] s.heap.size = A at hD hG ⊢
  obtain ⟨⟨g_AO_Text, g_AO_String, g_AO_Object, g_nm_RX1_20, g_nm_RX0_17, g_nm_RX3_31, g_nm_RX2_44, g_nm_RL_121, g_nf_RL_13, g_nf_RL_47, g_ca_IO, g_ca_IA, g_ca_IS, g_ca_IntObj, g_ca_StrObj, g_de_RT, g_de_EX, g_de_TH, g_nc_IA_IO, g_nc_IS_IO, g_nc_IS_IA⟩, ⟨g_s3, g_s5, g_sa, g_x278, g_x280, g_x282, g_x284, g_x286, g_x180, g_x238, g_x250⟩, ⟨g_o5, g_c5, g_v5, g_t5, g_oa, g_ca, g_va, g_ta, g_zc, g_zd, g_td, g_zf, g_zU, g_zN, g_zh, g_zk, g_tk, g_oi, g_vi⟩⟩ := id hG
  have hA : ∀ q : Nat, s.heap.size ≤ q → A q := fun q h => by rw [← hAe]; exact Or.inr h
  have hS : va_S A s.heap s.heap [] := va_S.rf
  have hP : va_P (dC, dI) vwCl [(h0, .inr (1, [.ref h1, .int 0, .int 0, .int 0])), (h1, .inl (k0, 16, .inl (fun _ => 0))), (h2, .inr (0, [.null, .int 0, .int 0, .int 0]))] s.heap := hP
  have hl := lv_entry ([.ref h2, .ref h0, .null]) (n := 5) (Nat.le_of_ble_eq_true rfl)
  rw [lg_entry_eq]
  generalize (lg_sl ([.ref h2, .ref h0, .null]) ++ List.replicate (5 - (lg_sl ([.ref h2, .ref h0, .null])).length) Slot.unset).toArray = ls at hl ⊢
  have hl : lv_has ls 5 [(0, .ref h2), (1, .ref h0), (2, .null)] := hl
  refine lv_aload_n hx hb dJ0_init_db425_0 rfl (lv_at hl 0 rfl) ?_
  refine W.objInit hx hb hown (hts (.methodLink RJ0 1 objectInit) (by decide +kernel)) (hts (.instanceMethod objectInit) (by decide +kernel)) (hts (.code objectInit ⟨#[0xb1]⟩ 1 none) (by decide +kernel)) rfl (by rw [hml]; exact hl.1) rfl dJ0_init_db425_1 (Nat.le_of_ble_eq_true rfl) (Nat.le_of_ble_eq_true rfl) ?_
  refine W.eq (g2 := F0 m 4 ls []) rfl ?_
  refine lv_aload_n hx hb dJ0_init_db425_4 rfl (lv_at hl 1 rfl) ?_
  have hPc := hP.sub (ws' := [(h0, .inr (1, [.ref h1, .int 0, .int 0, .int 0]))]) [0] rfl
  have hDc := hD.sub (ws' := [(h0, .inr (1, [.ref h1, .int 0, .int 0, .int 0]))]) [0] (by decide) rfl
  have hKc := hK.sub (tys' := []) [] rfl
  have hFc := va_free (wc := [(h0, .inr (1, [.ref h1, .int 0, .int 0, .int 0]))]) hD hS hA [0] rfl
  refine va_callr (va_runU (As := []) (rest := []) ⟨hx, hb, hml, hown, hts⟩ (kx_J5_getValue_6d5f1_0 l dC dI h0 h1 s.heap.size) (va_cwU 0 hts gJ0_init_db425_J5_getValue_6d5f1_u552J4 rfl rfl rfl rfl (by decide +kernel) ⟨Nat.le_of_ble_eq_true rfl, Nat.le_of_ble_eq_true rfl⟩) ⟨fun a U g mk q => by obtain ⟨q0, q1, qP, qK, qD⟩ := q; exact ⟨q0, q1, qP, va_K.moved (u := U) (U := U.calling g mk a) (Vm.Alike.refl U.vm) qK, qD⟩, va_recv hKc hPc (ci := 1) (q0 := 0) rfl rfl, fun U hU hW => ⟨rfl, by rw [hU], by rw [hU]; exact hPc, va_K.moved hW.alike hKc, hDc.weaken (fun _ _ _ _ => trivial)⟩⟩ rfl rfl hl.1 rfl (lv_room (Nat.le_of_ble_eq_true rfl)) dJ0_init_db425_5 ⟨Nat.le_of_ble_eq_true rfl, Nat.le_of_ble_eq_true rfl⟩) hS (fun q _ h => hFc q h) hFc (fun u ra t H1 locs ht hvm hw hB hz1 hk1 hS => ?_)
  obtain ⟨hra, hP1, hK1, hD1⟩ := hB
  rw [hra]
  rw [ht] at hP1
  have hK1 := va_K.moved hvm.symm hK1
  obtain ⟨hP, hD⟩ := va_join (wr := [(h1, .inl (k0, 16, .inl (fun _ => 0))), (h2, .inr (0, [.null, .int 0, .int 0, .int 0]))]) (w1 := [(h0, .inr (1, [.ref h1, .int 0, .int 0, .int 0]))]) hP hD [0] [1, 2] rfl rfl (by decide) (by decide) hk1 hFc hP1 hD1
  generalize H1 = H at hP hS ⊢
  have hP : va_P (dC, dI) vwCl [(h1, .inl (k0, 16, .inl (fun _ => 0))), (h2, .inr (0, [.null, .int 0, .int 0, .int 0])), (h0, .inr (1, [.ref h1, .int 0, .int 0, .int 0]))] H := hP
  have hD : va_D A [(h1, .inl (k0, 16, .inl (fun _ => 0))), (h2, .inr (0, [.null, .int 0, .int 0, .int 0])), (h0, .inr (1, [.ref h1, .int 0, .int 0, .int 0]))] := hD
  refine lv_astore_n (lv' := [(3, .ref h1), (0, .ref h2), (1, .ref h0), (2, .null)]) hx hb dJ0_init_db425_8 rfl hl (by decide) rfl (fun ls hl => ?_)
  refine lv_aload_n hx hb dJ0_init_db425_9 rfl (lv_at hl 2 rfl) ?_
  have hPc := hP.sub (ws' := [(h0, .inr (1, [.ref h1, .int 0, .int 0, .int 0]))]) [2] rfl
  have hDc := hD.sub (ws' := [(h0, .inr (1, [.ref h1, .int 0, .int 0, .int 0]))]) [2] (by decide) rfl
  have hKc := hK.sub (tys' := []) [] rfl
  have hFc := va_free (wc := [(h0, .inr (1, [.ref h1, .int 0, .int 0, .int 0]))]) hD hS hA [2] rfl
  refine va_calli (va_runU (As := []) (rest := []) ⟨hx, hb, hml, hown, hts⟩ (kx_J4_length_8abf5_0 l dC dI h0 h1 H.size) (va_cwO 0 hts gJ0_init_db425_J4_length_8abf5_u549J4 rfl rfl rfl (b0 := cJ5_length_8abf5) (m0 := 1) (r0 := (some .int)) (by decide +kernel) (by decide +kernel) ⟨Nat.le_of_ble_eq_true rfl, Nat.le_of_ble_eq_true rfl⟩) ⟨fun a U g mk q => by obtain ⟨q0, q1, qP, qK, qD⟩ := q; exact ⟨q0, q1, qP, va_K.moved (u := U) (U := U.calling g mk a) (Vm.Alike.refl U.vm) qK, qD⟩, va_recv hKc hPc (ci := 1) (q0 := 0) rfl rfl, fun U hU hW => ⟨rfl, by rw [hU], by rw [hU]; exact hPc, va_K.moved hW.alike hKc, hDc.weaken (fun _ _ _ _ => trivial)⟩⟩ rfl rfl hl.1 rfl (lv_room (Nat.le_of_ble_eq_true rfl)) dJ0_init_db425_10 ⟨Nat.le_of_ble_eq_true rfl, Nat.le_of_ble_eq_true rfl⟩) hS (fun q _ h => hFc q h) hFc (fun r9 u t H1 locs ht hvm hw hB hz1 hk1 hS => ?_)
  obtain rfl := hw
  obtain ⟨hP1, hK1, hD1⟩ := hB
  rw [ht] at hP1
  have hK1 := va_K.moved hvm.symm hK1
  obtain ⟨hP, hD⟩ := va_join (wr := [(h1, .inl (k0, 16, .inl (fun _ => 0))), (h2, .inr (0, [.null, .int 0, .int 0, .int 0]))]) (w1 := [(h0, .inr (1, [.ref h1, .int 0, .int 0, .int 0]))]) hP hD [2] [0, 1] rfl rfl (by decide) (by decide) hk1 hFc hP1 hD1
  generalize H1 = H at hP hS ⊢
  have hP : va_P (dC, dI) vwCl [(h1, .inl (k0, 16, .inl (fun _ => 0))), (h2, .inr (0, [.null, .int 0, .int 0, .int 0])), (h0, .inr (1, [.ref h1, .int 0, .int 0, .int 0]))] H := hP
  have hD : va_D A [(h1, .inl (k0, 16, .inl (fun _ => 0))), (h2, .inr (0, [.null, .int 0, .int 0, .int 0])), (h0, .inr (1, [.ref h1, .int 0, .int 0, .int 0]))] := hD
  refine lv_istore (lv' := [(4, .int 0), (3, .ref h1), (0, .ref h2), (1, .ref h0), (2, .null)]) hx hb dJ0_init_db425_13 hl (by decide) rfl (fun ls hl => ?_)
  refine lv_aload_n hx hb dJ0_init_db425_15 rfl (lv_at hl 3 rfl) ?_
  have hPc := hP.sub (ws' := [(h0, .inr (1, [.ref h1, .int 0, .int 0, .int 0]))]) [2] rfl
  have hDc := hD.sub (ws' := [(h0, .inr (1, [.ref h1, .int 0, .int 0, .int 0]))]) [2] (by decide) rfl
  have hKc := hK.sub (tys' := []) [] rfl
  have hFc := va_free (wc := [(h0, .inr (1, [.ref h1, .int 0, .int 0, .int 0]))]) hD hS hA [2] rfl
  refine va_calli (va_runU (As := []) (rest := []) ⟨hx, hb, hml, hown, hts⟩ (kx_J5_isLatin1_aae02_0 l dC dI ge5 gea gv5 gva gde gic gi0 h0 h1 H.size) (va_cwU 0 hts gJ0_init_db425_J5_isLatin1_aae02_u1047J4 rfl rfl rfl rfl (by decide +kernel) ⟨Nat.le_of_ble_eq_true rfl, Nat.le_of_ble_eq_true rfl⟩) ⟨fun a U g mk q => by obtain ⟨q0, q1, qP, qK, qD, qG⟩ := q; exact ⟨q0, q1, qP, va_K.moved (u := U) (U := U.calling g mk a) (Vm.Alike.refl U.vm) qK, qD, gv.fb qG⟩, va_recv hKc hPc (ci := 1) (q0 := 0) rfl rfl, fun U hU hW => ⟨rfl, by rw [hU], by rw [hU]; exact hPc, va_K.moved hW.alike hKc, hDc.weaken (fun _ _ _ _ => trivial), gv.pass hW hU hS hFc hG⟩⟩ rfl rfl hl.1 rfl (lv_room (Nat.le_of_ble_eq_true rfl)) dJ0_init_db425_16 ⟨Nat.le_of_ble_eq_true rfl, Nat.le_of_ble_eq_true rfl⟩) hS (fun q _ h => hFc q h) hFc (fun r9 u t H1 locs ht hvm hw hB hz1 hk1 hS => ?_)
  obtain rfl := hw
  obtain ⟨hP1, hK1, hD1⟩ := hB
  rw [ht] at hP1
  have hK1 := va_K.moved hvm.symm hK1
  obtain ⟨hP, hD⟩ := va_join (wr := [(h1, .inl (k0, 16, .inl (fun _ => 0))), (h2, .inr (0, [.null, .int 0, .int 0, .int 0]))]) (w1 := [(h0, .inr (1, [.ref h1, .int 0, .int 0, .int 0]))]) hP hD [2] [0, 1] rfl rfl (by decide) (by decide) hk1 hFc hP1 hD1
  generalize H1 = H at hP hS ⊢
  have hP : va_P (dC, dI) vwCl [(h1, .inl (k0, 16, .inl (fun _ => 0))), (h2, .inr (0, [.null, .int 0, .int 0, .int 0])), (h0, .inr (1, [.ref h1, .int 0, .int 0, .int 0]))] H := hP
  have hD : va_D A [(h1, .inl (k0, 16, .inl (fun _ => 0))), (h2, .inr (0, [.null, .int 0, .int 0, .int 0])), (h0, .inr (1, [.ref h1, .int 0, .int 0, .int 0]))] := hD
  refine lv_if_eq (tgt := 41) hx hb dJ0_init_db425_19 (by decide) (fun c9 => absurd c9 (by decide)) (fun _ => ?_)
  refine lv_aload_n hx hb dJ0_init_db425_22 rfl (lv_at hl 2 rfl) ?_
  refine lv_iconst (v := 0) hx hb dJ0_init_db425_23 (by decide) ?_
  refine va_putF (D := (dC, dI)) (ci := 0) (v := .int 0) (ty := .byte) (C := RJ0) (T := TJ0) (N := 4) hx hb hts (by decide +kernel) tyJ0 tyJ0_ok nmJ0 hown hK hP hD hS 1 rfl rfl 1 (by decide) (hts (.fieldLink RJ0 15 "java/lang/String" "coder" "B") (by decide +kernel)) (fun _ h9 => h9) rfl hin rfl (by decide +kernel) rfl rfl (Nat.le_of_ble_eq_true rfl) dJ0_init_db425_24 (fun H locs hP hD hS => ?_)
  have hP : va_P (dC, dI) vwCl [(h1, .inl (k0, 16, .inl (fun _ => 0))), (h2, .inr (0, [.null, .int 0, .int 0, .int 0])), (h0, .inr (1, [.ref h1, .int 0, .int 0, .int 0]))] H := hP
  have hD : va_D A [(h1, .inl (k0, 16, .inl (fun _ => 0))), (h2, .inr (0, [.null, .int 0, .int 0, .int 0])), (h0, .inr (1, [.ref h1, .int 0, .int 0, .int 0]))] := hD
  refine lv_aload_n hx hb dJ0_init_db425_27 rfl (lv_at hl 2 rfl) ?_
  refine lv_aload_n hx hb dJ0_init_db425_28 rfl (lv_at hl 1 rfl) ?_
  refine lv_iconst (v := 0) hx hb dJ0_init_db425_29 (by decide) ?_
  refine lv_iload hx hb dJ0_init_db425_30 (lv_at hl 0 rfl) ?_
  have hPc := hP.sub (ws' := [(h1, .inl (k0, 16, .inl (fun _ => 0)))]) [0] rfl
  have hDc := hD.sub (ws' := [(h1, .inl (k0, 16, .inl (fun _ => 0)))]) [0] (by decide) rfl
  have hKc := hK.sub (tys' := [(k0, .byte)]) [0] rfl
  have hFc := va_free (wc := [(h1, .inl (k0, 16, .inl (fun _ => 0)))]) hD hS hA [0] rfl
  refine va_callr (va_runS (As := [.ref h1, .int 0, .int 0]) (rest := [.ref h2]) ⟨hx, hb, hml, hown, hts⟩ (kx_J7_copyOfRange_39247_0 l dC dI h1 k0 H.size) (va_cwS 3 hts gJ0_init_db425_J7_copyOfRange_39247 rfl rfl rfl (by decide +kernel) ⟨Nat.le_of_ble_eq_true rfl, Nat.le_of_ble_eq_true rfl⟩) ⟨fun a U g mk q => by obtain ⟨q0, q1, qP, qK, qD⟩ := q; exact ⟨q0, q1, qP, va_K.moved (u := U) (U := U.calling g mk a) (Vm.Alike.refl U.vm) qK, qD⟩, fun U hU hW => ⟨rfl, by rw [hU], by rw [hU]; exact hPc, va_K.moved hW.alike hKc, hDc.weaken (fun _ _ _ _ => trivial)⟩⟩ rfl rfl hl.1 rfl (lv_room (Nat.le_of_ble_eq_true rfl)) dJ0_init_db425_32 ⟨Nat.le_of_ble_eq_true rfl, Nat.le_of_ble_eq_true rfl⟩) hS (fun q _ h => hFc q h) hFc (fun u ra t H1 locs ht hvm hw hB hz1 hk1 hS => ?_)
  obtain ⟨q1, cq2, hra, hP1, hK1, hD1⟩ := hB
  rw [hra]
  rw [ht] at hP1
  have hK1 := va_K.moved hvm.symm hK1
  obtain ⟨hP, hD⟩ := va_join (wr := [(h2, .inr (0, [.null, .int 0, .int 0, .int 0])), (h0, .inr (1, [.ref h1, .int 0, .int 0, .int 0]))]) (w1 := [(h1, .inl (k0, 16, .inl (fun _ => 0))), (q1, .inl (cq2, 0, .inl (fun _ => 0)))]) hP hD [0] [1, 2] rfl rfl (by decide) (by decide) hk1 hFc hP1 hD1
  have hK := hK.app (hK1.sub (tys' := [(cq2, .byte)]) [1] rfl)
  generalize H1 = H at hP hS ⊢
  have hK : va_K (dC, dI) vwCl [(k0, .byte), (cq2, .byte)] s := hK
  have hP : va_P (dC, dI) vwCl [(h2, .inr (0, [.null, .int 0, .int 0, .int 0])), (h0, .inr (1, [.ref h1, .int 0, .int 0, .int 0])), (h1, .inl (k0, 16, .inl (fun _ => 0))), (q1, .inl (cq2, 0, .inl (fun _ => 0)))] H := hP
  have hD : va_D A [(h2, .inr (0, [.null, .int 0, .int 0, .int 0])), (h0, .inr (1, [.ref h1, .int 0, .int 0, .int 0])), (h1, .inl (k0, 16, .inl (fun _ => 0))), (q1, .inl (cq2, 0, .inl (fun _ => 0)))] := hD
  refine W.widen (k := 1) (n := 0) (by omega) (by omega) ?_
  refine va_putF (D := (dC, dI)) (ci := 0) (v := .ref q1) (ty := .array .byte) (C := RJ0) (T := TJ0) (N := 4) hx hb hts (by decide +kernel) tyJ0 tyJ0_ok nmJ0 hown hK hP hD hS 0 rfl rfl 0 (by decide) (hts (.fieldLink RJ0 9 "java/lang/String" "value" "[B") (by decide +kernel)) (fun _ h9 => h9) rfl hin rfl (by decide +kernel) rfl rfl (Nat.le_of_ble_eq_true rfl) dJ0_init_db425_35 (fun H locs hP hD hS => ?_)
  have hP : va_P (dC, dI) vwCl [(h2, .inr (0, [.ref q1, .int 0, .int 0, .int 0])), (h0, .inr (1, [.ref h1, .int 0, .int 0, .int 0])), (h1, .inl (k0, 16, .inl (fun _ => 0))), (q1, .inl (cq2, 0, .inl (fun _ => 0)))] H := hP
  have hD : va_D A [(h2, .inr (0, [.ref q1, .int 0, .int 0, .int 0])), (h0, .inr (1, [.ref h1, .int 0, .int 0, .int 0])), (h1, .inl (k0, 16, .inl (fun _ => 0))), (q1, .inl (cq2, 0, .inl (fun _ => 0)))] := hD
  refine lv_goto (tgt := 97) hx hb dJ0_init_db425_38 (by decide) ?_
  have hP := hP.sub (ws' := [(h0, .inr (1, [.ref h1, .int 0, .int 0, .int 0])), (h1, .inl (k0, 16, .inl (fun _ => 0))), (h2, .inr (0, [.ref q1, .int 0, .int 0, .int 0])), (q1, .inl (cq2, 0, .inl (fun _ => 0)))]) [1, 2, 0, 3] rfl
  have hD := hD.sub (ws' := [(h0, .inr (1, [.ref h1, .int 0, .int 0, .int 0])), (h1, .inl (k0, 16, .inl (fun _ => 0))), (h2, .inr (0, [.ref q1, .int 0, .int 0, .int 0])), (q1, .inl (cq2, 0, .inl (fun _ => 0)))]) [1, 2, 0, 3] (by decide) rfl
  exact W.vret hx hb hr (fun t ht hW => ⟨⟨(), rfl, trivial, q1, cq2, by rw [ht]; exact hP, va_K.moved hW.alike hK, hD⟩, hS.F ht⟩) hS.2.2 dJ0_init_db425_97
set_option maxHeartbeats 4000000 in
set_option maxRecDepth 100000 in
theorem kx_J0_init_81219_0 (l : Launch) (dC : Nat → ClassId) (dI : Nat → Nat → Nat) (ge5 gea gv5 gva gde gic gi0 : Nat) (h0 : Nat) (h1 : Nat) (h2 : Nat) (k0 : ClassId) (sz : Nat) : Met l yJ0_init_81219 wsJ0_init_81219 ({ frames := 4, cells := 1, slots := 0, locals := 130 }) (va_Pc [.ref h2, .ref h0] (fun U => U.heap.size = sz ∧ va_P (dC, dI) vwCl [(h0, .inr (1, [.ref h1, .int 0, .int 0, .int 0])), (h1, .inl (k0, 16, .inl (fun _ => 0))), (h2, .inr (0, [.null, .int 0, .int 0, .int 0]))] U.heap ∧ va_K (dC, dI) vwCl [(k0, .byte)] U ∧ va_D (fun _ => True) [(h0, .inr (1, [.ref h1, .int 0, .int 0, .int 0])), (h1, .inl (k0, 16, .inl (fun _ => 0))), (h2, .inr (0, [.null, .int 0, .int 0, .int 0]))] ∧ gv ge5 gea gv5 gva gde gic gi0 (va_A [(h0, .inr (1, [.ref h1, .int 0, .int 0, .int 0])), (h1, .inl (k0, 16, .inl (fun _ => 0))), (h2, .inr (0, [.null, .int 0, .int 0, .int 0]))] sz) U U.heap)) (va_Qv (fun _ : Unit => True) (fun (_ : Unit) (t : State) => ∃ q1 : Nat, ∃ cq2 : ClassId, va_P (dC, dI) vwCl [(h0, .inr (1, [.ref h1, .int 0, .int 0, .int 0])), (h1, .inl (k0, 16, .inl (fun _ => 0))), (h2, .inr (0, [.ref q1, .int 0, .int 0, .int 0])), (q1, .inl (cq2, 0, .inl (fun _ => 0)))] t.heap ∧ va_K (dC, dI) vwCl [(k0, .byte), (cq2, .byte)] t ∧ va_D (va_A [(h0, .inr (1, [.ref h1, .int 0, .int 0, .int 0])), (h1, .inl (k0, 16, .inl (fun _ => 0))), (h2, .inr (0, [.null, .int 0, .int 0, .int 0]))] sz) [(h0, .inr (1, [.ref h1, .int 0, .int 0, .int 0])), (h1, .inl (k0, 16, .inl (fun _ => 0))), (h2, .inr (0, [.ref q1, .int 0, .int 0, .int 0])), (q1, .inl (cq2, 0, .inl (fun _ => 0)))]) (va_A [(h0, .inr (1, [.ref h1, .int 0, .int 0, .int 0])), (h1, .inl (k0, 16, .inl (fun _ => 0))), (h2, .inr (0, [.null, .int 0, .int 0, .int 0]))] sz)) 1 0 (va_A [(h0, .inr (1, [.ref h1, .int 0, .int 0, .int 0])), (h1, .inl (k0, 16, .inl (fun _ => 0))), (h2, .inr (0, [.null, .int 0, .int 0, .int 0]))] sz) := by
  refine Met.ofW (cc := cJ0_init_81219) (maxL := 2) (ret := none) (by decide) rfl ?_
  intro p e s m args below meth c s₁ B hml hv
  obtain ⟨rfl, hsz, hP, hK, hD0, hG⟩ := hv
  have hx := B.exec
  have hb := B.bytes
  have hr := B.returns
  have hts := atoms_spec (ws := wsJ0_init_81219) B.pre
  have hown : s.vm.findClass RJ0 = some m.cls := findClass_of_methodNamed B.named
  have hlocks := B.notSynchronized
  have hin : meth.name = "<init>" := (name_of_methodNamed B.named B.method).1
  subst hsz
  have hD := hD0.self (sz := s.heap.size)
  generalize hAe : va_A [(h0, .inr (1, [.ref h1, .int 0, .int 0, .int 0])), (h1, .inl (k0, 16, .inl (fun _ => 0))), (h2, .inr (0, [.null, .int 0, .int 0, .int 0]))] s.heap.size = A at hD hG ⊢
  obtain ⟨⟨g_AO_Text, g_AO_String, g_AO_Object, g_nm_RX1_20, g_nm_RX0_17, g_nm_RX3_31, g_nm_RX2_44, g_nm_RL_121, g_nf_RL_13, g_nf_RL_47, g_ca_IO, g_ca_IA, g_ca_IS, g_ca_IntObj, g_ca_StrObj, g_de_RT, g_de_EX, g_de_TH, g_nc_IA_IO, g_nc_IS_IO, g_nc_IS_IA⟩, ⟨g_s3, g_s5, g_sa, g_x278, g_x280, g_x282, g_x284, g_x286, g_x180, g_x238, g_x250⟩, ⟨g_o5, g_c5, g_v5, g_t5, g_oa, g_ca, g_va, g_ta, g_zc, g_zd, g_td, g_zf, g_zU, g_zN, g_zh, g_zk, g_tk, g_oi, g_vi⟩⟩ := id hG
  have hA : ∀ q : Nat, s.heap.size ≤ q → A q := fun q h => by rw [← hAe]; exact Or.inr h
  have hS : va_S A s.heap s.heap [] := va_S.rf
  have hP : va_P (dC, dI) vwCl [(h0, .inr (1, [.ref h1, .int 0, .int 0, .int 0])), (h1, .inl (k0, 16, .inl (fun _ => 0))), (h2, .inr (0, [.null, .int 0, .int 0, .int 0]))] s.heap := hP
  have hl := lv_entry ([.ref h2, .ref h0]) (n := 2) (Nat.le_of_ble_eq_true rfl)
  rw [lg_entry_eq]
  generalize (lg_sl ([.ref h2, .ref h0]) ++ List.replicate (2 - (lg_sl ([.ref h2, .ref h0])).length) Slot.unset).toArray = ls at hl ⊢
  have hl : lv_has ls 2 [(0, .ref h2), (1, .ref h0)] := hl
  refine lv_aload_n hx hb dJ0_init_81219_0 rfl (lv_at hl 0 rfl) ?_
  refine lv_aload_n hx hb dJ0_init_81219_1 rfl (lv_at hl 1 rfl) ?_
  refine lv_null hx hb dJ0_init_81219_2 ?_
  have hPc := hP.sub (ws' := [(h0, .inr (1, [.ref h1, .int 0, .int 0, .int 0])), (h1, .inl (k0, 16, .inl (fun _ => 0))), (h2, .inr (0, [.null, .int 0, .int 0, .int 0]))]) [0, 1, 2] rfl
  have hDc := hD.sub (ws' := [(h0, .inr (1, [.ref h1, .int 0, .int 0, .int 0])), (h1, .inl (k0, 16, .inl (fun _ => 0))), (h2, .inr (0, [.null, .int 0, .int 0, .int 0]))]) [0, 1, 2] (by decide) rfl
  have hKc := hK.sub (tys' := [(k0, .byte)]) [0] rfl
  have hFc := va_free (wc := [(h0, .inr (1, [.ref h1, .int 0, .int 0, .int 0])), (h1, .inl (k0, 16, .inl (fun _ => 0))), (h2, .inr (0, [.null, .int 0, .int 0, .int 0]))]) hD hS hA [0, 1, 2] rfl
  refine va_callv (va_runI (As := [.ref h0, .null]) (rest := []) ⟨hx, hb, hml, hown, hts⟩ (kx_J0_init_db425_0 l dC dI ge5 gea gv5 gva gde gic gi0 h0 h1 h2 k0 s.heap.size) (cwI 2 hts gJ0_init_81219_J0_init_db425 rfl rfl rfl (hts (.initialized RJ0) (by decide +kernel)) (hts (.methodLink RJ0 489 yJ0_init_db425) (by decide +kernel)) (hts (.instanceMethod yJ0_init_db425) (by decide +kernel)) rfl (by decide +kernel) ⟨Nat.le_of_ble_eq_true rfl, Nat.le_of_ble_eq_true rfl⟩) ⟨fun a U g mk q => by obtain ⟨q0, q1, qP, qK, qD, qG⟩ := q; exact ⟨q0, q1, qP, va_K.moved (u := U) (U := U.calling g mk a) (Vm.Alike.refl U.vm) qK, qD, gv.fb qG⟩, fun U hU hW => ⟨rfl, by rw [hU], by rw [hU]; exact hPc, va_K.moved hW.alike hKc, hDc.weaken (fun _ _ _ _ => trivial), gv.pass hW hU hS hFc hG⟩⟩ rfl rfl hl.1 rfl (lv_room (Nat.le_of_ble_eq_true rfl)) dJ0_init_81219_3 ⟨Nat.le_of_ble_eq_true rfl, Nat.le_of_ble_eq_true rfl⟩) hS (fun q _ h => hFc q h) hFc (fun u t H1 locs ht hvm hw hB hz1 hk1 hS => ?_)
  obtain ⟨q1, cq2, hP1, hK1, hD1⟩ := hB
  rw [ht] at hP1
  have hK1 := va_K.moved hvm.symm hK1
  obtain ⟨hP, hD⟩ := va_join (wr := []) (w1 := [(h0, .inr (1, [.ref h1, .int 0, .int 0, .int 0])), (h1, .inl (k0, 16, .inl (fun _ => 0))), (h2, .inr (0, [.ref q1, .int 0, .int 0, .int 0])), (q1, .inl (cq2, 0, .inl (fun _ => 0)))]) hP hD [0, 1, 2] [] rfl rfl (by decide) (by decide) hk1 hFc hP1 hD1
  have hK := hK.app (hK1.sub (tys' := [(cq2, .byte)]) [1] rfl)
  generalize H1 = H at hP hS ⊢
  have hK : va_K (dC, dI) vwCl [(k0, .byte), (cq2, .byte)] s := hK
  have hP : va_P (dC, dI) vwCl [(h0, .inr (1, [.ref h1, .int 0, .int 0, .int 0])), (h1, .inl (k0, 16, .inl (fun _ => 0))), (h2, .inr (0, [.ref q1, .int 0, .int 0, .int 0])), (q1, .inl (cq2, 0, .inl (fun _ => 0)))] H := hP
  have hD : va_D A [(h0, .inr (1, [.ref h1, .int 0, .int 0, .int 0])), (h1, .inl (k0, 16, .inl (fun _ => 0))), (h2, .inr (0, [.ref q1, .int 0, .int 0, .int 0])), (q1, .inl (cq2, 0, .inl (fun _ => 0)))] := hD
  refine W.widen (k := 1) (n := 0) (by omega) (by omega) ?_
  exact W.vret hx hb hr (fun t ht hW => ⟨⟨(), rfl, trivial, q1, cq2, by rw [ht]; exact hP, va_K.moved hW.alike hK, hD⟩, hS.F ht⟩) hS.2.2 dJ0_init_81219_6
set_option maxHeartbeats 4000000 in
set_option maxRecDepth 100000 in
theorem kx_J4_toString_0e30d_0 (l : Launch) (dC : Nat → ClassId) (dI : Nat → Nat → Nat) (ge5 gea gv5 gva gde gic gi0 : Nat) (h0 : Nat) (h1 : Nat) (k0 : ClassId) (sz : Nat) : Met l yJ4_toString_0e30d wsJ4_toString_0e30d ({ frames := 5, cells := 2, slots := 4, locals := 151 }) (va_Pc [.ref h0] (fun U => U.heap.size = sz ∧ va_P (dC, dI) vwCl [(h0, .inr (1, [.ref h1, .int 0, .int 0, .int 0])), (h1, .inl (k0, 16, .inl (fun _ => 0)))] U.heap ∧ va_K (dC, dI) vwCl [(k0, .byte)] U ∧ va_D (fun _ => True) [(h0, .inr (1, [.ref h1, .int 0, .int 0, .int 0])), (h1, .inl (k0, 16, .inl (fun _ => 0)))] ∧ gv ge5 gea gv5 gva gde gic gi0 (va_A [(h0, .inr (1, [.ref h1, .int 0, .int 0, .int 0])), (h1, .inl (k0, 16, .inl (fun _ => 0)))] sz) U U.heap)) (va_Qr (fun _ : Unit => True) (fun (_ : Unit) (ra : Nat) (t : State) => ∃ q1 : Nat, ∃ q2 : Nat, ∃ cq3 : ClassId, ra = q1 ∧ va_P (dC, dI) vwCl [(h0, .inr (1, [.ref h1, .int 0, .int 0, .int 0])), (h1, .inl (k0, 16, .inl (fun _ => 0))), (q1, .inr (0, [.ref q2, .int 0, .int 0, .int 0])), (q2, .inl (cq3, 0, .inl (fun _ => 0)))] t.heap ∧ va_K (dC, dI) vwCl [(k0, .byte), (cq3, .byte)] t ∧ va_D (va_A [(h0, .inr (1, [.ref h1, .int 0, .int 0, .int 0])), (h1, .inl (k0, 16, .inl (fun _ => 0)))] sz) [(h0, .inr (1, [.ref h1, .int 0, .int 0, .int 0])), (h1, .inl (k0, 16, .inl (fun _ => 0))), (q1, .inr (0, [.ref q2, .int 0, .int 0, .int 0])), (q2, .inl (cq3, 0, .inl (fun _ => 0)))]) (va_A [(h0, .inr (1, [.ref h1, .int 0, .int 0, .int 0])), (h1, .inl (k0, 16, .inl (fun _ => 0)))] sz)) 2 4 (va_A [(h0, .inr (1, [.ref h1, .int 0, .int 0, .int 0])), (h1, .inl (k0, 16, .inl (fun _ => 0)))] sz) := by
  refine Met.ofW (cc := cJ4_toString_0e30d) (maxL := 1) (ret := (some (.object "java/lang/String"))) (by decide) rfl ?_
  intro p e s m args below meth c s₁ B hml hv
  obtain ⟨rfl, hsz, hP, hK, hD0, hG⟩ := hv
  have hx := B.exec
  have hb := B.bytes
  have hr := B.returns
  have hts := atoms_spec (ws := wsJ4_toString_0e30d) B.pre
  have hown : s.vm.findClass RJ4 = some m.cls := findClass_of_methodNamed B.named
  have hlocks := B.notSynchronized
  subst hsz
  have hD := hD0.self (sz := s.heap.size)
  generalize hAe : va_A [(h0, .inr (1, [.ref h1, .int 0, .int 0, .int 0])), (h1, .inl (k0, 16, .inl (fun _ => 0)))] s.heap.size = A at hD hG ⊢
  obtain ⟨⟨g_AO_Text, g_AO_String, g_AO_Object, g_nm_RX1_20, g_nm_RX0_17, g_nm_RX3_31, g_nm_RX2_44, g_nm_RL_121, g_nf_RL_13, g_nf_RL_47, g_ca_IO, g_ca_IA, g_ca_IS, g_ca_IntObj, g_ca_StrObj, g_de_RT, g_de_EX, g_de_TH, g_nc_IA_IO, g_nc_IS_IO, g_nc_IS_IA⟩, ⟨g_s3, g_s5, g_sa, g_x278, g_x280, g_x282, g_x284, g_x286, g_x180, g_x238, g_x250⟩, ⟨g_o5, g_c5, g_v5, g_t5, g_oa, g_ca, g_va, g_ta, g_zc, g_zd, g_td, g_zf, g_zU, g_zN, g_zh, g_zk, g_tk, g_oi, g_vi⟩⟩ := id hG
  have hA : ∀ q : Nat, s.heap.size ≤ q → A q := fun q h => by rw [← hAe]; exact Or.inr h
  have hS : va_S A s.heap s.heap [] := va_S.rf
  have hP : va_P (dC, dI) vwCl [(h0, .inr (1, [.ref h1, .int 0, .int 0, .int 0])), (h1, .inl (k0, 16, .inl (fun _ => 0)))] s.heap := hP
  have hl := lv_entry ([.ref h0]) (n := 1) (Nat.le_of_ble_eq_true rfl)
  rw [lg_entry_eq]
  generalize (lg_sl ([.ref h0]) ++ List.replicate (1 - (lg_sl ([.ref h0])).length) Slot.unset).toArray = ls at hl ⊢
  have hl : lv_has ls 1 [(0, .ref h0)] := hl
  refine va_new (ci := 0) (fs := [.null, .int 0, .int 0, .int 0]) (C := RJ0) (T := TJ0) (N := 4) hx hb hts (by decide +kernel) tyJ0 tyJ0_ok hown (hts (.classLink RJ4 18 RJ0) (by decide +kernel)) (hts (.instantiable RJ0 4) (by decide +kernel)) (hts (.initialized RJ0) (by decide +kernel)) hK hP hD hS hA rfl (fun j hj => by rcases (show j = 0 ∨ j = 1 ∨ j = 2 ∨ j = 3 by omega) with rfl | rfl | rfl | rfl <;> rfl) (Nat.le_of_ble_eq_true rfl) (Nat.le_of_ble_eq_true rfl) dJ4_toString_0e30d_0 (fun q1 H hP hD hS => ?_)
  have hP : va_P (dC, dI) vwCl [(h0, .inr (1, [.ref h1, .int 0, .int 0, .int 0])), (h1, .inl (k0, 16, .inl (fun _ => 0))), (q1, .inr (0, [.null, .int 0, .int 0, .int 0]))] H := hP
  have hD : va_D A [(h0, .inr (1, [.ref h1, .int 0, .int 0, .int 0])), (h1, .inl (k0, 16, .inl (fun _ => 0))), (q1, .inr (0, [.null, .int 0, .int 0, .int 0]))] := hD
  refine W.widen (k := 1) (n := 4) (by omega) (by omega) ?_
  refine lv_dup hx hb dJ4_toString_0e30d_3 rfl ?_
  refine lv_aload_n hx hb dJ4_toString_0e30d_4 rfl (lv_at hl 0 rfl) ?_
  have hPc := hP.sub (ws' := [(h0, .inr (1, [.ref h1, .int 0, .int 0, .int 0])), (h1, .inl (k0, 16, .inl (fun _ => 0))), (q1, .inr (0, [.null, .int 0, .int 0, .int 0]))]) [0, 1, 2] rfl
  have hDc := hD.sub (ws' := [(h0, .inr (1, [.ref h1, .int 0, .int 0, .int 0])), (h1, .inl (k0, 16, .inl (fun _ => 0))), (q1, .inr (0, [.null, .int 0, .int 0, .int 0]))]) [0, 1, 2] (by decide) rfl
  have hKc := hK.sub (tys' := [(k0, .byte)]) [0] rfl
  have hFc := va_free (wc := [(h0, .inr (1, [.ref h1, .int 0, .int 0, .int 0])), (h1, .inl (k0, 16, .inl (fun _ => 0))), (q1, .inr (0, [.null, .int 0, .int 0, .int 0]))]) hD hS hA [0, 1, 2] rfl
  refine va_callv (va_runI (As := [.ref h0]) (rest := [.ref q1]) ⟨hx, hb, hml, hown, hts⟩ (kx_J0_init_81219_0 l dC dI ge5 gea gv5 gva gde gic gi0 h0 h1 q1 k0 H.size) (cwI 1 hts gJ4_toString_0e30d_J0_init_81219 rfl rfl rfl (hts (.initialized RJ0) (by decide +kernel)) (hts (.methodLink RJ4 137 yJ0_init_81219) (by decide +kernel)) (hts (.instanceMethod yJ0_init_81219) (by decide +kernel)) rfl (by decide +kernel) ⟨Nat.le_of_ble_eq_true rfl, Nat.le_of_ble_eq_true rfl⟩) ⟨fun a U g mk q => by obtain ⟨q0, q1, qP, qK, qD, qG⟩ := q; exact ⟨q0, q1, qP, va_K.moved (u := U) (U := U.calling g mk a) (Vm.Alike.refl U.vm) qK, qD, gv.fb qG⟩, fun U hU hW => ⟨rfl, by rw [hU], by rw [hU]; exact hPc, va_K.moved hW.alike hKc, hDc.weaken (fun _ _ _ _ => trivial), gv.pass hW hU hS hFc hG⟩⟩ rfl rfl hl.1 rfl (lv_room (Nat.le_of_ble_eq_true rfl)) dJ4_toString_0e30d_5 ⟨Nat.le_of_ble_eq_true rfl, Nat.le_of_ble_eq_true rfl⟩) hS (fun q _ h => hFc q h) hFc (fun u t H1 locs ht hvm hw hB hz1 hk1 hS => ?_)
  obtain ⟨q2, cq3, hP1, hK1, hD1⟩ := hB
  rw [ht] at hP1
  have hK1 := va_K.moved hvm.symm hK1
  obtain ⟨hP, hD⟩ := va_join (wr := []) (w1 := [(h0, .inr (1, [.ref h1, .int 0, .int 0, .int 0])), (h1, .inl (k0, 16, .inl (fun _ => 0))), (q1, .inr (0, [.ref q2, .int 0, .int 0, .int 0])), (q2, .inl (cq3, 0, .inl (fun _ => 0)))]) hP hD [0, 1, 2] [] rfl rfl (by decide) (by decide) hk1 hFc hP1 hD1
  have hK := hK.app (hK1.sub (tys' := [(cq3, .byte)]) [1] rfl)
  generalize H1 = H at hP hS ⊢
  have hK : va_K (dC, dI) vwCl [(k0, .byte), (cq3, .byte)] s := hK
  have hP : va_P (dC, dI) vwCl [(h0, .inr (1, [.ref h1, .int 0, .int 0, .int 0])), (h1, .inl (k0, 16, .inl (fun _ => 0))), (q1, .inr (0, [.ref q2, .int 0, .int 0, .int 0])), (q2, .inl (cq3, 0, .inl (fun _ => 0)))] H := hP
  have hD : va_D A [(h0, .inr (1, [.ref h1, .int 0, .int 0, .int 0])), (h1, .inl (k0, 16, .inl (fun _ => 0))), (q1, .inr (0, [.ref q2, .int 0, .int 0, .int 0])), (q2, .inl (cq3, 0, .inl (fun _ => 0)))] := hD
  refine W.widen (k := 2) (n := 4) (by omega) (by omega) ?_
  exact W.aret (v := .ref q1) hx hb hr (Or.inl ⟨_, rfl⟩) (Or.inr ⟨_, rfl⟩) (fun t ht hW => ⟨⟨(), q1, rfl, trivial, q1, q2, cq3, rfl, by rw [ht]; exact hP, va_K.moved hW.alike hK, hD⟩, hS.F ht⟩) hS.2.2 dJ4_toString_0e30d_8
set_option maxHeartbeats 4000000 in
set_option maxRecDepth 100000 in
theorem kx_X2_appendTo_0 (l : Launch) (dC : Nat → ClassId) (dI : Nat → Nat → Nat) (h0 : Nat) (z0 : Nat) (z1 : Nat) (sz : Nat) : Met l yX2_appendTo wsX2_appendTo ({ frames := 0, cells := 0, slots := 0, locals := 0 }) (va_Pc [.ref h0, .ref z0] (fun U => U.heap.size = sz ∧ va_P (dC, dI) vwCl [(h0, .inr (6, [.ref z1, .int 0]))] U.heap ∧ va_K (dC, dI) vwCl [] U ∧ va_D (fun _ => True) [(h0, .inr (6, [.ref z1, .int 0]))])) (va_Qv (fun _ : Unit => True) (fun (_ : Unit) (t : State) => va_P (dC, dI) vwCl [(h0, .inr (6, [.ref z1, .int 0]))] t.heap ∧ va_K (dC, dI) vwCl [] t ∧ va_D (va_A [(h0, .inr (6, [.ref z1, .int 0]))] sz) [(h0, .inr (6, [.ref z1, .int 0]))]) (va_A [(h0, .inr (6, [.ref z1, .int 0]))] sz)) 0 0 (va_A [(h0, .inr (6, [.ref z1, .int 0]))] sz) := by
  refine Met.ofW (cc := cX2_appendTo) (maxL := 3) (ret := none) (by decide) rfl ?_
  intro p e s m args below meth c s₁ B hml hv
  obtain ⟨rfl, hsz, hP, hK, hD0⟩ := hv
  have hx := B.exec
  have hb := B.bytes
  have hr := B.returns
  have hts := atoms_spec (ws := wsX2_appendTo) B.pre
  have hown : s.vm.findClass RX2 = some m.cls := findClass_of_methodNamed B.named
  have hlocks := B.notSynchronized
  subst hsz
  have hD := hD0.self (sz := s.heap.size)
  generalize hAe : va_A [(h0, .inr (6, [.ref z1, .int 0]))] s.heap.size = A at hD ⊢
  have hA : ∀ q : Nat, s.heap.size ≤ q → A q := fun q h => by rw [← hAe]; exact Or.inr h
  have hS : va_S A s.heap s.heap [] := va_S.rf
  have hP : va_P (dC, dI) vwCl [(h0, .inr (6, [.ref z1, .int 0]))] s.heap := hP
  have hl := lv_entry ([.ref h0, .ref z0]) (n := 3) (Nat.le_of_ble_eq_true rfl)
  rw [lg_entry_eq]
  generalize (lg_sl ([.ref h0, .ref z0]) ++ List.replicate (3 - (lg_sl ([.ref h0, .ref z0])).length) Slot.unset).toArray = ls at hl ⊢
  have hl : lv_has ls 3 [(0, .ref h0), (1, .ref z0)] := hl
  refine lv_iconst (v := 0) hx hb dX2_appendTo_0 (by decide) ?_
  refine lv_istore_n (lv' := [(2, .int 0), (0, .ref h0), (1, .ref z0)]) hx hb dX2_appendTo_1 rfl hl (by decide) rfl (fun ls hl => ?_)
  refine lv_iload_n hx hb dX2_appendTo_2 rfl (lv_at hl 0 rfl) ?_
  refine lv_aload_n hx hb dX2_appendTo_3 rfl (lv_at hl 1 rfl) ?_
  refine va_get (D := (dC, dI)) (ci := 6) (v := .int 0) (C := RX2) (T := TX2) (N := 2) hx hb hts (by decide +kernel) hown hK hP 0 rfl rfl 1 (by decide) (hts (.fieldLink RX2 15 "Rewriterope$Text" "length" "I") (by decide +kernel)) (fun _ h9 => h9) rfl dX2_appendTo_4 ?_
  refine lv_icmp_ge (tgt := 31) hx hb dX2_appendTo_7 (by decide) (fun _ => ?_) (fun c9 => absurd (by decide) c9)
  exact W.vret hx hb hr (fun t ht hW => ⟨⟨(), rfl, trivial, by rw [ht]; exact hP, va_K.moved hW.alike hK, hD⟩, hS.F ht⟩) hS.2.2 dX2_appendTo_31
set_option maxHeartbeats 4000000 in
set_option maxRecDepth 100000 in
theorem kx_X2_asString_0 (l : Launch) (dC : Nat → ClassId) (dI : Nat → Nat → Nat) (ge5 gea gv5 gva gde gic gi0 : Nat) (h0 : Nat) (z0 : Nat) (sz : Nat) : Met l yX2_asString wsX2_asString ({ frames := 6, cells := 4, slots := 24, locals := 171 }) (va_Pc [.ref h0] (fun U => U.heap.size = sz ∧ va_P (dC, dI) vwCl [(h0, .inr (6, [.ref z0, .int 0]))] U.heap ∧ va_K (dC, dI) vwCl [] U ∧ va_D (fun _ => True) [(h0, .inr (6, [.ref z0, .int 0]))] ∧ gv ge5 gea gv5 gva gde gic gi0 (va_A [(h0, .inr (6, [.ref z0, .int 0]))] sz) U U.heap)) (va_Qr (fun _ : Unit => True) (fun (_ : Unit) (ra : Nat) (t : State) => ∃ q1 : Nat, ∃ q2 : Nat, ∃ q4 : Nat, ∃ q5 : Nat, ∃ cq3 : ClassId, ∃ cq6 : ClassId, ra = q4 ∧ va_P (dC, dI) vwCl [(h0, .inr (6, [.ref z0, .int 0])), (q1, .inr (1, [.ref q2, .int 0, .int 0, .int 0])), (q2, .inl (cq3, 16, .inl (fun _ => 0))), (q4, .inr (0, [.ref q5, .int 0, .int 0, .int 0])), (q5, .inl (cq6, 0, .inl (fun _ => 0)))] t.heap ∧ va_K (dC, dI) vwCl [(cq3, .byte), (cq6, .byte)] t ∧ va_D (va_A [(h0, .inr (6, [.ref z0, .int 0]))] sz) [(h0, .inr (6, [.ref z0, .int 0])), (q1, .inr (1, [.ref q2, .int 0, .int 0, .int 0])), (q2, .inl (cq3, 16, .inl (fun _ => 0))), (q4, .inr (0, [.ref q5, .int 0, .int 0, .int 0])), (q5, .inl (cq6, 0, .inl (fun _ => 0)))]) (va_A [(h0, .inr (6, [.ref z0, .int 0]))] sz)) 4 24 (va_A [(h0, .inr (6, [.ref z0, .int 0]))] sz) := by
  refine Met.ofW (cc := cX2_asString) (maxL := 2) (ret := (some (.object "java/lang/String"))) (by decide) rfl ?_
  intro p e s m args below meth c s₁ B hml hv
  obtain ⟨rfl, hsz, hP, hK, hD0, hG⟩ := hv
  have hx := B.exec
  have hb := B.bytes
  have hr := B.returns
  have hts := atoms_spec (ws := wsX2_asString) B.pre
  have hown : s.vm.findClass RX2 = some m.cls := findClass_of_methodNamed B.named
  have hlocks := B.notSynchronized
  subst hsz
  have hD := hD0.self (sz := s.heap.size)
  generalize hAe : va_A [(h0, .inr (6, [.ref z0, .int 0]))] s.heap.size = A at hD hG ⊢
  obtain ⟨⟨g_AO_Text, g_AO_String, g_AO_Object, g_nm_RX1_20, g_nm_RX0_17, g_nm_RX3_31, g_nm_RX2_44, g_nm_RL_121, g_nf_RL_13, g_nf_RL_47, g_ca_IO, g_ca_IA, g_ca_IS, g_ca_IntObj, g_ca_StrObj, g_de_RT, g_de_EX, g_de_TH, g_nc_IA_IO, g_nc_IS_IO, g_nc_IS_IA⟩, ⟨g_s3, g_s5, g_sa, g_x278, g_x280, g_x282, g_x284, g_x286, g_x180, g_x238, g_x250⟩, ⟨g_o5, g_c5, g_v5, g_t5, g_oa, g_ca, g_va, g_ta, g_zc, g_zd, g_td, g_zf, g_zU, g_zN, g_zh, g_zk, g_tk, g_oi, g_vi⟩⟩ := id hG
  have hA : ∀ q : Nat, s.heap.size ≤ q → A q := fun q h => by rw [← hAe]; exact Or.inr h
  have hS : va_S A s.heap s.heap [] := va_S.rf
  have hP : va_P (dC, dI) vwCl [(h0, .inr (6, [.ref z0, .int 0]))] s.heap := hP
  have hl := lv_entry ([.ref h0]) (n := 2) (Nat.le_of_ble_eq_true rfl)
  rw [lg_entry_eq]
  generalize (lg_sl ([.ref h0]) ++ List.replicate (2 - (lg_sl ([.ref h0])).length) Slot.unset).toArray = ls at hl ⊢
  have hl : lv_has ls 2 [(0, .ref h0)] := hl
  refine va_new (ci := 1) (fs := [.null, .int 0, .int 0, .int 0]) (C := RJ4) (T := TJ4) (N := 4) hx hb hts (by decide +kernel) tyJ4 tyJ4_ok hown (hts (.classLink RX2 30 RJ4) (by decide +kernel)) (hts (.instantiable RJ4 4) (by decide +kernel)) (hts (.initialized RJ4) (by decide +kernel)) hK hP hD hS hA rfl (fun j hj => by rcases (show j = 0 ∨ j = 1 ∨ j = 2 ∨ j = 3 by omega) with rfl | rfl | rfl | rfl <;> rfl) (Nat.le_of_ble_eq_true rfl) (Nat.le_of_ble_eq_true rfl) dX2_asString_0 (fun q1 H hP hD hS => ?_)
  have hP : va_P (dC, dI) vwCl [(h0, .inr (6, [.ref z0, .int 0])), (q1, .inr (1, [.null, .int 0, .int 0, .int 0]))] H := hP
  have hD : va_D A [(h0, .inr (6, [.ref z0, .int 0])), (q1, .inr (1, [.null, .int 0, .int 0, .int 0]))] := hD
  refine W.widen (k := 1) (n := 4) (by omega) (by omega) ?_
  refine lv_dup hx hb dX2_asString_3 rfl ?_
  have hPc := hP.sub (ws' := [(q1, .inr (1, [.null, .int 0, .int 0, .int 0]))]) [1] rfl
  have hDc := hD.sub (ws' := [(q1, .inr (1, [.null, .int 0, .int 0, .int 0]))]) [1] (by decide) rfl
  have hKc := hK.sub (tys' := []) [] rfl
  have hFc := va_free (wc := [(q1, .inr (1, [.null, .int 0, .int 0, .int 0]))]) hD hS hA [1] rfl
  refine va_callv (va_runI (As := []) (rest := [.ref q1]) ⟨hx, hb, hml, hown, hts⟩ (kx_J4_init_da8c8_0 l dC dI ge5 gea gv5 gva gde gic gi0 q1 H.size) (cwI 0 hts gX2_asString_J4_init_da8c8 rfl rfl rfl (hts (.initialized RJ4) (by decide +kernel)) (hts (.methodLink RX2 35 yJ4_init_da8c8) (by decide +kernel)) (hts (.instanceMethod yJ4_init_da8c8) (by decide +kernel)) rfl (by decide +kernel) ⟨Nat.le_of_ble_eq_true rfl, Nat.le_of_ble_eq_true rfl⟩) ⟨fun a U g mk q => by obtain ⟨q0, q1, qP, qK, qD, qG⟩ := q; exact ⟨q0, q1, qP, va_K.moved (u := U) (U := U.calling g mk a) (Vm.Alike.refl U.vm) qK, qD, gv.fb qG⟩, fun U hU hW => ⟨rfl, by rw [hU], by rw [hU]; exact hPc, va_K.moved hW.alike hKc, hDc.weaken (fun _ _ _ _ => trivial), gv.pass hW hU hS hFc hG⟩⟩ rfl rfl hl.1 rfl (lv_room (Nat.le_of_ble_eq_true rfl)) dX2_asString_4 ⟨Nat.le_of_ble_eq_true rfl, Nat.le_of_ble_eq_true rfl⟩) hS (fun q _ h => hFc q h) hFc (fun u t H1 locs ht hvm hw hB hz1 hk1 hS => ?_)
  obtain ⟨q2, cq3, hP1, hK1, hD1⟩ := hB
  rw [ht] at hP1
  have hK1 := va_K.moved hvm.symm hK1
  obtain ⟨hP, hD⟩ := va_join (wr := [(h0, .inr (6, [.ref z0, .int 0]))]) (w1 := [(q1, .inr (1, [.ref q2, .int 0, .int 0, .int 0])), (q2, .inl (cq3, 16, .inl (fun _ => 0)))]) hP hD [1] [0] rfl rfl (by decide) (by decide) hk1 hFc hP1 hD1
  have hK := hK.app (hK1.sub (tys' := [(cq3, .byte)]) [0] rfl)
  generalize H1 = H at hP hS ⊢
  have hK : va_K (dC, dI) vwCl [(cq3, .byte)] s := hK
  have hP : va_P (dC, dI) vwCl [(h0, .inr (6, [.ref z0, .int 0])), (q1, .inr (1, [.ref q2, .int 0, .int 0, .int 0])), (q2, .inl (cq3, 16, .inl (fun _ => 0)))] H := hP
  have hD : va_D A [(h0, .inr (6, [.ref z0, .int 0])), (q1, .inr (1, [.ref q2, .int 0, .int 0, .int 0])), (q2, .inl (cq3, 16, .inl (fun _ => 0)))] := hD
  refine W.widen (k := 2) (n := 20) (by omega) (by omega) ?_
  refine lv_astore_n (lv' := [(1, .ref q1), (0, .ref h0)]) hx hb dX2_asString_7 rfl hl (by decide) rfl (fun ls hl => ?_)
  refine lv_aload_n hx hb dX2_asString_8 rfl (lv_at hl 1 rfl) ?_
  refine lv_aload_n hx hb dX2_asString_9 rfl (lv_at hl 0 rfl) ?_
  have hPc := hP.sub (ws' := [(h0, .inr (6, [.ref z0, .int 0]))]) [0] rfl
  have hDc := hD.sub (ws' := [(h0, .inr (6, [.ref z0, .int 0]))]) [0] (by decide) rfl
  have hKc := hK.sub (tys' := []) [] rfl
  have hFc := va_free (wc := [(h0, .inr (6, [.ref z0, .int 0]))]) hD hS hA [0] rfl
  refine va_callv (va_runV (As := [.ref q1]) (rest := []) ⟨hx, hb, hml, hown, hts⟩ (kx_X2_appendTo_0 l dC dI h0 q1 z0 H.size) (cwV 1 hts gX2_asString_X2_appendTo rfl rfl rfl (by decide +kernel) ⟨Nat.le_of_ble_eq_true rfl, Nat.le_of_ble_eq_true rfl⟩) ⟨fun a U g mk q => by obtain ⟨q0, q1, qP, qK, qD⟩ := q; exact ⟨q0, q1, qP, va_K.moved (u := U) (U := U.calling g mk a) (Vm.Alike.refl U.vm) qK, qD⟩, va_recv hKc hPc (ci := 6) (q0 := 0) rfl rfl, fun U hU hW => ⟨rfl, by rw [hU], by rw [hU]; exact hPc, va_K.moved hW.alike hKc, hDc.weaken (fun _ _ _ _ => trivial)⟩⟩ rfl rfl hl.1 rfl (lv_room (Nat.le_of_ble_eq_true rfl)) dX2_asString_10 ⟨Nat.le_of_ble_eq_true rfl, Nat.le_of_ble_eq_true rfl⟩) hS (fun q _ h => hFc q h) hFc (fun u t H1 locs ht hvm hw hB hz1 hk1 hS => ?_)
  obtain ⟨hP1, hK1, hD1⟩ := hB
  rw [ht] at hP1
  have hK1 := va_K.moved hvm.symm hK1
  obtain ⟨hP, hD⟩ := va_join (wr := [(q1, .inr (1, [.ref q2, .int 0, .int 0, .int 0])), (q2, .inl (cq3, 16, .inl (fun _ => 0)))]) (w1 := [(h0, .inr (6, [.ref z0, .int 0]))]) hP hD [0] [1, 2] rfl rfl (by decide) (by decide) hk1 hFc hP1 hD1
  generalize H1 = H at hP hS ⊢
  have hP : va_P (dC, dI) vwCl [(q1, .inr (1, [.ref q2, .int 0, .int 0, .int 0])), (q2, .inl (cq3, 16, .inl (fun _ => 0))), (h0, .inr (6, [.ref z0, .int 0]))] H := hP
  have hD : va_D A [(q1, .inr (1, [.ref q2, .int 0, .int 0, .int 0])), (q2, .inl (cq3, 16, .inl (fun _ => 0))), (h0, .inr (6, [.ref z0, .int 0]))] := hD
  refine lv_aload_n hx hb dX2_asString_13 rfl (lv_at hl 0 rfl) ?_
  have hPc := hP.sub (ws' := [(q1, .inr (1, [.ref q2, .int 0, .int 0, .int 0])), (q2, .inl (cq3, 16, .inl (fun _ => 0)))]) [0, 1] rfl
  have hDc := hD.sub (ws' := [(q1, .inr (1, [.ref q2, .int 0, .int 0, .int 0])), (q2, .inl (cq3, 16, .inl (fun _ => 0)))]) [0, 1] (by decide) rfl
  have hKc := hK.sub (tys' := [(cq3, .byte)]) [0] rfl
  have hFc := va_free (wc := [(q1, .inr (1, [.ref q2, .int 0, .int 0, .int 0])), (q2, .inl (cq3, 16, .inl (fun _ => 0)))]) hD hS hA [0, 1] rfl
  refine va_callr (va_runV (As := []) (rest := []) ⟨hx, hb, hml, hown, hts⟩ (kx_J4_toString_0e30d_0 l dC dI ge5 gea gv5 gva gde gic gi0 q1 q2 cq3 H.size) (cwV 0 hts gX2_asString_J4_toString_0e30d rfl rfl rfl (by decide +kernel) ⟨Nat.le_of_ble_eq_true rfl, Nat.le_of_ble_eq_true rfl⟩) ⟨fun a U g mk q => by obtain ⟨q0, q1, qP, qK, qD, qG⟩ := q; exact ⟨q0, q1, qP, va_K.moved (u := U) (U := U.calling g mk a) (Vm.Alike.refl U.vm) qK, qD, gv.fb qG⟩, va_recv hKc hPc (ci := 1) (q0 := 0) rfl rfl, fun U hU hW => ⟨rfl, by rw [hU], by rw [hU]; exact hPc, va_K.moved hW.alike hKc, hDc.weaken (fun _ _ _ _ => trivial), gv.pass hW hU hS hFc hG⟩⟩ rfl rfl hl.1 rfl (lv_room (Nat.le_of_ble_eq_true rfl)) dX2_asString_14 ⟨Nat.le_of_ble_eq_true rfl, Nat.le_of_ble_eq_true rfl⟩) hS (fun q _ h => hFc q h) hFc (fun u ra t H1 locs ht hvm hw hB hz1 hk1 hS => ?_)
  obtain ⟨q4, q5, cq6, hra, hP1, hK1, hD1⟩ := hB
  rw [hra]
  rw [ht] at hP1
  have hK1 := va_K.moved hvm.symm hK1
  obtain ⟨hP, hD⟩ := va_join (wr := [(h0, .inr (6, [.ref z0, .int 0]))]) (w1 := [(q1, .inr (1, [.ref q2, .int 0, .int 0, .int 0])), (q2, .inl (cq3, 16, .inl (fun _ => 0))), (q4, .inr (0, [.ref q5, .int 0, .int 0, .int 0])), (q5, .inl (cq6, 0, .inl (fun _ => 0)))]) hP hD [0, 1] [2] rfl rfl (by decide) (by decide) hk1 hFc hP1 hD1
  have hK := hK.app (hK1.sub (tys' := [(cq6, .byte)]) [1] rfl)
  generalize H1 = H at hP hS ⊢
  have hK : va_K (dC, dI) vwCl [(cq3, .byte), (cq6, .byte)] s := hK
  have hP : va_P (dC, dI) vwCl [(h0, .inr (6, [.ref z0, .int 0])), (q1, .inr (1, [.ref q2, .int 0, .int 0, .int 0])), (q2, .inl (cq3, 16, .inl (fun _ => 0))), (q4, .inr (0, [.ref q5, .int 0, .int 0, .int 0])), (q5, .inl (cq6, 0, .inl (fun _ => 0)))] H := hP
  have hD : va_D A [(h0, .inr (6, [.ref z0, .int 0])), (q1, .inr (1, [.ref q2, .int 0, .int 0, .int 0])), (q2, .inl (cq3, 16, .inl (fun _ => 0))), (q4, .inr (0, [.ref q5, .int 0, .int 0, .int 0])), (q5, .inl (cq6, 0, .inl (fun _ => 0)))] := hD
  refine W.widen (k := 4) (n := 24) (by omega) (by omega) ?_
  exact W.aret (v := .ref q4) hx hb hr (Or.inl ⟨_, rfl⟩) (Or.inr ⟨_, rfl⟩) (fun t ht hW => ⟨⟨(), q4, rfl, trivial, q1, q2, q4, q5, cq3, cq6, rfl, by rw [ht]; exact hP, va_K.moved hW.alike hK, hD⟩, hS.F ht⟩) hS.2.2 dX2_asString_17
set_option maxHeartbeats 4000000 in
set_option maxRecDepth 100000 in
theorem kx_X3_text_0 (l : Launch) (dC : Nat → ClassId) (dI : Nat → Nat → Nat) (ge5 gea gv5 gva gde gic gi0 : Nat) (h0 : Nat) (h1 : Nat) (h2 : Nat) (h3 : Nat) (h4 : Nat) (h5 : Nat) (z0 : Nat) (z1 : Nat) (z2 : Nat) (z3 : Nat) (z4 : Nat) (z5 : Nat) (z6 : Nat) (z7 : Nat) (z8 : Nat) (k0 : ClassId) (sz : Nat) : Met l yX3_text wsX3_text ({ frames := 7, cells := 4, slots := 24, locals := 192 }) (va_Pc [.ref h0, .int 0] (fun U => U.heap.size = sz ∧ va_P (dC, dI) vwCl [(h0, .inr (7, [.ref h1, .ref z0, .ref z1, .ref z2, .ref z3, .ref z4, .int 0, .int 0, .int 0])), (h1, .inl (k0, 4, .inr (.inr (.inr (.inr (va_up (va_up (va_up (va_up (fun _ => none) 0 (some h2)) 1 (some h3)) 2 (some h4)) 3 (some h5))))))), (h2, .inr (6, [.ref z5, .int 0])), (h3, .inr (6, [.ref z6, .int 0])), (h4, .inr (6, [.ref z7, .int 0])), (h5, .inr (6, [.ref z8, .int 0]))] U.heap ∧ va_K (dC, dI) vwCl [(k0, .object "Rewriterope$Text")] U ∧ va_D (fun _ => True) [(h0, .inr (7, [.ref h1, .ref z0, .ref z1, .ref z2, .ref z3, .ref z4, .int 0, .int 0, .int 0])), (h1, .inl (k0, 4, .inr (.inr (.inr (.inr (va_up (va_up (va_up (va_up (fun _ => none) 0 (some h2)) 1 (some h3)) 2 (some h4)) 3 (some h5))))))), (h2, .inr (6, [.ref z5, .int 0])), (h3, .inr (6, [.ref z6, .int 0])), (h4, .inr (6, [.ref z7, .int 0])), (h5, .inr (6, [.ref z8, .int 0]))] ∧ gv ge5 gea gv5 gva gde gic gi0 (va_A [(h0, .inr (7, [.ref h1, .ref z0, .ref z1, .ref z2, .ref z3, .ref z4, .int 0, .int 0, .int 0])), (h1, .inl (k0, 4, .inr (.inr (.inr (.inr (va_up (va_up (va_up (va_up (fun _ => none) 0 (some h2)) 1 (some h3)) 2 (some h4)) 3 (some h5))))))), (h2, .inr (6, [.ref z5, .int 0])), (h3, .inr (6, [.ref z6, .int 0])), (h4, .inr (6, [.ref z7, .int 0])), (h5, .inr (6, [.ref z8, .int 0]))] sz) U U.heap)) (va_Qr (fun _ : Unit => True) (fun (_ : Unit) (ra : Nat) (t : State) => ∃ q1 : Nat, ∃ q2 : Nat, ∃ q3 : Nat, ∃ q4 : Nat, ∃ cq5 : ClassId, ∃ cq6 : ClassId, ra = q3 ∧ va_P (dC, dI) vwCl [(h0, .inr (7, [.ref h1, .ref z0, .ref z1, .ref z2, .ref z3, .ref z4, .int 0, .int 0, .int 0])), (h1, .inl (k0, 4, .inr (.inr (.inr (.inr (va_up (va_up (va_up (va_up (fun _ => none) 0 (some h2)) 1 (some h3)) 2 (some h4)) 3 (some h5))))))), (h2, .inr (6, [.ref z5, .int 0])), (h3, .inr (6, [.ref z6, .int 0])), (h4, .inr (6, [.ref z7, .int 0])), (h5, .inr (6, [.ref z8, .int 0])), (q1, .inr (1, [.ref q2, .int 0, .int 0, .int 0])), (q2, .inl (cq5, 16, .inl (fun _ => 0))), (q3, .inr (0, [.ref q4, .int 0, .int 0, .int 0])), (q4, .inl (cq6, 0, .inl (fun _ => 0)))] t.heap ∧ va_K (dC, dI) vwCl [(k0, .object "Rewriterope$Text"), (cq5, .byte), (cq6, .byte)] t ∧ va_D (va_A [(h0, .inr (7, [.ref h1, .ref z0, .ref z1, .ref z2, .ref z3, .ref z4, .int 0, .int 0, .int 0])), (h1, .inl (k0, 4, .inr (.inr (.inr (.inr (va_up (va_up (va_up (va_up (fun _ => none) 0 (some h2)) 1 (some h3)) 2 (some h4)) 3 (some h5))))))), (h2, .inr (6, [.ref z5, .int 0])), (h3, .inr (6, [.ref z6, .int 0])), (h4, .inr (6, [.ref z7, .int 0])), (h5, .inr (6, [.ref z8, .int 0]))] sz) [(h0, .inr (7, [.ref h1, .ref z0, .ref z1, .ref z2, .ref z3, .ref z4, .int 0, .int 0, .int 0])), (h1, .inl (k0, 4, .inr (.inr (.inr (.inr (va_up (va_up (va_up (va_up (fun _ => none) 0 (some h2)) 1 (some h3)) 2 (some h4)) 3 (some h5))))))), (h2, .inr (6, [.ref z5, .int 0])), (h3, .inr (6, [.ref z6, .int 0])), (h4, .inr (6, [.ref z7, .int 0])), (h5, .inr (6, [.ref z8, .int 0])), (q1, .inr (1, [.ref q2, .int 0, .int 0, .int 0])), (q2, .inl (cq5, 16, .inl (fun _ => 0))), (q3, .inr (0, [.ref q4, .int 0, .int 0, .int 0])), (q4, .inl (cq6, 0, .inl (fun _ => 0)))]) (va_A [(h0, .inr (7, [.ref h1, .ref z0, .ref z1, .ref z2, .ref z3, .ref z4, .int 0, .int 0, .int 0])), (h1, .inl (k0, 4, .inr (.inr (.inr (.inr (va_up (va_up (va_up (va_up (fun _ => none) 0 (some h2)) 1 (some h3)) 2 (some h4)) 3 (some h5))))))), (h2, .inr (6, [.ref z5, .int 0])), (h3, .inr (6, [.ref z6, .int 0])), (h4, .inr (6, [.ref z7, .int 0])), (h5, .inr (6, [.ref z8, .int 0]))] sz)) 4 24 (va_A [(h0, .inr (7, [.ref h1, .ref z0, .ref z1, .ref z2, .ref z3, .ref z4, .int 0, .int 0, .int 0])), (h1, .inl (k0, 4, .inr (.inr (.inr (.inr (va_up (va_up (va_up (va_up (fun _ => none) 0 (some h2)) 1 (some h3)) 2 (some h4)) 3 (some h5))))))), (h2, .inr (6, [.ref z5, .int 0])), (h3, .inr (6, [.ref z6, .int 0])), (h4, .inr (6, [.ref z7, .int 0])), (h5, .inr (6, [.ref z8, .int 0]))] sz) := by
  refine Met.ofW (cc := cX3_text) (maxL := 2) (ret := (some (.object "java/lang/String"))) (by decide) rfl ?_
  intro p e s m args below meth c s₁ B hml hv
  obtain ⟨rfl, hsz, hP, hK, hD0, hG⟩ := hv
  have hx := B.exec
  have hb := B.bytes
  have hr := B.returns
  have hts := atoms_spec (ws := wsX3_text) B.pre
  have hown : s.vm.findClass RX3 = some m.cls := findClass_of_methodNamed B.named
  have hlocks := B.notSynchronized
  subst hsz
  have hD := hD0.self (sz := s.heap.size)
  generalize hAe : va_A [(h0, .inr (7, [.ref h1, .ref z0, .ref z1, .ref z2, .ref z3, .ref z4, .int 0, .int 0, .int 0])), (h1, .inl (k0, 4, .inr (.inr (.inr (.inr (va_up (va_up (va_up (va_up (fun _ => none) 0 (some h2)) 1 (some h3)) 2 (some h4)) 3 (some h5))))))), (h2, .inr (6, [.ref z5, .int 0])), (h3, .inr (6, [.ref z6, .int 0])), (h4, .inr (6, [.ref z7, .int 0])), (h5, .inr (6, [.ref z8, .int 0]))] s.heap.size = A at hD hG ⊢
  obtain ⟨⟨g_AO_Text, g_AO_String, g_AO_Object, g_nm_RX1_20, g_nm_RX0_17, g_nm_RX3_31, g_nm_RX2_44, g_nm_RL_121, g_nf_RL_13, g_nf_RL_47, g_ca_IO, g_ca_IA, g_ca_IS, g_ca_IntObj, g_ca_StrObj, g_de_RT, g_de_EX, g_de_TH, g_nc_IA_IO, g_nc_IS_IO, g_nc_IS_IA⟩, ⟨g_s3, g_s5, g_sa, g_x278, g_x280, g_x282, g_x284, g_x286, g_x180, g_x238, g_x250⟩, ⟨g_o5, g_c5, g_v5, g_t5, g_oa, g_ca, g_va, g_ta, g_zc, g_zd, g_td, g_zf, g_zU, g_zN, g_zh, g_zk, g_tk, g_oi, g_vi⟩⟩ := id hG
  have hA : ∀ q : Nat, s.heap.size ≤ q → A q := fun q h => by rw [← hAe]; exact Or.inr h
  have hS : va_S A s.heap s.heap [] := va_S.rf
  have hP : va_P (dC, dI) vwCl [(h0, .inr (7, [.ref h1, .ref z0, .ref z1, .ref z2, .ref z3, .ref z4, .int 0, .int 0, .int 0])), (h1, .inl (k0, 4, .inr (.inr (.inr (.inr (va_up (va_up (va_up (va_up (fun _ => none) 0 (some h2)) 1 (some h3)) 2 (some h4)) 3 (some h5))))))), (h2, .inr (6, [.ref z5, .int 0])), (h3, .inr (6, [.ref z6, .int 0])), (h4, .inr (6, [.ref z7, .int 0])), (h5, .inr (6, [.ref z8, .int 0]))] s.heap := hP
  have hl := lv_entry ([.ref h0, .int 0]) (n := 2) (Nat.le_of_ble_eq_true rfl)
  rw [lg_entry_eq]
  generalize (lg_sl ([.ref h0, .int 0]) ++ List.replicate (2 - (lg_sl ([.ref h0, .int 0])).length) Slot.unset).toArray = ls at hl ⊢
  have hl : lv_has ls 2 [(0, .ref h0), (1, .int 0)] := hl
  refine lv_iload_n hx hb dX3_text_0 rfl (lv_at hl 1 rfl) ?_
  have hPc := hP.sub (ws' := []) [] rfl
  have hDc := hD.sub (ws' := []) [] (by decide) rfl
  have hKc := hK.sub (tys' := []) [] rfl
  have hFc := va_free (wc := []) hD hS hA [] rfl
  refine va_callv (va_runS (As := [.int 0]) (rest := []) ⟨hx, hb, hml, hown, hts⟩ (kx_X3_needRope_1 l dC dI s.heap.size) (cwS 1 hts gX3_text_X3_needRope rfl rfl rfl (by decide +kernel) ⟨Nat.le_of_ble_eq_true rfl, Nat.le_of_ble_eq_true rfl⟩) ⟨fun a U g mk q => by obtain ⟨q0, q1, qP, qK, qD⟩ := q; exact ⟨q0, q1, qP, va_K.moved (u := U) (U := U.calling g mk a) (Vm.Alike.refl U.vm) qK, qD⟩, fun U hU hW => ⟨rfl, by rw [hU], by rw [hU]; exact hPc, va_K.moved hW.alike hKc, hDc.weaken (fun _ _ _ _ => trivial)⟩⟩ rfl rfl hl.1 rfl (lv_room (Nat.le_of_ble_eq_true rfl)) dX3_text_1 ⟨Nat.le_of_ble_eq_true rfl, Nat.le_of_ble_eq_true rfl⟩) hS (fun q _ h => hFc q h) hFc (fun u t H1 locs ht hvm hw hB hz1 hk1 hS => ?_)
  obtain ⟨hP1, hK1, hD1⟩ := hB
  rw [ht] at hP1
  have hK1 := va_K.moved hvm.symm hK1
  obtain ⟨hP, hD⟩ := va_join (wr := [(h0, .inr (7, [.ref h1, .ref z0, .ref z1, .ref z2, .ref z3, .ref z4, .int 0, .int 0, .int 0])), (h1, .inl (k0, 4, .inr (.inr (.inr (.inr (va_up (va_up (va_up (va_up (fun _ => none) 0 (some h2)) 1 (some h3)) 2 (some h4)) 3 (some h5))))))), (h2, .inr (6, [.ref z5, .int 0])), (h3, .inr (6, [.ref z6, .int 0])), (h4, .inr (6, [.ref z7, .int 0])), (h5, .inr (6, [.ref z8, .int 0]))]) (w1 := []) hP hD [] [0, 1, 2, 3, 4, 5] rfl rfl (by decide) (by decide) hk1 hFc hP1 hD1
  generalize H1 = H at hP hS ⊢
  have hP : va_P (dC, dI) vwCl [(h0, .inr (7, [.ref h1, .ref z0, .ref z1, .ref z2, .ref z3, .ref z4, .int 0, .int 0, .int 0])), (h1, .inl (k0, 4, .inr (.inr (.inr (.inr (va_up (va_up (va_up (va_up (fun _ => none) 0 (some h2)) 1 (some h3)) 2 (some h4)) 3 (some h5))))))), (h2, .inr (6, [.ref z5, .int 0])), (h3, .inr (6, [.ref z6, .int 0])), (h4, .inr (6, [.ref z7, .int 0])), (h5, .inr (6, [.ref z8, .int 0]))] H := hP
  have hD : va_D A [(h0, .inr (7, [.ref h1, .ref z0, .ref z1, .ref z2, .ref z3, .ref z4, .int 0, .int 0, .int 0])), (h1, .inl (k0, 4, .inr (.inr (.inr (.inr (va_up (va_up (va_up (va_up (fun _ => none) 0 (some h2)) 1 (some h3)) 2 (some h4)) 3 (some h5))))))), (h2, .inr (6, [.ref z5, .int 0])), (h3, .inr (6, [.ref z6, .int 0])), (h4, .inr (6, [.ref z7, .int 0])), (h5, .inr (6, [.ref z8, .int 0]))] := hD
  refine lv_aload_n hx hb dX3_text_4 rfl (lv_at hl 0 rfl) ?_
  refine va_get (D := (dC, dI)) (ci := 7) (v := .ref h1) (C := RX3) (T := TX3) (N := 9) hx hb hts (by decide +kernel) hown hK hP 0 rfl rfl 0 (by decide) (hts (.fieldLink RX3 11 "Rewriterope" "ropes" "[LRewriterope$Text;") (by decide +kernel)) (fun _ h9 => h9) rfl dX3_text_5 ?_
  refine lv_iload_n hx hb dX3_text_8 rfl (lv_at hl 1 rfl) ?_
  refine va_aldq (D := (dC, dI)) hx hb hK hP 1 0 rfl rfl (by unfold vp_in; decide) dX3_text_9 ?_
  refine W.eq (g2 := F0 m 10 ls [.ref h2]) rfl ?_
  have hPc := hP.sub (ws' := [(h2, .inr (6, [.ref z5, .int 0]))]) [2] rfl
  have hDc := hD.sub (ws' := [(h2, .inr (6, [.ref z5, .int 0]))]) [2] (by decide) rfl
  have hKc := hK.sub (tys' := []) [] rfl
  have hFc := va_free (wc := [(h2, .inr (6, [.ref z5, .int 0]))]) hD hS hA [2] rfl
  refine va_callr (va_runV (As := []) (rest := []) ⟨hx, hb, hml, hown, hts⟩ (kx_X2_asString_0 l dC dI ge5 gea gv5 gva gde gic gi0 h2 z5 H.size) (cwV 0 hts gX3_text_X2_asString rfl rfl rfl (by decide +kernel) ⟨Nat.le_of_ble_eq_true rfl, Nat.le_of_ble_eq_true rfl⟩) ⟨fun a U g mk q => by obtain ⟨q0, q1, qP, qK, qD, qG⟩ := q; exact ⟨q0, q1, qP, va_K.moved (u := U) (U := U.calling g mk a) (Vm.Alike.refl U.vm) qK, qD, gv.fb qG⟩, va_recv hKc hPc (ci := 6) (q0 := 0) rfl rfl, fun U hU hW => ⟨rfl, by rw [hU], by rw [hU]; exact hPc, va_K.moved hW.alike hKc, hDc.weaken (fun _ _ _ _ => trivial), gv.pass hW hU hS hFc hG⟩⟩ rfl rfl hl.1 rfl (lv_room (Nat.le_of_ble_eq_true rfl)) dX3_text_10 ⟨Nat.le_of_ble_eq_true rfl, Nat.le_of_ble_eq_true rfl⟩) hS (fun q _ h => hFc q h) hFc (fun u ra t H1 locs ht hvm hw hB hz1 hk1 hS => ?_)
  obtain ⟨q1, q2, q3, q4, cq5, cq6, hra, hP1, hK1, hD1⟩ := hB
  rw [hra]
  rw [ht] at hP1
  have hK1 := va_K.moved hvm.symm hK1
  obtain ⟨hP, hD⟩ := va_join (wr := [(h0, .inr (7, [.ref h1, .ref z0, .ref z1, .ref z2, .ref z3, .ref z4, .int 0, .int 0, .int 0])), (h1, .inl (k0, 4, .inr (.inr (.inr (.inr (va_up (va_up (va_up (va_up (fun _ => none) 0 (some h2)) 1 (some h3)) 2 (some h4)) 3 (some h5))))))), (h3, .inr (6, [.ref z6, .int 0])), (h4, .inr (6, [.ref z7, .int 0])), (h5, .inr (6, [.ref z8, .int 0]))]) (w1 := [(h2, .inr (6, [.ref z5, .int 0])), (q1, .inr (1, [.ref q2, .int 0, .int 0, .int 0])), (q2, .inl (cq5, 16, .inl (fun _ => 0))), (q3, .inr (0, [.ref q4, .int 0, .int 0, .int 0])), (q4, .inl (cq6, 0, .inl (fun _ => 0)))]) hP hD [2] [0, 1, 3, 4, 5] rfl rfl (by decide) (by decide) hk1 hFc hP1 hD1
  have hK := hK.app (hK1.sub (tys' := [(cq5, .byte), (cq6, .byte)]) [0, 1] rfl)
  generalize H1 = H at hP hS ⊢
  have hK : va_K (dC, dI) vwCl [(k0, .object "Rewriterope$Text"), (cq5, .byte), (cq6, .byte)] s := hK
  have hP : va_P (dC, dI) vwCl [(h0, .inr (7, [.ref h1, .ref z0, .ref z1, .ref z2, .ref z3, .ref z4, .int 0, .int 0, .int 0])), (h1, .inl (k0, 4, .inr (.inr (.inr (.inr (va_up (va_up (va_up (va_up (fun _ => none) 0 (some h2)) 1 (some h3)) 2 (some h4)) 3 (some h5))))))), (h3, .inr (6, [.ref z6, .int 0])), (h4, .inr (6, [.ref z7, .int 0])), (h5, .inr (6, [.ref z8, .int 0])), (h2, .inr (6, [.ref z5, .int 0])), (q1, .inr (1, [.ref q2, .int 0, .int 0, .int 0])), (q2, .inl (cq5, 16, .inl (fun _ => 0))), (q3, .inr (0, [.ref q4, .int 0, .int 0, .int 0])), (q4, .inl (cq6, 0, .inl (fun _ => 0)))] H := hP
  have hD : va_D A [(h0, .inr (7, [.ref h1, .ref z0, .ref z1, .ref z2, .ref z3, .ref z4, .int 0, .int 0, .int 0])), (h1, .inl (k0, 4, .inr (.inr (.inr (.inr (va_up (va_up (va_up (va_up (fun _ => none) 0 (some h2)) 1 (some h3)) 2 (some h4)) 3 (some h5))))))), (h3, .inr (6, [.ref z6, .int 0])), (h4, .inr (6, [.ref z7, .int 0])), (h5, .inr (6, [.ref z8, .int 0])), (h2, .inr (6, [.ref z5, .int 0])), (q1, .inr (1, [.ref q2, .int 0, .int 0, .int 0])), (q2, .inl (cq5, 16, .inl (fun _ => 0))), (q3, .inr (0, [.ref q4, .int 0, .int 0, .int 0])), (q4, .inl (cq6, 0, .inl (fun _ => 0)))] := hD
  refine W.widen (k := 4) (n := 24) (by omega) (by omega) ?_
  have hP := hP.sub (ws' := [(h0, .inr (7, [.ref h1, .ref z0, .ref z1, .ref z2, .ref z3, .ref z4, .int 0, .int 0, .int 0])), (h1, .inl (k0, 4, .inr (.inr (.inr (.inr (va_up (va_up (va_up (va_up (fun _ => none) 0 (some h2)) 1 (some h3)) 2 (some h4)) 3 (some h5))))))), (h2, .inr (6, [.ref z5, .int 0])), (h3, .inr (6, [.ref z6, .int 0])), (h4, .inr (6, [.ref z7, .int 0])), (h5, .inr (6, [.ref z8, .int 0])), (q1, .inr (1, [.ref q2, .int 0, .int 0, .int 0])), (q2, .inl (cq5, 16, .inl (fun _ => 0))), (q3, .inr (0, [.ref q4, .int 0, .int 0, .int 0])), (q4, .inl (cq6, 0, .inl (fun _ => 0)))]) [0, 1, 5, 2, 3, 4, 6, 7, 8, 9] rfl
  have hD := hD.sub (ws' := [(h0, .inr (7, [.ref h1, .ref z0, .ref z1, .ref z2, .ref z3, .ref z4, .int 0, .int 0, .int 0])), (h1, .inl (k0, 4, .inr (.inr (.inr (.inr (va_up (va_up (va_up (va_up (fun _ => none) 0 (some h2)) 1 (some h3)) 2 (some h4)) 3 (some h5))))))), (h2, .inr (6, [.ref z5, .int 0])), (h3, .inr (6, [.ref z6, .int 0])), (h4, .inr (6, [.ref z7, .int 0])), (h5, .inr (6, [.ref z8, .int 0])), (q1, .inr (1, [.ref q2, .int 0, .int 0, .int 0])), (q2, .inl (cq5, 16, .inl (fun _ => 0))), (q3, .inr (0, [.ref q4, .int 0, .int 0, .int 0])), (q4, .inl (cq6, 0, .inl (fun _ => 0)))]) [0, 1, 5, 2, 3, 4, 6, 7, 8, 9] (by decide) rfl
  exact W.aret (v := .ref q3) hx hb hr (Or.inl ⟨_, rfl⟩) (Or.inr ⟨_, rfl⟩) (fun t ht hW => ⟨⟨(), q3, rfl, trivial, q1, q2, q3, q4, cq5, cq6, rfl, by rw [ht]; exact hP, va_K.moved hW.alike hK, hD⟩, hS.F ht⟩) hS.2.2 dX3_text_13
set_option maxHeartbeats 4000000 in
set_option maxRecDepth 100000 in
theorem kx_X3_text_1 (l : Launch) (dC : Nat → ClassId) (dI : Nat → Nat → Nat) (ge5 gea gv5 gva gde gic gi0 : Nat) (h0 : Nat) (h1 : Nat) (h2 : Nat) (h3 : Nat) (h4 : Nat) (h5 : Nat) (z0 : Nat) (z1 : Nat) (z2 : Nat) (z3 : Nat) (z4 : Nat) (z5 : Nat) (z6 : Nat) (z7 : Nat) (z8 : Nat) (k0 : ClassId) (sz : Nat) : Met l yX3_text wsX3_text ({ frames := 7, cells := 4, slots := 24, locals := 192 }) (va_Pc [.ref h0, .int 1] (fun U => U.heap.size = sz ∧ va_P (dC, dI) vwCl [(h0, .inr (7, [.ref h1, .ref z0, .ref z1, .ref z2, .ref z3, .ref z4, .int 0, .int 0, .int 0])), (h1, .inl (k0, 4, .inr (.inr (.inr (.inr (va_up (va_up (va_up (va_up (fun _ => none) 0 (some h2)) 1 (some h3)) 2 (some h4)) 3 (some h5))))))), (h2, .inr (6, [.ref z5, .int 0])), (h3, .inr (6, [.ref z6, .int 0])), (h4, .inr (6, [.ref z7, .int 0])), (h5, .inr (6, [.ref z8, .int 0]))] U.heap ∧ va_K (dC, dI) vwCl [(k0, .object "Rewriterope$Text")] U ∧ va_D (fun _ => True) [(h0, .inr (7, [.ref h1, .ref z0, .ref z1, .ref z2, .ref z3, .ref z4, .int 0, .int 0, .int 0])), (h1, .inl (k0, 4, .inr (.inr (.inr (.inr (va_up (va_up (va_up (va_up (fun _ => none) 0 (some h2)) 1 (some h3)) 2 (some h4)) 3 (some h5))))))), (h2, .inr (6, [.ref z5, .int 0])), (h3, .inr (6, [.ref z6, .int 0])), (h4, .inr (6, [.ref z7, .int 0])), (h5, .inr (6, [.ref z8, .int 0]))] ∧ gv ge5 gea gv5 gva gde gic gi0 (va_A [(h0, .inr (7, [.ref h1, .ref z0, .ref z1, .ref z2, .ref z3, .ref z4, .int 0, .int 0, .int 0])), (h1, .inl (k0, 4, .inr (.inr (.inr (.inr (va_up (va_up (va_up (va_up (fun _ => none) 0 (some h2)) 1 (some h3)) 2 (some h4)) 3 (some h5))))))), (h2, .inr (6, [.ref z5, .int 0])), (h3, .inr (6, [.ref z6, .int 0])), (h4, .inr (6, [.ref z7, .int 0])), (h5, .inr (6, [.ref z8, .int 0]))] sz) U U.heap)) (va_Qr (fun _ : Unit => True) (fun (_ : Unit) (ra : Nat) (t : State) => ∃ q1 : Nat, ∃ q2 : Nat, ∃ q3 : Nat, ∃ q4 : Nat, ∃ cq5 : ClassId, ∃ cq6 : ClassId, ra = q3 ∧ va_P (dC, dI) vwCl [(h0, .inr (7, [.ref h1, .ref z0, .ref z1, .ref z2, .ref z3, .ref z4, .int 0, .int 0, .int 0])), (h1, .inl (k0, 4, .inr (.inr (.inr (.inr (va_up (va_up (va_up (va_up (fun _ => none) 0 (some h2)) 1 (some h3)) 2 (some h4)) 3 (some h5))))))), (h2, .inr (6, [.ref z5, .int 0])), (h3, .inr (6, [.ref z6, .int 0])), (h4, .inr (6, [.ref z7, .int 0])), (h5, .inr (6, [.ref z8, .int 0])), (q1, .inr (1, [.ref q2, .int 0, .int 0, .int 0])), (q2, .inl (cq5, 16, .inl (fun _ => 0))), (q3, .inr (0, [.ref q4, .int 0, .int 0, .int 0])), (q4, .inl (cq6, 0, .inl (fun _ => 0)))] t.heap ∧ va_K (dC, dI) vwCl [(k0, .object "Rewriterope$Text"), (cq5, .byte), (cq6, .byte)] t ∧ va_D (va_A [(h0, .inr (7, [.ref h1, .ref z0, .ref z1, .ref z2, .ref z3, .ref z4, .int 0, .int 0, .int 0])), (h1, .inl (k0, 4, .inr (.inr (.inr (.inr (va_up (va_up (va_up (va_up (fun _ => none) 0 (some h2)) 1 (some h3)) 2 (some h4)) 3 (some h5))))))), (h2, .inr (6, [.ref z5, .int 0])), (h3, .inr (6, [.ref z6, .int 0])), (h4, .inr (6, [.ref z7, .int 0])), (h5, .inr (6, [.ref z8, .int 0]))] sz) [(h0, .inr (7, [.ref h1, .ref z0, .ref z1, .ref z2, .ref z3, .ref z4, .int 0, .int 0, .int 0])), (h1, .inl (k0, 4, .inr (.inr (.inr (.inr (va_up (va_up (va_up (va_up (fun _ => none) 0 (some h2)) 1 (some h3)) 2 (some h4)) 3 (some h5))))))), (h2, .inr (6, [.ref z5, .int 0])), (h3, .inr (6, [.ref z6, .int 0])), (h4, .inr (6, [.ref z7, .int 0])), (h5, .inr (6, [.ref z8, .int 0])), (q1, .inr (1, [.ref q2, .int 0, .int 0, .int 0])), (q2, .inl (cq5, 16, .inl (fun _ => 0))), (q3, .inr (0, [.ref q4, .int 0, .int 0, .int 0])), (q4, .inl (cq6, 0, .inl (fun _ => 0)))]) (va_A [(h0, .inr (7, [.ref h1, .ref z0, .ref z1, .ref z2, .ref z3, .ref z4, .int 0, .int 0, .int 0])), (h1, .inl (k0, 4, .inr (.inr (.inr (.inr (va_up (va_up (va_up (va_up (fun _ => none) 0 (some h2)) 1 (some h3)) 2 (some h4)) 3 (some h5))))))), (h2, .inr (6, [.ref z5, .int 0])), (h3, .inr (6, [.ref z6, .int 0])), (h4, .inr (6, [.ref z7, .int 0])), (h5, .inr (6, [.ref z8, .int 0]))] sz)) 4 24 (va_A [(h0, .inr (7, [.ref h1, .ref z0, .ref z1, .ref z2, .ref z3, .ref z4, .int 0, .int 0, .int 0])), (h1, .inl (k0, 4, .inr (.inr (.inr (.inr (va_up (va_up (va_up (va_up (fun _ => none) 0 (some h2)) 1 (some h3)) 2 (some h4)) 3 (some h5))))))), (h2, .inr (6, [.ref z5, .int 0])), (h3, .inr (6, [.ref z6, .int 0])), (h4, .inr (6, [.ref z7, .int 0])), (h5, .inr (6, [.ref z8, .int 0]))] sz) := by
  refine Met.ofW (cc := cX3_text) (maxL := 2) (ret := (some (.object "java/lang/String"))) (by decide) rfl ?_
  intro p e s m args below meth c s₁ B hml hv
  obtain ⟨rfl, hsz, hP, hK, hD0, hG⟩ := hv
  have hx := B.exec
  have hb := B.bytes
  have hr := B.returns
  have hts := atoms_spec (ws := wsX3_text) B.pre
  have hown : s.vm.findClass RX3 = some m.cls := findClass_of_methodNamed B.named
  have hlocks := B.notSynchronized
  subst hsz
  have hD := hD0.self (sz := s.heap.size)
  generalize hAe : va_A [(h0, .inr (7, [.ref h1, .ref z0, .ref z1, .ref z2, .ref z3, .ref z4, .int 0, .int 0, .int 0])), (h1, .inl (k0, 4, .inr (.inr (.inr (.inr (va_up (va_up (va_up (va_up (fun _ => none) 0 (some h2)) 1 (some h3)) 2 (some h4)) 3 (some h5))))))), (h2, .inr (6, [.ref z5, .int 0])), (h3, .inr (6, [.ref z6, .int 0])), (h4, .inr (6, [.ref z7, .int 0])), (h5, .inr (6, [.ref z8, .int 0]))] s.heap.size = A at hD hG ⊢
  obtain ⟨⟨g_AO_Text, g_AO_String, g_AO_Object, g_nm_RX1_20, g_nm_RX0_17, g_nm_RX3_31, g_nm_RX2_44, g_nm_RL_121, g_nf_RL_13, g_nf_RL_47, g_ca_IO, g_ca_IA, g_ca_IS, g_ca_IntObj, g_ca_StrObj, g_de_RT, g_de_EX, g_de_TH, g_nc_IA_IO, g_nc_IS_IO, g_nc_IS_IA⟩, ⟨g_s3, g_s5, g_sa, g_x278, g_x280, g_x282, g_x284, g_x286, g_x180, g_x238, g_x250⟩, ⟨g_o5, g_c5, g_v5, g_t5, g_oa, g_ca, g_va, g_ta, g_zc, g_zd, g_td, g_zf, g_zU, g_zN, g_zh, g_zk, g_tk, g_oi, g_vi⟩⟩ := id hG
  have hA : ∀ q : Nat, s.heap.size ≤ q → A q := fun q h => by rw [← hAe]; exact Or.inr h
  have hS : va_S A s.heap s.heap [] := va_S.rf
  have hP : va_P (dC, dI) vwCl [(h0, .inr (7, [.ref h1, .ref z0, .ref z1, .ref z2, .ref z3, .ref z4, .int 0, .int 0, .int 0])), (h1, .inl (k0, 4, .inr (.inr (.inr (.inr (va_up (va_up (va_up (va_up (fun _ => none) 0 (some h2)) 1 (some h3)) 2 (some h4)) 3 (some h5))))))), (h2, .inr (6, [.ref z5, .int 0])), (h3, .inr (6, [.ref z6, .int 0])), (h4, .inr (6, [.ref z7, .int 0])), (h5, .inr (6, [.ref z8, .int 0]))] s.heap := hP
  have hl := lv_entry ([.ref h0, .int 1]) (n := 2) (Nat.le_of_ble_eq_true rfl)
  rw [lg_entry_eq]
  generalize (lg_sl ([.ref h0, .int 1]) ++ List.replicate (2 - (lg_sl ([.ref h0, .int 1])).length) Slot.unset).toArray = ls at hl ⊢
  have hl : lv_has ls 2 [(0, .ref h0), (1, .int 1)] := hl
  refine lv_iload_n hx hb dX3_text_0 rfl (lv_at hl 1 rfl) ?_
  have hPc := hP.sub (ws' := []) [] rfl
  have hDc := hD.sub (ws' := []) [] (by decide) rfl
  have hKc := hK.sub (tys' := []) [] rfl
  have hFc := va_free (wc := []) hD hS hA [] rfl
  refine va_callv (va_runS (As := [.int 1]) (rest := []) ⟨hx, hb, hml, hown, hts⟩ (kx_X3_needRope_2 l dC dI s.heap.size) (cwS 1 hts gX3_text_X3_needRope rfl rfl rfl (by decide +kernel) ⟨Nat.le_of_ble_eq_true rfl, Nat.le_of_ble_eq_true rfl⟩) ⟨fun a U g mk q => by obtain ⟨q0, q1, qP, qK, qD⟩ := q; exact ⟨q0, q1, qP, va_K.moved (u := U) (U := U.calling g mk a) (Vm.Alike.refl U.vm) qK, qD⟩, fun U hU hW => ⟨rfl, by rw [hU], by rw [hU]; exact hPc, va_K.moved hW.alike hKc, hDc.weaken (fun _ _ _ _ => trivial)⟩⟩ rfl rfl hl.1 rfl (lv_room (Nat.le_of_ble_eq_true rfl)) dX3_text_1 ⟨Nat.le_of_ble_eq_true rfl, Nat.le_of_ble_eq_true rfl⟩) hS (fun q _ h => hFc q h) hFc (fun u t H1 locs ht hvm hw hB hz1 hk1 hS => ?_)
  obtain ⟨hP1, hK1, hD1⟩ := hB
  rw [ht] at hP1
  have hK1 := va_K.moved hvm.symm hK1
  obtain ⟨hP, hD⟩ := va_join (wr := [(h0, .inr (7, [.ref h1, .ref z0, .ref z1, .ref z2, .ref z3, .ref z4, .int 0, .int 0, .int 0])), (h1, .inl (k0, 4, .inr (.inr (.inr (.inr (va_up (va_up (va_up (va_up (fun _ => none) 0 (some h2)) 1 (some h3)) 2 (some h4)) 3 (some h5))))))), (h2, .inr (6, [.ref z5, .int 0])), (h3, .inr (6, [.ref z6, .int 0])), (h4, .inr (6, [.ref z7, .int 0])), (h5, .inr (6, [.ref z8, .int 0]))]) (w1 := []) hP hD [] [0, 1, 2, 3, 4, 5] rfl rfl (by decide) (by decide) hk1 hFc hP1 hD1
  generalize H1 = H at hP hS ⊢
  have hP : va_P (dC, dI) vwCl [(h0, .inr (7, [.ref h1, .ref z0, .ref z1, .ref z2, .ref z3, .ref z4, .int 0, .int 0, .int 0])), (h1, .inl (k0, 4, .inr (.inr (.inr (.inr (va_up (va_up (va_up (va_up (fun _ => none) 0 (some h2)) 1 (some h3)) 2 (some h4)) 3 (some h5))))))), (h2, .inr (6, [.ref z5, .int 0])), (h3, .inr (6, [.ref z6, .int 0])), (h4, .inr (6, [.ref z7, .int 0])), (h5, .inr (6, [.ref z8, .int 0]))] H := hP
  have hD : va_D A [(h0, .inr (7, [.ref h1, .ref z0, .ref z1, .ref z2, .ref z3, .ref z4, .int 0, .int 0, .int 0])), (h1, .inl (k0, 4, .inr (.inr (.inr (.inr (va_up (va_up (va_up (va_up (fun _ => none) 0 (some h2)) 1 (some h3)) 2 (some h4)) 3 (some h5))))))), (h2, .inr (6, [.ref z5, .int 0])), (h3, .inr (6, [.ref z6, .int 0])), (h4, .inr (6, [.ref z7, .int 0])), (h5, .inr (6, [.ref z8, .int 0]))] := hD
  refine lv_aload_n hx hb dX3_text_4 rfl (lv_at hl 0 rfl) ?_
  refine va_get (D := (dC, dI)) (ci := 7) (v := .ref h1) (C := RX3) (T := TX3) (N := 9) hx hb hts (by decide +kernel) hown hK hP 0 rfl rfl 0 (by decide) (hts (.fieldLink RX3 11 "Rewriterope" "ropes" "[LRewriterope$Text;") (by decide +kernel)) (fun _ h9 => h9) rfl dX3_text_5 ?_
  refine lv_iload_n hx hb dX3_text_8 rfl (lv_at hl 1 rfl) ?_
  refine va_aldq (D := (dC, dI)) hx hb hK hP 1 0 rfl rfl (by unfold vp_in; decide) dX3_text_9 ?_
  refine W.eq (g2 := F0 m 10 ls [.ref h3]) rfl ?_
  have hPc := hP.sub (ws' := [(h3, .inr (6, [.ref z6, .int 0]))]) [3] rfl
  have hDc := hD.sub (ws' := [(h3, .inr (6, [.ref z6, .int 0]))]) [3] (by decide) rfl
  have hKc := hK.sub (tys' := []) [] rfl
  have hFc := va_free (wc := [(h3, .inr (6, [.ref z6, .int 0]))]) hD hS hA [3] rfl
  refine va_callr (va_runV (As := []) (rest := []) ⟨hx, hb, hml, hown, hts⟩ (kx_X2_asString_0 l dC dI ge5 gea gv5 gva gde gic gi0 h3 z6 H.size) (cwV 0 hts gX3_text_X2_asString rfl rfl rfl (by decide +kernel) ⟨Nat.le_of_ble_eq_true rfl, Nat.le_of_ble_eq_true rfl⟩) ⟨fun a U g mk q => by obtain ⟨q0, q1, qP, qK, qD, qG⟩ := q; exact ⟨q0, q1, qP, va_K.moved (u := U) (U := U.calling g mk a) (Vm.Alike.refl U.vm) qK, qD, gv.fb qG⟩, va_recv hKc hPc (ci := 6) (q0 := 0) rfl rfl, fun U hU hW => ⟨rfl, by rw [hU], by rw [hU]; exact hPc, va_K.moved hW.alike hKc, hDc.weaken (fun _ _ _ _ => trivial), gv.pass hW hU hS hFc hG⟩⟩ rfl rfl hl.1 rfl (lv_room (Nat.le_of_ble_eq_true rfl)) dX3_text_10 ⟨Nat.le_of_ble_eq_true rfl, Nat.le_of_ble_eq_true rfl⟩) hS (fun q _ h => hFc q h) hFc (fun u ra t H1 locs ht hvm hw hB hz1 hk1 hS => ?_)
  obtain ⟨q1, q2, q3, q4, cq5, cq6, hra, hP1, hK1, hD1⟩ := hB
  rw [hra]
  rw [ht] at hP1
  have hK1 := va_K.moved hvm.symm hK1
  obtain ⟨hP, hD⟩ := va_join (wr := [(h0, .inr (7, [.ref h1, .ref z0, .ref z1, .ref z2, .ref z3, .ref z4, .int 0, .int 0, .int 0])), (h1, .inl (k0, 4, .inr (.inr (.inr (.inr (va_up (va_up (va_up (va_up (fun _ => none) 0 (some h2)) 1 (some h3)) 2 (some h4)) 3 (some h5))))))), (h2, .inr (6, [.ref z5, .int 0])), (h4, .inr (6, [.ref z7, .int 0])), (h5, .inr (6, [.ref z8, .int 0]))]) (w1 := [(h3, .inr (6, [.ref z6, .int 0])), (q1, .inr (1, [.ref q2, .int 0, .int 0, .int 0])), (q2, .inl (cq5, 16, .inl (fun _ => 0))), (q3, .inr (0, [.ref q4, .int 0, .int 0, .int 0])), (q4, .inl (cq6, 0, .inl (fun _ => 0)))]) hP hD [3] [0, 1, 2, 4, 5] rfl rfl (by decide) (by decide) hk1 hFc hP1 hD1
  have hK := hK.app (hK1.sub (tys' := [(cq5, .byte), (cq6, .byte)]) [0, 1] rfl)
  generalize H1 = H at hP hS ⊢
  have hK : va_K (dC, dI) vwCl [(k0, .object "Rewriterope$Text"), (cq5, .byte), (cq6, .byte)] s := hK
  have hP : va_P (dC, dI) vwCl [(h0, .inr (7, [.ref h1, .ref z0, .ref z1, .ref z2, .ref z3, .ref z4, .int 0, .int 0, .int 0])), (h1, .inl (k0, 4, .inr (.inr (.inr (.inr (va_up (va_up (va_up (va_up (fun _ => none) 0 (some h2)) 1 (some h3)) 2 (some h4)) 3 (some h5))))))), (h2, .inr (6, [.ref z5, .int 0])), (h4, .inr (6, [.ref z7, .int 0])), (h5, .inr (6, [.ref z8, .int 0])), (h3, .inr (6, [.ref z6, .int 0])), (q1, .inr (1, [.ref q2, .int 0, .int 0, .int 0])), (q2, .inl (cq5, 16, .inl (fun _ => 0))), (q3, .inr (0, [.ref q4, .int 0, .int 0, .int 0])), (q4, .inl (cq6, 0, .inl (fun _ => 0)))] H := hP
  have hD : va_D A [(h0, .inr (7, [.ref h1, .ref z0, .ref z1, .ref z2, .ref z3, .ref z4, .int 0, .int 0, .int 0])), (h1, .inl (k0, 4, .inr (.inr (.inr (.inr (va_up (va_up (va_up (va_up (fun _ => none) 0 (some h2)) 1 (some h3)) 2 (some h4)) 3 (some h5))))))), (h2, .inr (6, [.ref z5, .int 0])), (h4, .inr (6, [.ref z7, .int 0])), (h5, .inr (6, [.ref z8, .int 0])), (h3, .inr (6, [.ref z6, .int 0])), (q1, .inr (1, [.ref q2, .int 0, .int 0, .int 0])), (q2, .inl (cq5, 16, .inl (fun _ => 0))), (q3, .inr (0, [.ref q4, .int 0, .int 0, .int 0])), (q4, .inl (cq6, 0, .inl (fun _ => 0)))] := hD
  refine W.widen (k := 4) (n := 24) (by omega) (by omega) ?_
  have hP := hP.sub (ws' := [(h0, .inr (7, [.ref h1, .ref z0, .ref z1, .ref z2, .ref z3, .ref z4, .int 0, .int 0, .int 0])), (h1, .inl (k0, 4, .inr (.inr (.inr (.inr (va_up (va_up (va_up (va_up (fun _ => none) 0 (some h2)) 1 (some h3)) 2 (some h4)) 3 (some h5))))))), (h2, .inr (6, [.ref z5, .int 0])), (h3, .inr (6, [.ref z6, .int 0])), (h4, .inr (6, [.ref z7, .int 0])), (h5, .inr (6, [.ref z8, .int 0])), (q1, .inr (1, [.ref q2, .int 0, .int 0, .int 0])), (q2, .inl (cq5, 16, .inl (fun _ => 0))), (q3, .inr (0, [.ref q4, .int 0, .int 0, .int 0])), (q4, .inl (cq6, 0, .inl (fun _ => 0)))]) [0, 1, 2, 5, 3, 4, 6, 7, 8, 9] rfl
  have hD := hD.sub (ws' := [(h0, .inr (7, [.ref h1, .ref z0, .ref z1, .ref z2, .ref z3, .ref z4, .int 0, .int 0, .int 0])), (h1, .inl (k0, 4, .inr (.inr (.inr (.inr (va_up (va_up (va_up (va_up (fun _ => none) 0 (some h2)) 1 (some h3)) 2 (some h4)) 3 (some h5))))))), (h2, .inr (6, [.ref z5, .int 0])), (h3, .inr (6, [.ref z6, .int 0])), (h4, .inr (6, [.ref z7, .int 0])), (h5, .inr (6, [.ref z8, .int 0])), (q1, .inr (1, [.ref q2, .int 0, .int 0, .int 0])), (q2, .inl (cq5, 16, .inl (fun _ => 0))), (q3, .inr (0, [.ref q4, .int 0, .int 0, .int 0])), (q4, .inl (cq6, 0, .inl (fun _ => 0)))]) [0, 1, 2, 5, 3, 4, 6, 7, 8, 9] (by decide) rfl
  exact W.aret (v := .ref q3) hx hb hr (Or.inl ⟨_, rfl⟩) (Or.inr ⟨_, rfl⟩) (fun t ht hW => ⟨⟨(), q3, rfl, trivial, q1, q2, q3, q4, cq5, cq6, rfl, by rw [ht]; exact hP, va_K.moved hW.alike hK, hD⟩, hS.F ht⟩) hS.2.2 dX3_text_13
set_option maxHeartbeats 4000000 in
set_option maxRecDepth 100000 in
theorem kx_X3_text_2 (l : Launch) (dC : Nat → ClassId) (dI : Nat → Nat → Nat) (ge5 gea gv5 gva gde gic gi0 : Nat) (h0 : Nat) (h1 : Nat) (h2 : Nat) (h3 : Nat) (h4 : Nat) (h5 : Nat) (z0 : Nat) (z1 : Nat) (z2 : Nat) (z3 : Nat) (z4 : Nat) (z5 : Nat) (z6 : Nat) (z7 : Nat) (z8 : Nat) (k0 : ClassId) (sz : Nat) : Met l yX3_text wsX3_text ({ frames := 7, cells := 4, slots := 24, locals := 192 }) (va_Pc [.ref h0, .int 2] (fun U => U.heap.size = sz ∧ va_P (dC, dI) vwCl [(h0, .inr (7, [.ref h1, .ref z0, .ref z1, .ref z2, .ref z3, .ref z4, .int 0, .int 0, .int 0])), (h1, .inl (k0, 4, .inr (.inr (.inr (.inr (va_up (va_up (va_up (va_up (fun _ => none) 0 (some h2)) 1 (some h3)) 2 (some h4)) 3 (some h5))))))), (h2, .inr (6, [.ref z5, .int 0])), (h3, .inr (6, [.ref z6, .int 0])), (h4, .inr (6, [.ref z7, .int 0])), (h5, .inr (6, [.ref z8, .int 0]))] U.heap ∧ va_K (dC, dI) vwCl [(k0, .object "Rewriterope$Text")] U ∧ va_D (fun _ => True) [(h0, .inr (7, [.ref h1, .ref z0, .ref z1, .ref z2, .ref z3, .ref z4, .int 0, .int 0, .int 0])), (h1, .inl (k0, 4, .inr (.inr (.inr (.inr (va_up (va_up (va_up (va_up (fun _ => none) 0 (some h2)) 1 (some h3)) 2 (some h4)) 3 (some h5))))))), (h2, .inr (6, [.ref z5, .int 0])), (h3, .inr (6, [.ref z6, .int 0])), (h4, .inr (6, [.ref z7, .int 0])), (h5, .inr (6, [.ref z8, .int 0]))] ∧ gv ge5 gea gv5 gva gde gic gi0 (va_A [(h0, .inr (7, [.ref h1, .ref z0, .ref z1, .ref z2, .ref z3, .ref z4, .int 0, .int 0, .int 0])), (h1, .inl (k0, 4, .inr (.inr (.inr (.inr (va_up (va_up (va_up (va_up (fun _ => none) 0 (some h2)) 1 (some h3)) 2 (some h4)) 3 (some h5))))))), (h2, .inr (6, [.ref z5, .int 0])), (h3, .inr (6, [.ref z6, .int 0])), (h4, .inr (6, [.ref z7, .int 0])), (h5, .inr (6, [.ref z8, .int 0]))] sz) U U.heap)) (va_Qr (fun _ : Unit => True) (fun (_ : Unit) (ra : Nat) (t : State) => ∃ q1 : Nat, ∃ q2 : Nat, ∃ q3 : Nat, ∃ q4 : Nat, ∃ cq5 : ClassId, ∃ cq6 : ClassId, ra = q3 ∧ va_P (dC, dI) vwCl [(h0, .inr (7, [.ref h1, .ref z0, .ref z1, .ref z2, .ref z3, .ref z4, .int 0, .int 0, .int 0])), (h1, .inl (k0, 4, .inr (.inr (.inr (.inr (va_up (va_up (va_up (va_up (fun _ => none) 0 (some h2)) 1 (some h3)) 2 (some h4)) 3 (some h5))))))), (h2, .inr (6, [.ref z5, .int 0])), (h3, .inr (6, [.ref z6, .int 0])), (h4, .inr (6, [.ref z7, .int 0])), (h5, .inr (6, [.ref z8, .int 0])), (q1, .inr (1, [.ref q2, .int 0, .int 0, .int 0])), (q2, .inl (cq5, 16, .inl (fun _ => 0))), (q3, .inr (0, [.ref q4, .int 0, .int 0, .int 0])), (q4, .inl (cq6, 0, .inl (fun _ => 0)))] t.heap ∧ va_K (dC, dI) vwCl [(k0, .object "Rewriterope$Text"), (cq5, .byte), (cq6, .byte)] t ∧ va_D (va_A [(h0, .inr (7, [.ref h1, .ref z0, .ref z1, .ref z2, .ref z3, .ref z4, .int 0, .int 0, .int 0])), (h1, .inl (k0, 4, .inr (.inr (.inr (.inr (va_up (va_up (va_up (va_up (fun _ => none) 0 (some h2)) 1 (some h3)) 2 (some h4)) 3 (some h5))))))), (h2, .inr (6, [.ref z5, .int 0])), (h3, .inr (6, [.ref z6, .int 0])), (h4, .inr (6, [.ref z7, .int 0])), (h5, .inr (6, [.ref z8, .int 0]))] sz) [(h0, .inr (7, [.ref h1, .ref z0, .ref z1, .ref z2, .ref z3, .ref z4, .int 0, .int 0, .int 0])), (h1, .inl (k0, 4, .inr (.inr (.inr (.inr (va_up (va_up (va_up (va_up (fun _ => none) 0 (some h2)) 1 (some h3)) 2 (some h4)) 3 (some h5))))))), (h2, .inr (6, [.ref z5, .int 0])), (h3, .inr (6, [.ref z6, .int 0])), (h4, .inr (6, [.ref z7, .int 0])), (h5, .inr (6, [.ref z8, .int 0])), (q1, .inr (1, [.ref q2, .int 0, .int 0, .int 0])), (q2, .inl (cq5, 16, .inl (fun _ => 0))), (q3, .inr (0, [.ref q4, .int 0, .int 0, .int 0])), (q4, .inl (cq6, 0, .inl (fun _ => 0)))]) (va_A [(h0, .inr (7, [.ref h1, .ref z0, .ref z1, .ref z2, .ref z3, .ref z4, .int 0, .int 0, .int 0])), (h1, .inl (k0, 4, .inr (.inr (.inr (.inr (va_up (va_up (va_up (va_up (fun _ => none) 0 (some h2)) 1 (some h3)) 2 (some h4)) 3 (some h5))))))), (h2, .inr (6, [.ref z5, .int 0])), (h3, .inr (6, [.ref z6, .int 0])), (h4, .inr (6, [.ref z7, .int 0])), (h5, .inr (6, [.ref z8, .int 0]))] sz)) 4 24 (va_A [(h0, .inr (7, [.ref h1, .ref z0, .ref z1, .ref z2, .ref z3, .ref z4, .int 0, .int 0, .int 0])), (h1, .inl (k0, 4, .inr (.inr (.inr (.inr (va_up (va_up (va_up (va_up (fun _ => none) 0 (some h2)) 1 (some h3)) 2 (some h4)) 3 (some h5))))))), (h2, .inr (6, [.ref z5, .int 0])), (h3, .inr (6, [.ref z6, .int 0])), (h4, .inr (6, [.ref z7, .int 0])), (h5, .inr (6, [.ref z8, .int 0]))] sz) := by
  refine Met.ofW (cc := cX3_text) (maxL := 2) (ret := (some (.object "java/lang/String"))) (by decide) rfl ?_
  intro p e s m args below meth c s₁ B hml hv
  obtain ⟨rfl, hsz, hP, hK, hD0, hG⟩ := hv
  have hx := B.exec
  have hb := B.bytes
  have hr := B.returns
  have hts := atoms_spec (ws := wsX3_text) B.pre
  have hown : s.vm.findClass RX3 = some m.cls := findClass_of_methodNamed B.named
  have hlocks := B.notSynchronized
  subst hsz
  have hD := hD0.self (sz := s.heap.size)
  generalize hAe : va_A [(h0, .inr (7, [.ref h1, .ref z0, .ref z1, .ref z2, .ref z3, .ref z4, .int 0, .int 0, .int 0])), (h1, .inl (k0, 4, .inr (.inr (.inr (.inr (va_up (va_up (va_up (va_up (fun _ => none) 0 (some h2)) 1 (some h3)) 2 (some h4)) 3 (some h5))))))), (h2, .inr (6, [.ref z5, .int 0])), (h3, .inr (6, [.ref z6, .int 0])), (h4, .inr (6, [.ref z7, .int 0])), (h5, .inr (6, [.ref z8, .int 0]))] s.heap.size = A at hD hG ⊢
  obtain ⟨⟨g_AO_Text, g_AO_String, g_AO_Object, g_nm_RX1_20, g_nm_RX0_17, g_nm_RX3_31, g_nm_RX2_44, g_nm_RL_121, g_nf_RL_13, g_nf_RL_47, g_ca_IO, g_ca_IA, g_ca_IS, g_ca_IntObj, g_ca_StrObj, g_de_RT, g_de_EX, g_de_TH, g_nc_IA_IO, g_nc_IS_IO, g_nc_IS_IA⟩, ⟨g_s3, g_s5, g_sa, g_x278, g_x280, g_x282, g_x284, g_x286, g_x180, g_x238, g_x250⟩, ⟨g_o5, g_c5, g_v5, g_t5, g_oa, g_ca, g_va, g_ta, g_zc, g_zd, g_td, g_zf, g_zU, g_zN, g_zh, g_zk, g_tk, g_oi, g_vi⟩⟩ := id hG
  have hA : ∀ q : Nat, s.heap.size ≤ q → A q := fun q h => by rw [← hAe]; exact Or.inr h
  have hS : va_S A s.heap s.heap [] := va_S.rf
  have hP : va_P (dC, dI) vwCl [(h0, .inr (7, [.ref h1, .ref z0, .ref z1, .ref z2, .ref z3, .ref z4, .int 0, .int 0, .int 0])), (h1, .inl (k0, 4, .inr (.inr (.inr (.inr (va_up (va_up (va_up (va_up (fun _ => none) 0 (some h2)) 1 (some h3)) 2 (some h4)) 3 (some h5))))))), (h2, .inr (6, [.ref z5, .int 0])), (h3, .inr (6, [.ref z6, .int 0])), (h4, .inr (6, [.ref z7, .int 0])), (h5, .inr (6, [.ref z8, .int 0]))] s.heap := hP
  have hl := lv_entry ([.ref h0, .int 2]) (n := 2) (Nat.le_of_ble_eq_true rfl)
  rw [lg_entry_eq]
  generalize (lg_sl ([.ref h0, .int 2]) ++ List.replicate (2 - (lg_sl ([.ref h0, .int 2])).length) Slot.unset).toArray = ls at hl ⊢
  have hl : lv_has ls 2 [(0, .ref h0), (1, .int 2)] := hl
  refine lv_iload_n hx hb dX3_text_0 rfl (lv_at hl 1 rfl) ?_
  have hPc := hP.sub (ws' := []) [] rfl
  have hDc := hD.sub (ws' := []) [] (by decide) rfl
  have hKc := hK.sub (tys' := []) [] rfl
  have hFc := va_free (wc := []) hD hS hA [] rfl
  refine va_callv (va_runS (As := [.int 2]) (rest := []) ⟨hx, hb, hml, hown, hts⟩ (kx_X3_needRope_3 l dC dI s.heap.size) (cwS 1 hts gX3_text_X3_needRope rfl rfl rfl (by decide +kernel) ⟨Nat.le_of_ble_eq_true rfl, Nat.le_of_ble_eq_true rfl⟩) ⟨fun a U g mk q => by obtain ⟨q0, q1, qP, qK, qD⟩ := q; exact ⟨q0, q1, qP, va_K.moved (u := U) (U := U.calling g mk a) (Vm.Alike.refl U.vm) qK, qD⟩, fun U hU hW => ⟨rfl, by rw [hU], by rw [hU]; exact hPc, va_K.moved hW.alike hKc, hDc.weaken (fun _ _ _ _ => trivial)⟩⟩ rfl rfl hl.1 rfl (lv_room (Nat.le_of_ble_eq_true rfl)) dX3_text_1 ⟨Nat.le_of_ble_eq_true rfl, Nat.le_of_ble_eq_true rfl⟩) hS (fun q _ h => hFc q h) hFc (fun u t H1 locs ht hvm hw hB hz1 hk1 hS => ?_)
  obtain ⟨hP1, hK1, hD1⟩ := hB
  rw [ht] at hP1
  have hK1 := va_K.moved hvm.symm hK1
  obtain ⟨hP, hD⟩ := va_join (wr := [(h0, .inr (7, [.ref h1, .ref z0, .ref z1, .ref z2, .ref z3, .ref z4, .int 0, .int 0, .int 0])), (h1, .inl (k0, 4, .inr (.inr (.inr (.inr (va_up (va_up (va_up (va_up (fun _ => none) 0 (some h2)) 1 (some h3)) 2 (some h4)) 3 (some h5))))))), (h2, .inr (6, [.ref z5, .int 0])), (h3, .inr (6, [.ref z6, .int 0])), (h4, .inr (6, [.ref z7, .int 0])), (h5, .inr (6, [.ref z8, .int 0]))]) (w1 := []) hP hD [] [0, 1, 2, 3, 4, 5] rfl rfl (by decide) (by decide) hk1 hFc hP1 hD1
  generalize H1 = H at hP hS ⊢
  have hP : va_P (dC, dI) vwCl [(h0, .inr (7, [.ref h1, .ref z0, .ref z1, .ref z2, .ref z3, .ref z4, .int 0, .int 0, .int 0])), (h1, .inl (k0, 4, .inr (.inr (.inr (.inr (va_up (va_up (va_up (va_up (fun _ => none) 0 (some h2)) 1 (some h3)) 2 (some h4)) 3 (some h5))))))), (h2, .inr (6, [.ref z5, .int 0])), (h3, .inr (6, [.ref z6, .int 0])), (h4, .inr (6, [.ref z7, .int 0])), (h5, .inr (6, [.ref z8, .int 0]))] H := hP
  have hD : va_D A [(h0, .inr (7, [.ref h1, .ref z0, .ref z1, .ref z2, .ref z3, .ref z4, .int 0, .int 0, .int 0])), (h1, .inl (k0, 4, .inr (.inr (.inr (.inr (va_up (va_up (va_up (va_up (fun _ => none) 0 (some h2)) 1 (some h3)) 2 (some h4)) 3 (some h5))))))), (h2, .inr (6, [.ref z5, .int 0])), (h3, .inr (6, [.ref z6, .int 0])), (h4, .inr (6, [.ref z7, .int 0])), (h5, .inr (6, [.ref z8, .int 0]))] := hD
  refine lv_aload_n hx hb dX3_text_4 rfl (lv_at hl 0 rfl) ?_
  refine va_get (D := (dC, dI)) (ci := 7) (v := .ref h1) (C := RX3) (T := TX3) (N := 9) hx hb hts (by decide +kernel) hown hK hP 0 rfl rfl 0 (by decide) (hts (.fieldLink RX3 11 "Rewriterope" "ropes" "[LRewriterope$Text;") (by decide +kernel)) (fun _ h9 => h9) rfl dX3_text_5 ?_
  refine lv_iload_n hx hb dX3_text_8 rfl (lv_at hl 1 rfl) ?_
  refine va_aldq (D := (dC, dI)) hx hb hK hP 1 0 rfl rfl (by unfold vp_in; decide) dX3_text_9 ?_
  refine W.eq (g2 := F0 m 10 ls [.ref h4]) rfl ?_
  have hPc := hP.sub (ws' := [(h4, .inr (6, [.ref z7, .int 0]))]) [4] rfl
  have hDc := hD.sub (ws' := [(h4, .inr (6, [.ref z7, .int 0]))]) [4] (by decide) rfl
  have hKc := hK.sub (tys' := []) [] rfl
  have hFc := va_free (wc := [(h4, .inr (6, [.ref z7, .int 0]))]) hD hS hA [4] rfl
  refine va_callr (va_runV (As := []) (rest := []) ⟨hx, hb, hml, hown, hts⟩ (kx_X2_asString_0 l dC dI ge5 gea gv5 gva gde gic gi0 h4 z7 H.size) (cwV 0 hts gX3_text_X2_asString rfl rfl rfl (by decide +kernel) ⟨Nat.le_of_ble_eq_true rfl, Nat.le_of_ble_eq_true rfl⟩) ⟨fun a U g mk q => by obtain ⟨q0, q1, qP, qK, qD, qG⟩ := q; exact ⟨q0, q1, qP, va_K.moved (u := U) (U := U.calling g mk a) (Vm.Alike.refl U.vm) qK, qD, gv.fb qG⟩, va_recv hKc hPc (ci := 6) (q0 := 0) rfl rfl, fun U hU hW => ⟨rfl, by rw [hU], by rw [hU]; exact hPc, va_K.moved hW.alike hKc, hDc.weaken (fun _ _ _ _ => trivial), gv.pass hW hU hS hFc hG⟩⟩ rfl rfl hl.1 rfl (lv_room (Nat.le_of_ble_eq_true rfl)) dX3_text_10 ⟨Nat.le_of_ble_eq_true rfl, Nat.le_of_ble_eq_true rfl⟩) hS (fun q _ h => hFc q h) hFc (fun u ra t H1 locs ht hvm hw hB hz1 hk1 hS => ?_)
  obtain ⟨q1, q2, q3, q4, cq5, cq6, hra, hP1, hK1, hD1⟩ := hB
  rw [hra]
  rw [ht] at hP1
  have hK1 := va_K.moved hvm.symm hK1
  obtain ⟨hP, hD⟩ := va_join (wr := [(h0, .inr (7, [.ref h1, .ref z0, .ref z1, .ref z2, .ref z3, .ref z4, .int 0, .int 0, .int 0])), (h1, .inl (k0, 4, .inr (.inr (.inr (.inr (va_up (va_up (va_up (va_up (fun _ => none) 0 (some h2)) 1 (some h3)) 2 (some h4)) 3 (some h5))))))), (h2, .inr (6, [.ref z5, .int 0])), (h3, .inr (6, [.ref z6, .int 0])), (h5, .inr (6, [.ref z8, .int 0]))]) (w1 := [(h4, .inr (6, [.ref z7, .int 0])), (q1, .inr (1, [.ref q2, .int 0, .int 0, .int 0])), (q2, .inl (cq5, 16, .inl (fun _ => 0))), (q3, .inr (0, [.ref q4, .int 0, .int 0, .int 0])), (q4, .inl (cq6, 0, .inl (fun _ => 0)))]) hP hD [4] [0, 1, 2, 3, 5] rfl rfl (by decide) (by decide) hk1 hFc hP1 hD1
  have hK := hK.app (hK1.sub (tys' := [(cq5, .byte), (cq6, .byte)]) [0, 1] rfl)
  generalize H1 = H at hP hS ⊢
  have hK : va_K (dC, dI) vwCl [(k0, .object "Rewriterope$Text"), (cq5, .byte), (cq6, .byte)] s := hK
  have hP : va_P (dC, dI) vwCl [(h0, .inr (7, [.ref h1, .ref z0, .ref z1, .ref z2, .ref z3, .ref z4, .int 0, .int 0, .int 0])), (h1, .inl (k0, 4, .inr (.inr (.inr (.inr (va_up (va_up (va_up (va_up (fun _ => none) 0 (some h2)) 1 (some h3)) 2 (some h4)) 3 (some h5))))))), (h2, .inr (6, [.ref z5, .int 0])), (h3, .inr (6, [.ref z6, .int 0])), (h5, .inr (6, [.ref z8, .int 0])), (h4, .inr (6, [.ref z7, .int 0])), (q1, .inr (1, [.ref q2, .int 0, .int 0, .int 0])), (q2, .inl (cq5, 16, .inl (fun _ => 0))), (q3, .inr (0, [.ref q4, .int 0, .int 0, .int 0])), (q4, .inl (cq6, 0, .inl (fun _ => 0)))] H := hP
  have hD : va_D A [(h0, .inr (7, [.ref h1, .ref z0, .ref z1, .ref z2, .ref z3, .ref z4, .int 0, .int 0, .int 0])), (h1, .inl (k0, 4, .inr (.inr (.inr (.inr (va_up (va_up (va_up (va_up (fun _ => none) 0 (some h2)) 1 (some h3)) 2 (some h4)) 3 (some h5))))))), (h2, .inr (6, [.ref z5, .int 0])), (h3, .inr (6, [.ref z6, .int 0])), (h5, .inr (6, [.ref z8, .int 0])), (h4, .inr (6, [.ref z7, .int 0])), (q1, .inr (1, [.ref q2, .int 0, .int 0, .int 0])), (q2, .inl (cq5, 16, .inl (fun _ => 0))), (q3, .inr (0, [.ref q4, .int 0, .int 0, .int 0])), (q4, .inl (cq6, 0, .inl (fun _ => 0)))] := hD
  refine W.widen (k := 4) (n := 24) (by omega) (by omega) ?_
  have hP := hP.sub (ws' := [(h0, .inr (7, [.ref h1, .ref z0, .ref z1, .ref z2, .ref z3, .ref z4, .int 0, .int 0, .int 0])), (h1, .inl (k0, 4, .inr (.inr (.inr (.inr (va_up (va_up (va_up (va_up (fun _ => none) 0 (some h2)) 1 (some h3)) 2 (some h4)) 3 (some h5))))))), (h2, .inr (6, [.ref z5, .int 0])), (h3, .inr (6, [.ref z6, .int 0])), (h4, .inr (6, [.ref z7, .int 0])), (h5, .inr (6, [.ref z8, .int 0])), (q1, .inr (1, [.ref q2, .int 0, .int 0, .int 0])), (q2, .inl (cq5, 16, .inl (fun _ => 0))), (q3, .inr (0, [.ref q4, .int 0, .int 0, .int 0])), (q4, .inl (cq6, 0, .inl (fun _ => 0)))]) [0, 1, 2, 3, 5, 4, 6, 7, 8, 9] rfl
  have hD := hD.sub (ws' := [(h0, .inr (7, [.ref h1, .ref z0, .ref z1, .ref z2, .ref z3, .ref z4, .int 0, .int 0, .int 0])), (h1, .inl (k0, 4, .inr (.inr (.inr (.inr (va_up (va_up (va_up (va_up (fun _ => none) 0 (some h2)) 1 (some h3)) 2 (some h4)) 3 (some h5))))))), (h2, .inr (6, [.ref z5, .int 0])), (h3, .inr (6, [.ref z6, .int 0])), (h4, .inr (6, [.ref z7, .int 0])), (h5, .inr (6, [.ref z8, .int 0])), (q1, .inr (1, [.ref q2, .int 0, .int 0, .int 0])), (q2, .inl (cq5, 16, .inl (fun _ => 0))), (q3, .inr (0, [.ref q4, .int 0, .int 0, .int 0])), (q4, .inl (cq6, 0, .inl (fun _ => 0)))]) [0, 1, 2, 3, 5, 4, 6, 7, 8, 9] (by decide) rfl
  exact W.aret (v := .ref q3) hx hb hr (Or.inl ⟨_, rfl⟩) (Or.inr ⟨_, rfl⟩) (fun t ht hW => ⟨⟨(), q3, rfl, trivial, q1, q2, q3, q4, cq5, cq6, rfl, by rw [ht]; exact hP, va_K.moved hW.alike hK, hD⟩, hS.F ht⟩) hS.2.2 dX3_text_13
set_option maxHeartbeats 4000000 in
set_option maxRecDepth 100000 in
theorem kx_X3_text_3 (l : Launch) (dC : Nat → ClassId) (dI : Nat → Nat → Nat) (ge5 gea gv5 gva gde gic gi0 : Nat) (h0 : Nat) (h1 : Nat) (h2 : Nat) (h3 : Nat) (h4 : Nat) (h5 : Nat) (z0 : Nat) (z1 : Nat) (z2 : Nat) (z3 : Nat) (z4 : Nat) (z5 : Nat) (z6 : Nat) (z7 : Nat) (z8 : Nat) (k0 : ClassId) (sz : Nat) : Met l yX3_text wsX3_text ({ frames := 7, cells := 4, slots := 24, locals := 192 }) (va_Pc [.ref h0, .int 3] (fun U => U.heap.size = sz ∧ va_P (dC, dI) vwCl [(h0, .inr (7, [.ref h1, .ref z0, .ref z1, .ref z2, .ref z3, .ref z4, .int 0, .int 0, .int 0])), (h1, .inl (k0, 4, .inr (.inr (.inr (.inr (va_up (va_up (va_up (va_up (fun _ => none) 0 (some h2)) 1 (some h3)) 2 (some h4)) 3 (some h5))))))), (h2, .inr (6, [.ref z5, .int 0])), (h3, .inr (6, [.ref z6, .int 0])), (h4, .inr (6, [.ref z7, .int 0])), (h5, .inr (6, [.ref z8, .int 0]))] U.heap ∧ va_K (dC, dI) vwCl [(k0, .object "Rewriterope$Text")] U ∧ va_D (fun _ => True) [(h0, .inr (7, [.ref h1, .ref z0, .ref z1, .ref z2, .ref z3, .ref z4, .int 0, .int 0, .int 0])), (h1, .inl (k0, 4, .inr (.inr (.inr (.inr (va_up (va_up (va_up (va_up (fun _ => none) 0 (some h2)) 1 (some h3)) 2 (some h4)) 3 (some h5))))))), (h2, .inr (6, [.ref z5, .int 0])), (h3, .inr (6, [.ref z6, .int 0])), (h4, .inr (6, [.ref z7, .int 0])), (h5, .inr (6, [.ref z8, .int 0]))] ∧ gv ge5 gea gv5 gva gde gic gi0 (va_A [(h0, .inr (7, [.ref h1, .ref z0, .ref z1, .ref z2, .ref z3, .ref z4, .int 0, .int 0, .int 0])), (h1, .inl (k0, 4, .inr (.inr (.inr (.inr (va_up (va_up (va_up (va_up (fun _ => none) 0 (some h2)) 1 (some h3)) 2 (some h4)) 3 (some h5))))))), (h2, .inr (6, [.ref z5, .int 0])), (h3, .inr (6, [.ref z6, .int 0])), (h4, .inr (6, [.ref z7, .int 0])), (h5, .inr (6, [.ref z8, .int 0]))] sz) U U.heap)) (va_Qr (fun _ : Unit => True) (fun (_ : Unit) (ra : Nat) (t : State) => ∃ q1 : Nat, ∃ q2 : Nat, ∃ q3 : Nat, ∃ q4 : Nat, ∃ cq5 : ClassId, ∃ cq6 : ClassId, ra = q3 ∧ va_P (dC, dI) vwCl [(h0, .inr (7, [.ref h1, .ref z0, .ref z1, .ref z2, .ref z3, .ref z4, .int 0, .int 0, .int 0])), (h1, .inl (k0, 4, .inr (.inr (.inr (.inr (va_up (va_up (va_up (va_up (fun _ => none) 0 (some h2)) 1 (some h3)) 2 (some h4)) 3 (some h5))))))), (h2, .inr (6, [.ref z5, .int 0])), (h3, .inr (6, [.ref z6, .int 0])), (h4, .inr (6, [.ref z7, .int 0])), (h5, .inr (6, [.ref z8, .int 0])), (q1, .inr (1, [.ref q2, .int 0, .int 0, .int 0])), (q2, .inl (cq5, 16, .inl (fun _ => 0))), (q3, .inr (0, [.ref q4, .int 0, .int 0, .int 0])), (q4, .inl (cq6, 0, .inl (fun _ => 0)))] t.heap ∧ va_K (dC, dI) vwCl [(k0, .object "Rewriterope$Text"), (cq5, .byte), (cq6, .byte)] t ∧ va_D (va_A [(h0, .inr (7, [.ref h1, .ref z0, .ref z1, .ref z2, .ref z3, .ref z4, .int 0, .int 0, .int 0])), (h1, .inl (k0, 4, .inr (.inr (.inr (.inr (va_up (va_up (va_up (va_up (fun _ => none) 0 (some h2)) 1 (some h3)) 2 (some h4)) 3 (some h5))))))), (h2, .inr (6, [.ref z5, .int 0])), (h3, .inr (6, [.ref z6, .int 0])), (h4, .inr (6, [.ref z7, .int 0])), (h5, .inr (6, [.ref z8, .int 0]))] sz) [(h0, .inr (7, [.ref h1, .ref z0, .ref z1, .ref z2, .ref z3, .ref z4, .int 0, .int 0, .int 0])), (h1, .inl (k0, 4, .inr (.inr (.inr (.inr (va_up (va_up (va_up (va_up (fun _ => none) 0 (some h2)) 1 (some h3)) 2 (some h4)) 3 (some h5))))))), (h2, .inr (6, [.ref z5, .int 0])), (h3, .inr (6, [.ref z6, .int 0])), (h4, .inr (6, [.ref z7, .int 0])), (h5, .inr (6, [.ref z8, .int 0])), (q1, .inr (1, [.ref q2, .int 0, .int 0, .int 0])), (q2, .inl (cq5, 16, .inl (fun _ => 0))), (q3, .inr (0, [.ref q4, .int 0, .int 0, .int 0])), (q4, .inl (cq6, 0, .inl (fun _ => 0)))]) (va_A [(h0, .inr (7, [.ref h1, .ref z0, .ref z1, .ref z2, .ref z3, .ref z4, .int 0, .int 0, .int 0])), (h1, .inl (k0, 4, .inr (.inr (.inr (.inr (va_up (va_up (va_up (va_up (fun _ => none) 0 (some h2)) 1 (some h3)) 2 (some h4)) 3 (some h5))))))), (h2, .inr (6, [.ref z5, .int 0])), (h3, .inr (6, [.ref z6, .int 0])), (h4, .inr (6, [.ref z7, .int 0])), (h5, .inr (6, [.ref z8, .int 0]))] sz)) 4 24 (va_A [(h0, .inr (7, [.ref h1, .ref z0, .ref z1, .ref z2, .ref z3, .ref z4, .int 0, .int 0, .int 0])), (h1, .inl (k0, 4, .inr (.inr (.inr (.inr (va_up (va_up (va_up (va_up (fun _ => none) 0 (some h2)) 1 (some h3)) 2 (some h4)) 3 (some h5))))))), (h2, .inr (6, [.ref z5, .int 0])), (h3, .inr (6, [.ref z6, .int 0])), (h4, .inr (6, [.ref z7, .int 0])), (h5, .inr (6, [.ref z8, .int 0]))] sz) := by
  refine Met.ofW (cc := cX3_text) (maxL := 2) (ret := (some (.object "java/lang/String"))) (by decide) rfl ?_
  intro p e s m args below meth c s₁ B hml hv
  obtain ⟨rfl, hsz, hP, hK, hD0, hG⟩ := hv
  have hx := B.exec
  have hb := B.bytes
  have hr := B.returns
  have hts := atoms_spec (ws := wsX3_text) B.pre
  have hown : s.vm.findClass RX3 = some m.cls := findClass_of_methodNamed B.named
  have hlocks := B.notSynchronized
  subst hsz
  have hD := hD0.self (sz := s.heap.size)
  generalize hAe : va_A [(h0, .inr (7, [.ref h1, .ref z0, .ref z1, .ref z2, .ref z3, .ref z4, .int 0, .int 0, .int 0])), (h1, .inl (k0, 4, .inr (.inr (.inr (.inr (va_up (va_up (va_up (va_up (fun _ => none) 0 (some h2)) 1 (some h3)) 2 (some h4)) 3 (some h5))))))), (h2, .inr (6, [.ref z5, .int 0])), (h3, .inr (6, [.ref z6, .int 0])), (h4, .inr (6, [.ref z7, .int 0])), (h5, .inr (6, [.ref z8, .int 0]))] s.heap.size = A at hD hG ⊢
  obtain ⟨⟨g_AO_Text, g_AO_String, g_AO_Object, g_nm_RX1_20, g_nm_RX0_17, g_nm_RX3_31, g_nm_RX2_44, g_nm_RL_121, g_nf_RL_13, g_nf_RL_47, g_ca_IO, g_ca_IA, g_ca_IS, g_ca_IntObj, g_ca_StrObj, g_de_RT, g_de_EX, g_de_TH, g_nc_IA_IO, g_nc_IS_IO, g_nc_IS_IA⟩, ⟨g_s3, g_s5, g_sa, g_x278, g_x280, g_x282, g_x284, g_x286, g_x180, g_x238, g_x250⟩, ⟨g_o5, g_c5, g_v5, g_t5, g_oa, g_ca, g_va, g_ta, g_zc, g_zd, g_td, g_zf, g_zU, g_zN, g_zh, g_zk, g_tk, g_oi, g_vi⟩⟩ := id hG
  have hA : ∀ q : Nat, s.heap.size ≤ q → A q := fun q h => by rw [← hAe]; exact Or.inr h
  have hS : va_S A s.heap s.heap [] := va_S.rf
  have hP : va_P (dC, dI) vwCl [(h0, .inr (7, [.ref h1, .ref z0, .ref z1, .ref z2, .ref z3, .ref z4, .int 0, .int 0, .int 0])), (h1, .inl (k0, 4, .inr (.inr (.inr (.inr (va_up (va_up (va_up (va_up (fun _ => none) 0 (some h2)) 1 (some h3)) 2 (some h4)) 3 (some h5))))))), (h2, .inr (6, [.ref z5, .int 0])), (h3, .inr (6, [.ref z6, .int 0])), (h4, .inr (6, [.ref z7, .int 0])), (h5, .inr (6, [.ref z8, .int 0]))] s.heap := hP
  have hl := lv_entry ([.ref h0, .int 3]) (n := 2) (Nat.le_of_ble_eq_true rfl)
  rw [lg_entry_eq]
  generalize (lg_sl ([.ref h0, .int 3]) ++ List.replicate (2 - (lg_sl ([.ref h0, .int 3])).length) Slot.unset).toArray = ls at hl ⊢
  have hl : lv_has ls 2 [(0, .ref h0), (1, .int 3)] := hl
  refine lv_iload_n hx hb dX3_text_0 rfl (lv_at hl 1 rfl) ?_
  have hPc := hP.sub (ws' := []) [] rfl
  have hDc := hD.sub (ws' := []) [] (by decide) rfl
  have hKc := hK.sub (tys' := []) [] rfl
  have hFc := va_free (wc := []) hD hS hA [] rfl
  refine va_callv (va_runS (As := [.int 3]) (rest := []) ⟨hx, hb, hml, hown, hts⟩ (kx_X3_needRope_4 l dC dI s.heap.size) (cwS 1 hts gX3_text_X3_needRope rfl rfl rfl (by decide +kernel) ⟨Nat.le_of_ble_eq_true rfl, Nat.le_of_ble_eq_true rfl⟩) ⟨fun a U g mk q => by obtain ⟨q0, q1, qP, qK, qD⟩ := q; exact ⟨q0, q1, qP, va_K.moved (u := U) (U := U.calling g mk a) (Vm.Alike.refl U.vm) qK, qD⟩, fun U hU hW => ⟨rfl, by rw [hU], by rw [hU]; exact hPc, va_K.moved hW.alike hKc, hDc.weaken (fun _ _ _ _ => trivial)⟩⟩ rfl rfl hl.1 rfl (lv_room (Nat.le_of_ble_eq_true rfl)) dX3_text_1 ⟨Nat.le_of_ble_eq_true rfl, Nat.le_of_ble_eq_true rfl⟩) hS (fun q _ h => hFc q h) hFc (fun u t H1 locs ht hvm hw hB hz1 hk1 hS => ?_)
  obtain ⟨hP1, hK1, hD1⟩ := hB
  rw [ht] at hP1
  have hK1 := va_K.moved hvm.symm hK1
  obtain ⟨hP, hD⟩ := va_join (wr := [(h0, .inr (7, [.ref h1, .ref z0, .ref z1, .ref z2, .ref z3, .ref z4, .int 0, .int 0, .int 0])), (h1, .inl (k0, 4, .inr (.inr (.inr (.inr (va_up (va_up (va_up (va_up (fun _ => none) 0 (some h2)) 1 (some h3)) 2 (some h4)) 3 (some h5))))))), (h2, .inr (6, [.ref z5, .int 0])), (h3, .inr (6, [.ref z6, .int 0])), (h4, .inr (6, [.ref z7, .int 0])), (h5, .inr (6, [.ref z8, .int 0]))]) (w1 := []) hP hD [] [0, 1, 2, 3, 4, 5] rfl rfl (by decide) (by decide) hk1 hFc hP1 hD1
  generalize H1 = H at hP hS ⊢
  have hP : va_P (dC, dI) vwCl [(h0, .inr (7, [.ref h1, .ref z0, .ref z1, .ref z2, .ref z3, .ref z4, .int 0, .int 0, .int 0])), (h1, .inl (k0, 4, .inr (.inr (.inr (.inr (va_up (va_up (va_up (va_up (fun _ => none) 0 (some h2)) 1 (some h3)) 2 (some h4)) 3 (some h5))))))), (h2, .inr (6, [.ref z5, .int 0])), (h3, .inr (6, [.ref z6, .int 0])), (h4, .inr (6, [.ref z7, .int 0])), (h5, .inr (6, [.ref z8, .int 0]))] H := hP
  have hD : va_D A [(h0, .inr (7, [.ref h1, .ref z0, .ref z1, .ref z2, .ref z3, .ref z4, .int 0, .int 0, .int 0])), (h1, .inl (k0, 4, .inr (.inr (.inr (.inr (va_up (va_up (va_up (va_up (fun _ => none) 0 (some h2)) 1 (some h3)) 2 (some h4)) 3 (some h5))))))), (h2, .inr (6, [.ref z5, .int 0])), (h3, .inr (6, [.ref z6, .int 0])), (h4, .inr (6, [.ref z7, .int 0])), (h5, .inr (6, [.ref z8, .int 0]))] := hD
  refine lv_aload_n hx hb dX3_text_4 rfl (lv_at hl 0 rfl) ?_
  refine va_get (D := (dC, dI)) (ci := 7) (v := .ref h1) (C := RX3) (T := TX3) (N := 9) hx hb hts (by decide +kernel) hown hK hP 0 rfl rfl 0 (by decide) (hts (.fieldLink RX3 11 "Rewriterope" "ropes" "[LRewriterope$Text;") (by decide +kernel)) (fun _ h9 => h9) rfl dX3_text_5 ?_
  refine lv_iload_n hx hb dX3_text_8 rfl (lv_at hl 1 rfl) ?_
  refine va_aldq (D := (dC, dI)) hx hb hK hP 1 0 rfl rfl (by unfold vp_in; decide) dX3_text_9 ?_
  refine W.eq (g2 := F0 m 10 ls [.ref h5]) rfl ?_
  have hPc := hP.sub (ws' := [(h5, .inr (6, [.ref z8, .int 0]))]) [5] rfl
  have hDc := hD.sub (ws' := [(h5, .inr (6, [.ref z8, .int 0]))]) [5] (by decide) rfl
  have hKc := hK.sub (tys' := []) [] rfl
  have hFc := va_free (wc := [(h5, .inr (6, [.ref z8, .int 0]))]) hD hS hA [5] rfl
  refine va_callr (va_runV (As := []) (rest := []) ⟨hx, hb, hml, hown, hts⟩ (kx_X2_asString_0 l dC dI ge5 gea gv5 gva gde gic gi0 h5 z8 H.size) (cwV 0 hts gX3_text_X2_asString rfl rfl rfl (by decide +kernel) ⟨Nat.le_of_ble_eq_true rfl, Nat.le_of_ble_eq_true rfl⟩) ⟨fun a U g mk q => by obtain ⟨q0, q1, qP, qK, qD, qG⟩ := q; exact ⟨q0, q1, qP, va_K.moved (u := U) (U := U.calling g mk a) (Vm.Alike.refl U.vm) qK, qD, gv.fb qG⟩, va_recv hKc hPc (ci := 6) (q0 := 0) rfl rfl, fun U hU hW => ⟨rfl, by rw [hU], by rw [hU]; exact hPc, va_K.moved hW.alike hKc, hDc.weaken (fun _ _ _ _ => trivial), gv.pass hW hU hS hFc hG⟩⟩ rfl rfl hl.1 rfl (lv_room (Nat.le_of_ble_eq_true rfl)) dX3_text_10 ⟨Nat.le_of_ble_eq_true rfl, Nat.le_of_ble_eq_true rfl⟩) hS (fun q _ h => hFc q h) hFc (fun u ra t H1 locs ht hvm hw hB hz1 hk1 hS => ?_)
  obtain ⟨q1, q2, q3, q4, cq5, cq6, hra, hP1, hK1, hD1⟩ := hB
  rw [hra]
  rw [ht] at hP1
  have hK1 := va_K.moved hvm.symm hK1
  obtain ⟨hP, hD⟩ := va_join (wr := [(h0, .inr (7, [.ref h1, .ref z0, .ref z1, .ref z2, .ref z3, .ref z4, .int 0, .int 0, .int 0])), (h1, .inl (k0, 4, .inr (.inr (.inr (.inr (va_up (va_up (va_up (va_up (fun _ => none) 0 (some h2)) 1 (some h3)) 2 (some h4)) 3 (some h5))))))), (h2, .inr (6, [.ref z5, .int 0])), (h3, .inr (6, [.ref z6, .int 0])), (h4, .inr (6, [.ref z7, .int 0]))]) (w1 := [(h5, .inr (6, [.ref z8, .int 0])), (q1, .inr (1, [.ref q2, .int 0, .int 0, .int 0])), (q2, .inl (cq5, 16, .inl (fun _ => 0))), (q3, .inr (0, [.ref q4, .int 0, .int 0, .int 0])), (q4, .inl (cq6, 0, .inl (fun _ => 0)))]) hP hD [5] [0, 1, 2, 3, 4] rfl rfl (by decide) (by decide) hk1 hFc hP1 hD1
  have hK := hK.app (hK1.sub (tys' := [(cq5, .byte), (cq6, .byte)]) [0, 1] rfl)
  generalize H1 = H at hP hS ⊢
  have hK : va_K (dC, dI) vwCl [(k0, .object "Rewriterope$Text"), (cq5, .byte), (cq6, .byte)] s := hK
  have hP : va_P (dC, dI) vwCl [(h0, .inr (7, [.ref h1, .ref z0, .ref z1, .ref z2, .ref z3, .ref z4, .int 0, .int 0, .int 0])), (h1, .inl (k0, 4, .inr (.inr (.inr (.inr (va_up (va_up (va_up (va_up (fun _ => none) 0 (some h2)) 1 (some h3)) 2 (some h4)) 3 (some h5))))))), (h2, .inr (6, [.ref z5, .int 0])), (h3, .inr (6, [.ref z6, .int 0])), (h4, .inr (6, [.ref z7, .int 0])), (h5, .inr (6, [.ref z8, .int 0])), (q1, .inr (1, [.ref q2, .int 0, .int 0, .int 0])), (q2, .inl (cq5, 16, .inl (fun _ => 0))), (q3, .inr (0, [.ref q4, .int 0, .int 0, .int 0])), (q4, .inl (cq6, 0, .inl (fun _ => 0)))] H := hP
  have hD : va_D A [(h0, .inr (7, [.ref h1, .ref z0, .ref z1, .ref z2, .ref z3, .ref z4, .int 0, .int 0, .int 0])), (h1, .inl (k0, 4, .inr (.inr (.inr (.inr (va_up (va_up (va_up (va_up (fun _ => none) 0 (some h2)) 1 (some h3)) 2 (some h4)) 3 (some h5))))))), (h2, .inr (6, [.ref z5, .int 0])), (h3, .inr (6, [.ref z6, .int 0])), (h4, .inr (6, [.ref z7, .int 0])), (h5, .inr (6, [.ref z8, .int 0])), (q1, .inr (1, [.ref q2, .int 0, .int 0, .int 0])), (q2, .inl (cq5, 16, .inl (fun _ => 0))), (q3, .inr (0, [.ref q4, .int 0, .int 0, .int 0])), (q4, .inl (cq6, 0, .inl (fun _ => 0)))] := hD
  refine W.widen (k := 4) (n := 24) (by omega) (by omega) ?_
  exact W.aret (v := .ref q3) hx hb hr (Or.inl ⟨_, rfl⟩) (Or.inr ⟨_, rfl⟩) (fun t ht hW => ⟨⟨(), q3, rfl, trivial, q1, q2, q3, q4, cq5, cq6, rfl, by rw [ht]; exact hP, va_K.moved hW.alike hK, hD⟩, hS.F ht⟩) hS.2.2 dX3_text_13
set_option maxHeartbeats 4000000 in
set_option maxRecDepth 100000 in
theorem kx_X3_text_s0 (l : Launch) (dC : Nat → ClassId) (dI : Nat → Nat → Nat) (ge5 gea gv5 gva gde gic gi0 : Nat) (h0 : Nat) (h1 : Nat) (h2 : Nat) (h3 : Nat) (h4 : Nat) (h5 : Nat) (z0 : Nat) (z1 : Nat) (z2 : Nat) (z3 : Nat) (z4 : Nat) (z5 : Nat) (z6 : Nat) (z7 : Nat) (z8 : Nat) (k0 : ClassId) (sz : Nat) (j0 : Int32) (j0_l : (0 : Int) ≤ j0.toInt) (j0_u : j0.toInt ≤ (3 : Int)) : Met l yX3_text wsX3_text ({ frames := 7, cells := 4, slots := 24, locals := 192 }) (va_Pc [.ref h0, .int j0] (fun U => U.heap.size = sz ∧ va_P (dC, dI) vwCl [(h0, .inr (7, [.ref h1, .ref z0, .ref z1, .ref z2, .ref z3, .ref z4, .int 0, .int 0, .int 0])), (h1, .inl (k0, 4, .inr (.inr (.inr (.inr (va_up (va_up (va_up (va_up (fun _ => none) 0 (some h2)) 1 (some h3)) 2 (some h4)) 3 (some h5))))))), (h2, .inr (6, [.ref z5, .int 0])), (h3, .inr (6, [.ref z6, .int 0])), (h4, .inr (6, [.ref z7, .int 0])), (h5, .inr (6, [.ref z8, .int 0]))] U.heap ∧ va_K (dC, dI) vwCl [(k0, .object "Rewriterope$Text")] U ∧ va_D (fun _ => True) [(h0, .inr (7, [.ref h1, .ref z0, .ref z1, .ref z2, .ref z3, .ref z4, .int 0, .int 0, .int 0])), (h1, .inl (k0, 4, .inr (.inr (.inr (.inr (va_up (va_up (va_up (va_up (fun _ => none) 0 (some h2)) 1 (some h3)) 2 (some h4)) 3 (some h5))))))), (h2, .inr (6, [.ref z5, .int 0])), (h3, .inr (6, [.ref z6, .int 0])), (h4, .inr (6, [.ref z7, .int 0])), (h5, .inr (6, [.ref z8, .int 0]))] ∧ gv ge5 gea gv5 gva gde gic gi0 (va_A [(h0, .inr (7, [.ref h1, .ref z0, .ref z1, .ref z2, .ref z3, .ref z4, .int 0, .int 0, .int 0])), (h1, .inl (k0, 4, .inr (.inr (.inr (.inr (va_up (va_up (va_up (va_up (fun _ => none) 0 (some h2)) 1 (some h3)) 2 (some h4)) 3 (some h5))))))), (h2, .inr (6, [.ref z5, .int 0])), (h3, .inr (6, [.ref z6, .int 0])), (h4, .inr (6, [.ref z7, .int 0])), (h5, .inr (6, [.ref z8, .int 0]))] sz) U U.heap)) (va_Qr (fun _ : Unit => True) (fun (_ : Unit) (ra : Nat) (t : State) => ∃ q1 : Nat, ∃ q2 : Nat, ∃ q3 : Nat, ∃ q4 : Nat, ∃ cq5 : ClassId, ∃ cq6 : ClassId, ra = q3 ∧ va_P (dC, dI) vwCl [(h0, .inr (7, [.ref h1, .ref z0, .ref z1, .ref z2, .ref z3, .ref z4, .int 0, .int 0, .int 0])), (h1, .inl (k0, 4, .inr (.inr (.inr (.inr (va_up (va_up (va_up (va_up (fun _ => none) 0 (some h2)) 1 (some h3)) 2 (some h4)) 3 (some h5))))))), (h2, .inr (6, [.ref z5, .int 0])), (h3, .inr (6, [.ref z6, .int 0])), (h4, .inr (6, [.ref z7, .int 0])), (h5, .inr (6, [.ref z8, .int 0])), (q1, .inr (1, [.ref q2, .int 0, .int 0, .int 0])), (q2, .inl (cq5, 16, .inl (fun _ => 0))), (q3, .inr (0, [.ref q4, .int 0, .int 0, .int 0])), (q4, .inl (cq6, 0, .inl (fun _ => 0)))] t.heap ∧ va_K (dC, dI) vwCl [(k0, .object "Rewriterope$Text"), (cq5, .byte), (cq6, .byte)] t ∧ va_D (va_A [(h0, .inr (7, [.ref h1, .ref z0, .ref z1, .ref z2, .ref z3, .ref z4, .int 0, .int 0, .int 0])), (h1, .inl (k0, 4, .inr (.inr (.inr (.inr (va_up (va_up (va_up (va_up (fun _ => none) 0 (some h2)) 1 (some h3)) 2 (some h4)) 3 (some h5))))))), (h2, .inr (6, [.ref z5, .int 0])), (h3, .inr (6, [.ref z6, .int 0])), (h4, .inr (6, [.ref z7, .int 0])), (h5, .inr (6, [.ref z8, .int 0]))] sz) [(h0, .inr (7, [.ref h1, .ref z0, .ref z1, .ref z2, .ref z3, .ref z4, .int 0, .int 0, .int 0])), (h1, .inl (k0, 4, .inr (.inr (.inr (.inr (va_up (va_up (va_up (va_up (fun _ => none) 0 (some h2)) 1 (some h3)) 2 (some h4)) 3 (some h5))))))), (h2, .inr (6, [.ref z5, .int 0])), (h3, .inr (6, [.ref z6, .int 0])), (h4, .inr (6, [.ref z7, .int 0])), (h5, .inr (6, [.ref z8, .int 0])), (q1, .inr (1, [.ref q2, .int 0, .int 0, .int 0])), (q2, .inl (cq5, 16, .inl (fun _ => 0))), (q3, .inr (0, [.ref q4, .int 0, .int 0, .int 0])), (q4, .inl (cq6, 0, .inl (fun _ => 0)))]) (va_A [(h0, .inr (7, [.ref h1, .ref z0, .ref z1, .ref z2, .ref z3, .ref z4, .int 0, .int 0, .int 0])), (h1, .inl (k0, 4, .inr (.inr (.inr (.inr (va_up (va_up (va_up (va_up (fun _ => none) 0 (some h2)) 1 (some h3)) 2 (some h4)) 3 (some h5))))))), (h2, .inr (6, [.ref z5, .int 0])), (h3, .inr (6, [.ref z6, .int 0])), (h4, .inr (6, [.ref z7, .int 0])), (h5, .inr (6, [.ref z8, .int 0]))] sz)) 4 24 (va_A [(h0, .inr (7, [.ref h1, .ref z0, .ref z1, .ref z2, .ref z3, .ref z4, .int 0, .int 0, .int 0])), (h1, .inl (k0, 4, .inr (.inr (.inr (.inr (va_up (va_up (va_up (va_up (fun _ => none) 0 (some h2)) 1 (some h3)) 2 (some h4)) 3 (some h5))))))), (h2, .inr (6, [.ref z5, .int 0])), (h3, .inr (6, [.ref z6, .int 0])), (h4, .inr (6, [.ref z7, .int 0])), (h5, .inr (6, [.ref z8, .int 0]))] sz) := by
  have e9 : j0 = 0 ∨ j0 = 1 ∨ j0 = 2 ∨ j0 = 3 := by
    have h9 : j0.toInt = 0 ∨ j0.toInt = 1 ∨ j0.toInt = 2 ∨ j0.toInt = 3 := by omega
    rcases h9 with h9 | h9 | h9 | h9
    · exact Or.inl (Int32.toInt_inj.mp (h9.trans (by decide)))
    · exact Or.inr (Or.inl (Int32.toInt_inj.mp (h9.trans (by decide))))
    · exact Or.inr (Or.inr (Or.inl (Int32.toInt_inj.mp (h9.trans (by decide)))))
    · exact Or.inr (Or.inr (Or.inr (Int32.toInt_inj.mp (h9.trans (by decide)))))
  rcases e9 with rfl | rfl | rfl | rfl
  · exact kx_X3_text_0 l dC dI ge5 gea gv5 gva gde gic gi0 h0 h1 h2 h3 h4 h5 z0 z1 z2 z3 z4 z5 z6 z7 z8 k0 sz
  · exact kx_X3_text_1 l dC dI ge5 gea gv5 gva gde gic gi0 h0 h1 h2 h3 h4 h5 z0 z1 z2 z3 z4 z5 z6 z7 z8 k0 sz
  · exact kx_X3_text_2 l dC dI ge5 gea gv5 gva gde gic gi0 h0 h1 h2 h3 h4 h5 z0 z1 z2 z3 z4 z5 z6 z7 z8 k0 sz
  · exact kx_X3_text_3 l dC dI ge5 gea gv5 gva gde gic gi0 h0 h1 h2 h3 h4 h5 z0 z1 z2 z3 z4 z5 z6 z7 z8 k0 sz
set_option maxHeartbeats 4000000 in
set_option maxRecDepth 100000 in
theorem kx_L_text_0 (l : Launch) (dC : Nat → ClassId) (dI : Nat → Nat → Nat) (ge5 gea gv5 gva gde gic gi0 : Nat) (h0 : Nat) (h1 : Nat) (h2 : Nat) (h3 : Nat) (h4 : Nat) (h5 : Nat) (h6 : Nat) (z0 : Nat) (z1 : Nat) (z2 : Nat) (z3 : Nat) (z4 : Nat) (z5 : Nat) (z6 : Nat) (z7 : Nat) (z8 : Nat) (k0 : ClassId) (sz : Nat) (i0 : Int32) (i0_l : (0 : Int) ≤ i0.toInt) (i0_u : i0.toInt ≤ (3 : Int)) : Met l yL_text wsL_text ({ frames := 8, cells := 4, slots := 24, locals := 213 }) (va_Pc [.ref h0, .int i0, .ref h6] (fun U => U.heap.size = sz ∧ va_P (dC, dI) vwCl [(h0, .inr (7, [.ref h1, .ref z0, .ref z1, .ref z2, .ref z3, .ref z4, .int 0, .int 0, .int 0])), (h1, .inl (k0, 4, .inr (.inr (.inr (.inr (va_up (va_up (va_up (va_up (fun _ => none) 0 (some h2)) 1 (some h3)) 2 (some h4)) 3 (some h5))))))), (h2, .inr (6, [.ref z5, .int 0])), (h3, .inr (6, [.ref z6, .int 0])), (h4, .inr (6, [.ref z7, .int 0])), (h5, .inr (6, [.ref z8, .int 0])), (h6, .inr (8, [.long 0, .null]))] U.heap ∧ va_K (dC, dI) vwCl [(k0, .object "Rewriterope$Text")] U ∧ va_D (fun _ => True) [(h0, .inr (7, [.ref h1, .ref z0, .ref z1, .ref z2, .ref z3, .ref z4, .int 0, .int 0, .int 0])), (h1, .inl (k0, 4, .inr (.inr (.inr (.inr (va_up (va_up (va_up (va_up (fun _ => none) 0 (some h2)) 1 (some h3)) 2 (some h4)) 3 (some h5))))))), (h2, .inr (6, [.ref z5, .int 0])), (h3, .inr (6, [.ref z6, .int 0])), (h4, .inr (6, [.ref z7, .int 0])), (h5, .inr (6, [.ref z8, .int 0])), (h6, .inr (8, [.long 0, .null]))] ∧ gv ge5 gea gv5 gva gde gic gi0 (va_A [(h0, .inr (7, [.ref h1, .ref z0, .ref z1, .ref z2, .ref z3, .ref z4, .int 0, .int 0, .int 0])), (h1, .inl (k0, 4, .inr (.inr (.inr (.inr (va_up (va_up (va_up (va_up (fun _ => none) 0 (some h2)) 1 (some h3)) 2 (some h4)) 3 (some h5))))))), (h2, .inr (6, [.ref z5, .int 0])), (h3, .inr (6, [.ref z6, .int 0])), (h4, .inr (6, [.ref z7, .int 0])), (h5, .inr (6, [.ref z8, .int 0])), (h6, .inr (8, [.long 0, .null]))] sz) U U.heap)) (va_Qi (fun (r : Int32) (_ : Unit) => r = 0) (fun (_ : Unit) (t : State) => ∃ q1 : Nat, ∃ q2 : Nat, ∃ q3 : Nat, ∃ q4 : Nat, ∃ cq5 : ClassId, ∃ cq6 : ClassId, va_P (dC, dI) vwCl [(h0, .inr (7, [.ref h1, .ref z0, .ref z1, .ref z2, .ref z3, .ref z4, .int 0, .int 0, .int 0])), (h1, .inl (k0, 4, .inr (.inr (.inr (.inr (va_up (va_up (va_up (va_up (fun _ => none) 0 (some h2)) 1 (some h3)) 2 (some h4)) 3 (some h5))))))), (h2, .inr (6, [.ref z5, .int 0])), (h3, .inr (6, [.ref z6, .int 0])), (h4, .inr (6, [.ref z7, .int 0])), (h5, .inr (6, [.ref z8, .int 0])), (h6, .inr (8, [.long 0, .ref q3])), (q1, .inr (1, [.ref q2, .int 0, .int 0, .int 0])), (q2, .inl (cq5, 16, .inl (fun _ => 0))), (q3, .inr (0, [.ref q4, .int 0, .int 0, .int 0])), (q4, .inl (cq6, 0, .inl (fun _ => 0)))] t.heap ∧ va_K (dC, dI) vwCl [(k0, .object "Rewriterope$Text"), (cq5, .byte), (cq6, .byte)] t ∧ va_D (va_A [(h0, .inr (7, [.ref h1, .ref z0, .ref z1, .ref z2, .ref z3, .ref z4, .int 0, .int 0, .int 0])), (h1, .inl (k0, 4, .inr (.inr (.inr (.inr (va_up (va_up (va_up (va_up (fun _ => none) 0 (some h2)) 1 (some h3)) 2 (some h4)) 3 (some h5))))))), (h2, .inr (6, [.ref z5, .int 0])), (h3, .inr (6, [.ref z6, .int 0])), (h4, .inr (6, [.ref z7, .int 0])), (h5, .inr (6, [.ref z8, .int 0])), (h6, .inr (8, [.long 0, .null]))] sz) [(h0, .inr (7, [.ref h1, .ref z0, .ref z1, .ref z2, .ref z3, .ref z4, .int 0, .int 0, .int 0])), (h1, .inl (k0, 4, .inr (.inr (.inr (.inr (va_up (va_up (va_up (va_up (fun _ => none) 0 (some h2)) 1 (some h3)) 2 (some h4)) 3 (some h5))))))), (h2, .inr (6, [.ref z5, .int 0])), (h3, .inr (6, [.ref z6, .int 0])), (h4, .inr (6, [.ref z7, .int 0])), (h5, .inr (6, [.ref z8, .int 0])), (h6, .inr (8, [.long 0, .ref q3])), (q1, .inr (1, [.ref q2, .int 0, .int 0, .int 0])), (q2, .inl (cq5, 16, .inl (fun _ => 0))), (q3, .inr (0, [.ref q4, .int 0, .int 0, .int 0])), (q4, .inl (cq6, 0, .inl (fun _ => 0)))]) (va_A [(h0, .inr (7, [.ref h1, .ref z0, .ref z1, .ref z2, .ref z3, .ref z4, .int 0, .int 0, .int 0])), (h1, .inl (k0, 4, .inr (.inr (.inr (.inr (va_up (va_up (va_up (va_up (fun _ => none) 0 (some h2)) 1 (some h3)) 2 (some h4)) 3 (some h5))))))), (h2, .inr (6, [.ref z5, .int 0])), (h3, .inr (6, [.ref z6, .int 0])), (h4, .inr (6, [.ref z7, .int 0])), (h5, .inr (6, [.ref z8, .int 0])), (h6, .inr (8, [.long 0, .null]))] sz)) 4 24 (va_A [(h0, .inr (7, [.ref h1, .ref z0, .ref z1, .ref z2, .ref z3, .ref z4, .int 0, .int 0, .int 0])), (h1, .inl (k0, 4, .inr (.inr (.inr (.inr (va_up (va_up (va_up (va_up (fun _ => none) 0 (some h2)) 1 (some h3)) 2 (some h4)) 3 (some h5))))))), (h2, .inr (6, [.ref z5, .int 0])), (h3, .inr (6, [.ref z6, .int 0])), (h4, .inr (6, [.ref z7, .int 0])), (h5, .inr (6, [.ref z8, .int 0])), (h6, .inr (8, [.long 0, .null]))] sz) := by
  refine kz_ofWH (cc := cL_text) (maxL := 4) (ret := (some .int)) (hh := [(0, 9, 12, 19)]) (by decide) rfl ?_
  intro p e s m args below meth c s₁ B hml hv
  obtain ⟨rfl, hsz, hP, hK, hD0, hG⟩ := hv
  have hx := B.exec
  have hb := B.bytes
  have hr := B.returns
  have hts := atoms_spec (ws := wsL_text) B.pre
  have hown : s.vm.findClass RL = some m.cls := findClass_of_methodNamed B.named
  have htab := vx_table (x := yL_text) B (hts (.codeWith yL_text cL_text 4 (some .int) [(0, 9, 12, 19)]) (by decide +kernel))
  have hlocks := B.notSynchronized
  subst hsz
  have hD := hD0.self (sz := s.heap.size)
  generalize hAe : va_A [(h0, .inr (7, [.ref h1, .ref z0, .ref z1, .ref z2, .ref z3, .ref z4, .int 0, .int 0, .int 0])), (h1, .inl (k0, 4, .inr (.inr (.inr (.inr (va_up (va_up (va_up (va_up (fun _ => none) 0 (some h2)) 1 (some h3)) 2 (some h4)) 3 (some h5))))))), (h2, .inr (6, [.ref z5, .int 0])), (h3, .inr (6, [.ref z6, .int 0])), (h4, .inr (6, [.ref z7, .int 0])), (h5, .inr (6, [.ref z8, .int 0])), (h6, .inr (8, [.long 0, .null]))] s.heap.size = A at hD hG ⊢
  obtain ⟨⟨g_AO_Text, g_AO_String, g_AO_Object, g_nm_RX1_20, g_nm_RX0_17, g_nm_RX3_31, g_nm_RX2_44, g_nm_RL_121, g_nf_RL_13, g_nf_RL_47, g_ca_IO, g_ca_IA, g_ca_IS, g_ca_IntObj, g_ca_StrObj, g_de_RT, g_de_EX, g_de_TH, g_nc_IA_IO, g_nc_IS_IO, g_nc_IS_IA⟩, ⟨g_s3, g_s5, g_sa, g_x278, g_x280, g_x282, g_x284, g_x286, g_x180, g_x238, g_x250⟩, ⟨g_o5, g_c5, g_v5, g_t5, g_oa, g_ca, g_va, g_ta, g_zc, g_zd, g_td, g_zf, g_zU, g_zN, g_zh, g_zk, g_tk, g_oi, g_vi⟩⟩ := id hG
  have hA : ∀ q : Nat, s.heap.size ≤ q → A q := fun q h => by rw [← hAe]; exact Or.inr h
  have hS : va_S A s.heap s.heap [] := va_S.rf
  have hP : va_P (dC, dI) vwCl [(h0, .inr (7, [.ref h1, .ref z0, .ref z1, .ref z2, .ref z3, .ref z4, .int 0, .int 0, .int 0])), (h1, .inl (k0, 4, .inr (.inr (.inr (.inr (va_up (va_up (va_up (va_up (fun _ => none) 0 (some h2)) 1 (some h3)) 2 (some h4)) 3 (some h5))))))), (h2, .inr (6, [.ref z5, .int 0])), (h3, .inr (6, [.ref z6, .int 0])), (h4, .inr (6, [.ref z7, .int 0])), (h5, .inr (6, [.ref z8, .int 0])), (h6, .inr (8, [.long 0, .null]))] s.heap := hP
  have hl := lv_entry ([.ref h0, .int i0, .ref h6]) (n := 4) (Nat.le_of_ble_eq_true rfl)
  rw [lg_entry_eq]
  generalize (lg_sl ([.ref h0, .int i0, .ref h6]) ++ List.replicate (4 - (lg_sl ([.ref h0, .int i0, .ref h6])).length) Slot.unset).toArray = ls at hl ⊢
  have hl : lv_has ls 4 [(0, .ref h0), (1, .int i0), (2, .ref h6)] := hl
  refine lv_aload_n hx hb dL_text_0 rfl (lv_at hl 2 rfl) ?_
  refine lv_aload_n hx hb dL_text_1 rfl (lv_at hl 0 rfl) ?_
  refine lv_iload_n hx hb dL_text_2 rfl (lv_at hl 1 rfl) ?_
  have hPc := hP.sub (ws' := [(h0, .inr (7, [.ref h1, .ref z0, .ref z1, .ref z2, .ref z3, .ref z4, .int 0, .int 0, .int 0])), (h1, .inl (k0, 4, .inr (.inr (.inr (.inr (va_up (va_up (va_up (va_up (fun _ => none) 0 (some h2)) 1 (some h3)) 2 (some h4)) 3 (some h5))))))), (h2, .inr (6, [.ref z5, .int 0])), (h3, .inr (6, [.ref z6, .int 0])), (h4, .inr (6, [.ref z7, .int 0])), (h5, .inr (6, [.ref z8, .int 0]))]) [0, 1, 2, 3, 4, 5] rfl
  have hDc := hD.sub (ws' := [(h0, .inr (7, [.ref h1, .ref z0, .ref z1, .ref z2, .ref z3, .ref z4, .int 0, .int 0, .int 0])), (h1, .inl (k0, 4, .inr (.inr (.inr (.inr (va_up (va_up (va_up (va_up (fun _ => none) 0 (some h2)) 1 (some h3)) 2 (some h4)) 3 (some h5))))))), (h2, .inr (6, [.ref z5, .int 0])), (h3, .inr (6, [.ref z6, .int 0])), (h4, .inr (6, [.ref z7, .int 0])), (h5, .inr (6, [.ref z8, .int 0]))]) [0, 1, 2, 3, 4, 5] (by decide) rfl
  have hKc := hK.sub (tys' := [(k0, .object "Rewriterope$Text")]) [0] rfl
  have hFc := va_free (wc := [(h0, .inr (7, [.ref h1, .ref z0, .ref z1, .ref z2, .ref z3, .ref z4, .int 0, .int 0, .int 0])), (h1, .inl (k0, 4, .inr (.inr (.inr (.inr (va_up (va_up (va_up (va_up (fun _ => none) 0 (some h2)) 1 (some h3)) 2 (some h4)) 3 (some h5))))))), (h2, .inr (6, [.ref z5, .int 0])), (h3, .inr (6, [.ref z6, .int 0])), (h4, .inr (6, [.ref z7, .int 0])), (h5, .inr (6, [.ref z8, .int 0]))]) hD hS hA [0, 1, 2, 3, 4, 5] rfl
  refine va_callr (va_runV (As := [.int i0]) (rest := [.ref h6]) ⟨hx, hb, hml, hown, hts⟩ (kx_X3_text_s0 l dC dI ge5 gea gv5 gva gde gic gi0 h0 h1 h2 h3 h4 h5 z0 z1 z2 z3 z4 z5 z6 z7 z8 k0 s.heap.size i0 i0_l i0_u) (cwV 1 hts gL_text_X3_text rfl rfl rfl (by decide +kernel) ⟨Nat.le_of_ble_eq_true rfl, Nat.le_of_ble_eq_true rfl⟩) ⟨fun a U g mk q => by obtain ⟨q0, q1, qP, qK, qD, qG⟩ := q; exact ⟨q0, q1, qP, va_K.moved (u := U) (U := U.calling g mk a) (Vm.Alike.refl U.vm) qK, qD, gv.fb qG⟩, va_recv hKc hPc (ci := 7) (q0 := 0) rfl rfl, fun U hU hW => ⟨rfl, by rw [hU], by rw [hU]; exact hPc, va_K.moved hW.alike hKc, hDc.weaken (fun _ _ _ _ => trivial), gv.pass hW hU hS hFc hG⟩⟩ rfl rfl hl.1 rfl (lv_room (Nat.le_of_ble_eq_true rfl)) dL_text_3 ⟨Nat.le_of_ble_eq_true rfl, Nat.le_of_ble_eq_true rfl⟩) hS (fun q _ h => hFc q h) hFc (fun u ra t H1 locs ht hvm hw hB hz1 hk1 hS => ?_)
  obtain ⟨q1, q2, q3, q4, cq5, cq6, hra, hP1, hK1, hD1⟩ := hB
  rw [hra]
  rw [ht] at hP1
  have hK1 := va_K.moved hvm.symm hK1
  obtain ⟨hP, hD⟩ := va_join (wr := [(h6, .inr (8, [.long 0, .null]))]) (w1 := [(h0, .inr (7, [.ref h1, .ref z0, .ref z1, .ref z2, .ref z3, .ref z4, .int 0, .int 0, .int 0])), (h1, .inl (k0, 4, .inr (.inr (.inr (.inr (va_up (va_up (va_up (va_up (fun _ => none) 0 (some h2)) 1 (some h3)) 2 (some h4)) 3 (some h5))))))), (h2, .inr (6, [.ref z5, .int 0])), (h3, .inr (6, [.ref z6, .int 0])), (h4, .inr (6, [.ref z7, .int 0])), (h5, .inr (6, [.ref z8, .int 0])), (q1, .inr (1, [.ref q2, .int 0, .int 0, .int 0])), (q2, .inl (cq5, 16, .inl (fun _ => 0))), (q3, .inr (0, [.ref q4, .int 0, .int 0, .int 0])), (q4, .inl (cq6, 0, .inl (fun _ => 0)))]) hP hD [0, 1, 2, 3, 4, 5] [6] rfl rfl (by decide) (by decide) hk1 hFc hP1 hD1
  have hK := hK.app (hK1.sub (tys' := [(cq5, .byte), (cq6, .byte)]) [1, 2] rfl)
  generalize H1 = H at hP hS ⊢
  have hK : va_K (dC, dI) vwCl [(k0, .object "Rewriterope$Text"), (cq5, .byte), (cq6, .byte)] s := hK
  have hP : va_P (dC, dI) vwCl [(h6, .inr (8, [.long 0, .null])), (h0, .inr (7, [.ref h1, .ref z0, .ref z1, .ref z2, .ref z3, .ref z4, .int 0, .int 0, .int 0])), (h1, .inl (k0, 4, .inr (.inr (.inr (.inr (va_up (va_up (va_up (va_up (fun _ => none) 0 (some h2)) 1 (some h3)) 2 (some h4)) 3 (some h5))))))), (h2, .inr (6, [.ref z5, .int 0])), (h3, .inr (6, [.ref z6, .int 0])), (h4, .inr (6, [.ref z7, .int 0])), (h5, .inr (6, [.ref z8, .int 0])), (q1, .inr (1, [.ref q2, .int 0, .int 0, .int 0])), (q2, .inl (cq5, 16, .inl (fun _ => 0))), (q3, .inr (0, [.ref q4, .int 0, .int 0, .int 0])), (q4, .inl (cq6, 0, .inl (fun _ => 0)))] H := hP
  have hD : va_D A [(h6, .inr (8, [.long 0, .null])), (h0, .inr (7, [.ref h1, .ref z0, .ref z1, .ref z2, .ref z3, .ref z4, .int 0, .int 0, .int 0])), (h1, .inl (k0, 4, .inr (.inr (.inr (.inr (va_up (va_up (va_up (va_up (fun _ => none) 0 (some h2)) 1 (some h3)) 2 (some h4)) 3 (some h5))))))), (h2, .inr (6, [.ref z5, .int 0])), (h3, .inr (6, [.ref z6, .int 0])), (h4, .inr (6, [.ref z7, .int 0])), (h5, .inr (6, [.ref z8, .int 0])), (q1, .inr (1, [.ref q2, .int 0, .int 0, .int 0])), (q2, .inl (cq5, 16, .inl (fun _ => 0))), (q3, .inr (0, [.ref q4, .int 0, .int 0, .int 0])), (q4, .inl (cq6, 0, .inl (fun _ => 0)))] := hD
  refine W.widen (k := 4) (n := 24) (by omega) (by omega) ?_
  refine va_putN (D := (dC, dI)) (ci := 8) (v := .ref q3) (ty := .object "java/lang/String") (C := RX4) (T := TX4) (N := 2) hx hb hts (by decide +kernel) tyX4 tyX4_ok nmX4 hown hK hP hD hS 0 rfl rfl 1 (by decide) (va_Nw.use rfl g_nf_RL_47) (fun _ h9 => h9) rfl (by decide +kernel) rfl rfl (Nat.le_of_ble_eq_true rfl) dL_text_6 (fun H locs hP hD hS => ?_)
  have hP : va_P (dC, dI) vwCl [(h6, .inr (8, [.long 0, .ref q3])), (h0, .inr (7, [.ref h1, .ref z0, .ref z1, .ref z2, .ref z3, .ref z4, .int 0, .int 0, .int 0])), (h1, .inl (k0, 4, .inr (.inr (.inr (.inr (va_up (va_up (va_up (va_up (fun _ => none) 0 (some h2)) 1 (some h3)) 2 (some h4)) 3 (some h5))))))), (h2, .inr (6, [.ref z5, .int 0])), (h3, .inr (6, [.ref z6, .int 0])), (h4, .inr (6, [.ref z7, .int 0])), (h5, .inr (6, [.ref z8, .int 0])), (q1, .inr (1, [.ref q2, .int 0, .int 0, .int 0])), (q2, .inl (cq5, 16, .inl (fun _ => 0))), (q3, .inr (0, [.ref q4, .int 0, .int 0, .int 0])), (q4, .inl (cq6, 0, .inl (fun _ => 0)))] H := hP
  have hD : va_D A [(h6, .inr (8, [.long 0, .ref q3])), (h0, .inr (7, [.ref h1, .ref z0, .ref z1, .ref z2, .ref z3, .ref z4, .int 0, .int 0, .int 0])), (h1, .inl (k0, 4, .inr (.inr (.inr (.inr (va_up (va_up (va_up (va_up (fun _ => none) 0 (some h2)) 1 (some h3)) 2 (some h4)) 3 (some h5))))))), (h2, .inr (6, [.ref z5, .int 0])), (h3, .inr (6, [.ref z6, .int 0])), (h4, .inr (6, [.ref z7, .int 0])), (h5, .inr (6, [.ref z8, .int 0])), (q1, .inr (1, [.ref q2, .int 0, .int 0, .int 0])), (q2, .inl (cq5, 16, .inl (fun _ => 0))), (q3, .inr (0, [.ref q4, .int 0, .int 0, .int 0])), (q4, .inl (cq6, 0, .inl (fun _ => 0)))] := hD
  refine lv_goto (tgt := 15) hx hb dL_text_9 (by decide) ?_
  refine lv_iconst (v := 0) hx hb dL_text_15 (by decide) ?_
  have hP := hP.sub (ws' := [(h0, .inr (7, [.ref h1, .ref z0, .ref z1, .ref z2, .ref z3, .ref z4, .int 0, .int 0, .int 0])), (h1, .inl (k0, 4, .inr (.inr (.inr (.inr (va_up (va_up (va_up (va_up (fun _ => none) 0 (some h2)) 1 (some h3)) 2 (some h4)) 3 (some h5))))))), (h2, .inr (6, [.ref z5, .int 0])), (h3, .inr (6, [.ref z6, .int 0])), (h4, .inr (6, [.ref z7, .int 0])), (h5, .inr (6, [.ref z8, .int 0])), (h6, .inr (8, [.long 0, .ref q3])), (q1, .inr (1, [.ref q2, .int 0, .int 0, .int 0])), (q2, .inl (cq5, 16, .inl (fun _ => 0))), (q3, .inr (0, [.ref q4, .int 0, .int 0, .int 0])), (q4, .inl (cq6, 0, .inl (fun _ => 0)))]) [1, 2, 3, 4, 5, 6, 0, 7, 8, 9, 10] rfl
  have hD := hD.sub (ws' := [(h0, .inr (7, [.ref h1, .ref z0, .ref z1, .ref z2, .ref z3, .ref z4, .int 0, .int 0, .int 0])), (h1, .inl (k0, 4, .inr (.inr (.inr (.inr (va_up (va_up (va_up (va_up (fun _ => none) 0 (some h2)) 1 (some h3)) 2 (some h4)) 3 (some h5))))))), (h2, .inr (6, [.ref z5, .int 0])), (h3, .inr (6, [.ref z6, .int 0])), (h4, .inr (6, [.ref z7, .int 0])), (h5, .inr (6, [.ref z8, .int 0])), (h6, .inr (8, [.long 0, .ref q3])), (q1, .inr (1, [.ref q2, .int 0, .int 0, .int 0])), (q2, .inl (cq5, 16, .inl (fun _ => 0))), (q3, .inr (0, [.ref q4, .int 0, .int 0, .int 0])), (q4, .inl (cq6, 0, .inl (fun _ => 0)))]) [1, 2, 3, 4, 5, 6, 0, 7, 8, 9, 10] (by decide) rfl
  exact W.iret (v := 0) hx hb hr (fun t ht hW => ⟨⟨0, (), rfl, rfl, q1, q2, q3, q4, cq5, cq6, by rw [ht]; exact hP, va_K.moved hW.alike hK, hD⟩, hS.F ht⟩) hS.2.2 dL_text_16
set_option maxHeartbeats 4000000 in
set_option maxRecDepth 100000 in
theorem kx_X5_text_0 (l : Launch) (dC : Nat → ClassId) (dI : Nat → Nat → Nat) (ge5 gea gv5 gva gde gic gi0 : Nat) (h0 : Nat) (h1 : Nat) (z0 : Nat) (z1 : Nat) (k0 : ClassId) (sz : Nat) (i0 : Int32) (i0_l : (0 : Int) ≤ i0.toInt) (i0_u : i0.toInt ≤ (3 : Int)) : Met l yX5_text wsX5_text ({ frames := 2, cells := 0, slots := 0, locals := 42 }) (va_Pc [.ref h0, .int i0] (fun U => U.heap.size = sz ∧ va_P (dC, dI) vwCl [(h0, .inr (9, [.int 0, .ref h1, .ref z0, .ref z1, .int 0, .int 0, .int 0])), (h1, .inl (k0, 4, .inr (.inr (.inr (.inr (va_up (va_up (va_up (va_up (fun _ => none) 0 (some ge5)) 1 (some ge5)) 2 (some ge5)) 3 (some ge5)))))))] U.heap ∧ va_K (dC, dI) vwCl [(k0, .object "java/lang/String")] U ∧ va_D (fun _ => True) [(h0, .inr (9, [.int 0, .ref h1, .ref z0, .ref z1, .int 0, .int 0, .int 0])), (h1, .inl (k0, 4, .inr (.inr (.inr (.inr (va_up (va_up (va_up (va_up (fun _ => none) 0 (some ge5)) 1 (some ge5)) 2 (some ge5)) 3 (some ge5)))))))] ∧ gv ge5 gea gv5 gva gde gic gi0 (va_A [(h0, .inr (9, [.int 0, .ref h1, .ref z0, .ref z1, .int 0, .int 0, .int 0])), (h1, .inl (k0, 4, .inr (.inr (.inr (.inr (va_up (va_up (va_up (va_up (fun _ => none) 0 (some ge5)) 1 (some ge5)) 2 (some ge5)) 3 (some ge5)))))))] sz) U U.heap)) (va_Qr (fun _ : Unit => True) (fun (_ : Unit) (ra : Nat) (t : State) => ra = ge5 ∧ va_P (dC, dI) vwCl [(h0, .inr (9, [.int 0, .ref h1, .ref z0, .ref z1, .int 0, .int 0, .int 0]))] t.heap ∧ va_K (dC, dI) vwCl [(k0, .object "java/lang/String")] t ∧ va_D (va_A [(h0, .inr (9, [.int 0, .ref h1, .ref z0, .ref z1, .int 0, .int 0, .int 0])), (h1, .inl (k0, 4, .inr (.inr (.inr (.inr (va_up (va_up (va_up (va_up (fun _ => none) 0 (some ge5)) 1 (some ge5)) 2 (some ge5)) 3 (some ge5)))))))] sz) [(h0, .inr (9, [.int 0, .ref h1, .ref z0, .ref z1, .int 0, .int 0, .int 0]))]) (va_A [(h0, .inr (9, [.int 0, .ref h1, .ref z0, .ref z1, .int 0, .int 0, .int 0])), (h1, .inl (k0, 4, .inr (.inr (.inr (.inr (va_up (va_up (va_up (va_up (fun _ => none) 0 (some ge5)) 1 (some ge5)) 2 (some ge5)) 3 (some ge5)))))))] sz)) 0 0 (va_A [(h0, .inr (9, [.int 0, .ref h1, .ref z0, .ref z1, .int 0, .int 0, .int 0])), (h1, .inl (k0, 4, .inr (.inr (.inr (.inr (va_up (va_up (va_up (va_up (fun _ => none) 0 (some ge5)) 1 (some ge5)) 2 (some ge5)) 3 (some ge5)))))))] sz) := by
  refine Met.ofW (cc := cX5_text) (maxL := 2) (ret := (some (.object "java/lang/String"))) (by decide) rfl ?_
  intro p e s m args below meth c s₁ B hml hv
  obtain ⟨rfl, hsz, hP, hK, hD0, hG⟩ := hv
  have hx := B.exec
  have hb := B.bytes
  have hr := B.returns
  have hts := atoms_spec (ws := wsX5_text) B.pre
  have hown : s.vm.findClass RX5 = some m.cls := findClass_of_methodNamed B.named
  have hlocks := B.notSynchronized
  subst hsz
  have hD := hD0.self (sz := s.heap.size)
  generalize hAe : va_A [(h0, .inr (9, [.int 0, .ref h1, .ref z0, .ref z1, .int 0, .int 0, .int 0])), (h1, .inl (k0, 4, .inr (.inr (.inr (.inr (va_up (va_up (va_up (va_up (fun _ => none) 0 (some ge5)) 1 (some ge5)) 2 (some ge5)) 3 (some ge5)))))))] s.heap.size = A at hD hG ⊢
  obtain ⟨⟨g_AO_Text, g_AO_String, g_AO_Object, g_nm_RX1_20, g_nm_RX0_17, g_nm_RX3_31, g_nm_RX2_44, g_nm_RL_121, g_nf_RL_13, g_nf_RL_47, g_ca_IO, g_ca_IA, g_ca_IS, g_ca_IntObj, g_ca_StrObj, g_de_RT, g_de_EX, g_de_TH, g_nc_IA_IO, g_nc_IS_IO, g_nc_IS_IA⟩, ⟨g_s3, g_s5, g_sa, g_x278, g_x280, g_x282, g_x284, g_x286, g_x180, g_x238, g_x250⟩, ⟨g_o5, g_c5, g_v5, g_t5, g_oa, g_ca, g_va, g_ta, g_zc, g_zd, g_td, g_zf, g_zU, g_zN, g_zh, g_zk, g_tk, g_oi, g_vi⟩⟩ := id hG
  have hA : ∀ q : Nat, s.heap.size ≤ q → A q := fun q h => by rw [← hAe]; exact Or.inr h
  have hS : va_S A s.heap s.heap [] := va_S.rf
  have hP : va_P (dC, dI) vwCl [(h0, .inr (9, [.int 0, .ref h1, .ref z0, .ref z1, .int 0, .int 0, .int 0])), (h1, .inl (k0, 4, .inr (.inr (.inr (.inr (va_up (va_up (va_up (va_up (fun _ => none) 0 (some ge5)) 1 (some ge5)) 2 (some ge5)) 3 (some ge5)))))))] s.heap := hP
  have hl := lv_entry ([.ref h0, .int i0]) (n := 2) (Nat.le_of_ble_eq_true rfl)
  rw [lg_entry_eq]
  generalize (lg_sl ([.ref h0, .int i0]) ++ List.replicate (2 - (lg_sl ([.ref h0, .int i0])).length) Slot.unset).toArray = ls at hl ⊢
  have hl : lv_has ls 2 [(0, .ref h0), (1, .int i0)] := hl
  refine lv_aload_n hx hb dX5_text_0 rfl (lv_at hl 0 rfl) ?_
  refine lv_iload_n hx hb dX5_text_1 rfl (lv_at hl 1 rfl) ?_
  have hPc := hP.sub (ws' := []) [] rfl
  have hDc := hD.sub (ws' := []) [] (by decide) rfl
  have hKc := hK.sub (tys' := []) [] rfl
  have hFc := va_free (wc := []) hD hS hA [] rfl
  refine va_calli (va_runS (As := [.int i0]) (rest := [.ref h0]) ⟨hx, hb, hml, hown, hts⟩ (kx_X5_isNo_0 l dC dI s.heap.size i0 i0_l i0_u) (cwS 1 hts gX5_text_X5_isNo rfl rfl rfl (by decide +kernel) ⟨Nat.le_of_ble_eq_true rfl, Nat.le_of_ble_eq_true rfl⟩) ⟨fun a U g mk q => by obtain ⟨q0, q1, qP, qK, qD⟩ := q; exact ⟨q0, q1, qP, va_K.moved (u := U) (U := U.calling g mk a) (Vm.Alike.refl U.vm) qK, qD⟩, fun U hU hW => ⟨rfl, by rw [hU], by rw [hU]; exact hPc, va_K.moved hW.alike hKc, hDc.weaken (fun _ _ _ _ => trivial)⟩⟩ rfl rfl hl.1 rfl (lv_room (Nat.le_of_ble_eq_true rfl)) dX5_text_2 ⟨Nat.le_of_ble_eq_true rfl, Nat.le_of_ble_eq_true rfl⟩) hS (fun q _ h => hFc q h) hFc (fun r9 u t H1 locs ht hvm hw hB hz1 hk1 hS => ?_)
  obtain rfl := hw
  obtain ⟨hP1, hK1, hD1⟩ := hB
  rw [ht] at hP1
  have hK1 := va_K.moved hvm.symm hK1
  obtain ⟨hP, hD⟩ := va_join (wr := [(h0, .inr (9, [.int 0, .ref h1, .ref z0, .ref z1, .int 0, .int 0, .int 0])), (h1, .inl (k0, 4, .inr (.inr (.inr (.inr (va_up (va_up (va_up (va_up (fun _ => none) 0 (some ge5)) 1 (some ge5)) 2 (some ge5)) 3 (some ge5)))))))]) (w1 := []) hP hD [] [0, 1] rfl rfl (by decide) (by decide) hk1 hFc hP1 hD1
  generalize H1 = H at hP hS ⊢
  have hP : va_P (dC, dI) vwCl [(h0, .inr (9, [.int 0, .ref h1, .ref z0, .ref z1, .int 0, .int 0, .int 0])), (h1, .inl (k0, 4, .inr (.inr (.inr (.inr (va_up (va_up (va_up (va_up (fun _ => none) 0 (some ge5)) 1 (some ge5)) 2 (some ge5)) 3 (some ge5)))))))] H := hP
  have hD : va_D A [(h0, .inr (9, [.int 0, .ref h1, .ref z0, .ref z1, .int 0, .int 0, .int 0])), (h1, .inl (k0, 4, .inr (.inr (.inr (.inr (va_up (va_up (va_up (va_up (fun _ => none) 0 (some ge5)) 1 (some ge5)) 2 (some ge5)) 3 (some ge5)))))))] := hD
  refine lv_iconst (v := 0) hx hb dX5_text_5 (by decide) ?_
  refine lv_iconst (v := 0) hx hb dX5_text_6 (by decide) ?_
  have hPc := hP.sub (ws' := [(h0, .inr (9, [.int 0, .ref h1, .ref z0, .ref z1, .int 0, .int 0, .int 0]))]) [0] rfl
  have hDc := hD.sub (ws' := [(h0, .inr (9, [.int 0, .ref h1, .ref z0, .ref z1, .int 0, .int 0, .int 0]))]) [0] (by decide) rfl
  have hKc := hK.sub (tys' := []) [] rfl
  have hFc := va_free (wc := [(h0, .inr (9, [.int 0, .ref h1, .ref z0, .ref z1, .int 0, .int 0, .int 0]))]) hD hS hA [0] rfl
  refine va_calli (va_runV (As := [.int 0, .int 0, .int 0]) (rest := []) ⟨hx, hb, hml, hown, hts⟩ (kx_X5_fails_0 l dC dI h0 h1 z0 z1 H.size) (cwV 3 hts gX5_text_X5_fails rfl rfl rfl (by decide +kernel) ⟨Nat.le_of_ble_eq_true rfl, Nat.le_of_ble_eq_true rfl⟩) ⟨fun a U g mk q => by obtain ⟨q0, q1, qP, qK, qD⟩ := q; exact ⟨q0, q1, qP, va_K.moved (u := U) (U := U.calling g mk a) (Vm.Alike.refl U.vm) qK, qD⟩, va_recv hKc hPc (ci := 9) (q0 := 0) rfl rfl, fun U hU hW => ⟨rfl, by rw [hU], by rw [hU]; exact hPc, va_K.moved hW.alike hKc, hDc.weaken (fun _ _ _ _ => trivial)⟩⟩ rfl rfl hl.1 rfl (lv_room (Nat.le_of_ble_eq_true rfl)) dX5_text_7 ⟨Nat.le_of_ble_eq_true rfl, Nat.le_of_ble_eq_true rfl⟩) hS (fun q _ h => hFc q h) hFc (fun r9 u t H1 locs ht hvm hw hB hz1 hk1 hS => ?_)
  obtain rfl := hw
  obtain ⟨hP1, hK1, hD1⟩ := hB
  rw [ht] at hP1
  have hK1 := va_K.moved hvm.symm hK1
  obtain ⟨hP, hD⟩ := va_join (wr := [(h1, .inl (k0, 4, .inr (.inr (.inr (.inr (va_up (va_up (va_up (va_up (fun _ => none) 0 (some ge5)) 1 (some ge5)) 2 (some ge5)) 3 (some ge5)))))))]) (w1 := [(h0, .inr (9, [.int 0, .ref h1, .ref z0, .ref z1, .int 0, .int 0, .int 0]))]) hP hD [0] [1] rfl rfl (by decide) (by decide) hk1 hFc hP1 hD1
  generalize H1 = H at hP hS ⊢
  have hP : va_P (dC, dI) vwCl [(h1, .inl (k0, 4, .inr (.inr (.inr (.inr (va_up (va_up (va_up (va_up (fun _ => none) 0 (some ge5)) 1 (some ge5)) 2 (some ge5)) 3 (some ge5))))))), (h0, .inr (9, [.int 0, .ref h1, .ref z0, .ref z1, .int 0, .int 0, .int 0]))] H := hP
  have hD : va_D A [(h1, .inl (k0, 4, .inr (.inr (.inr (.inr (va_up (va_up (va_up (va_up (fun _ => none) 0 (some ge5)) 1 (some ge5)) 2 (some ge5)) 3 (some ge5))))))), (h0, .inr (9, [.int 0, .ref h1, .ref z0, .ref z1, .int 0, .int 0, .int 0]))] := hD
  refine lv_if_eq (tgt := 18) hx hb dX5_text_10 (by decide) (fun _ => ?_) (fun c9 => absurd (by decide) c9)
  refine lv_aload_n hx hb dX5_text_18 rfl (lv_at hl 0 rfl) ?_
  refine va_get (D := (dC, dI)) (ci := 9) (v := .ref h1) (C := RX5) (T := TX5) (N := 7) hx hb hts (by decide +kernel) hown hK hP 1 rfl rfl 1 (by decide) (hts (.fieldLink RX5 11 "RewriteropeModel" "ropes" "[Ljava/lang/String;") (by decide +kernel)) (fun _ h9 => h9) rfl dX5_text_19 ?_
  refine lv_iload_n hx hb dX5_text_22 rfl (lv_at hl 1 rfl) ?_
  refine va_aldq (D := (dC, dI)) hx hb hK hP 0 0 rfl rfl (kz_in4 i0_l i0_u) dX5_text_23 ?_
  rw [show (va_up (va_up (va_up (va_up (fun _ => none) 0 (some ge5)) 1 (some ge5)) 2 (some ge5)) 3 (some ge5)) i0.toNatClampNeg = some ge5 from (kz_ix4 (P := fun z => (va_up (va_up (va_up (va_up (fun _ => none) 0 (some ge5)) 1 (some ge5)) 2 (some ge5)) 3 (some ge5)) z.toNatClampNeg = some ge5) rfl rfl rfl rfl i0_l i0_u)]
  refine W.eq (g2 := F0 m 24 ls [.ref ge5]) rfl ?_
  have hP := hP.sub (ws' := [(h0, .inr (9, [.int 0, .ref h1, .ref z0, .ref z1, .int 0, .int 0, .int 0])), (h1, .inl (k0, 4, .inr (.inr (.inr (.inr (va_up (va_up (va_up (va_up (fun _ => none) 0 (some ge5)) 1 (some ge5)) 2 (some ge5)) 3 (some ge5)))))))]) [1, 0] rfl
  have hD := hD.sub (ws' := [(h0, .inr (9, [.int 0, .ref h1, .ref z0, .ref z1, .int 0, .int 0, .int 0])), (h1, .inl (k0, 4, .inr (.inr (.inr (.inr (va_up (va_up (va_up (va_up (fun _ => none) 0 (some ge5)) 1 (some ge5)) 2 (some ge5)) 3 (some ge5)))))))]) [1, 0] (by decide) rfl
  have hP := hP.sub (ws' := [(h0, .inr (9, [.int 0, .ref h1, .ref z0, .ref z1, .int 0, .int 0, .int 0]))]) [0] rfl
  have hD := hD.sub (ws' := [(h0, .inr (9, [.int 0, .ref h1, .ref z0, .ref z1, .int 0, .int 0, .int 0]))]) [0] (by decide) rfl
  exact W.aret (v := .ref ge5) hx hb hr (Or.inl ⟨_, rfl⟩) (Or.inr ⟨_, rfl⟩) (fun t ht hW => ⟨⟨(), ge5, rfl, trivial, rfl, by rw [ht]; exact hP, va_K.moved hW.alike hK, hD⟩, hS.F ht⟩) hS.2.2 dX5_text_24
set_option maxHeartbeats 4000000 in
set_option maxRecDepth 100000 in
theorem kx_J1_equals_b5fdf_0 (l : Launch) (dC : Nat → ClassId) (dI : Nat → Nat → Nat) (ge5 gea gv5 gva gde gic gi0 : Nat) (h0 : Nat) (k0 : ClassId) (sz : Nat) : Met l yJ1_equals_b5fdf wsJ1_equals_b5fdf ({ frames := 0, cells := 0, slots := 0, locals := 0 }) (va_Pc [.ref h0, .ref gv5] (fun U => U.heap.size = sz ∧ va_P (dC, dI) vwCl [(h0, .inl (k0, 0, .inl (fun _ => 0)))] U.heap ∧ va_K (dC, dI) vwCl [(k0, .byte)] U ∧ va_D (fun _ => True) [(h0, .inl (k0, 0, .inl (fun _ => 0)))] ∧ gv ge5 gea gv5 gva gde gic gi0 (va_A [(h0, .inl (k0, 0, .inl (fun _ => 0)))] sz) U U.heap)) (va_Qi (fun (r : Int32) (_ : Unit) => r = 1) (fun (_ : Unit) (t : State) => va_P (dC, dI) vwCl [(h0, .inl (k0, 0, .inl (fun _ => 0)))] t.heap ∧ va_K (dC, dI) vwCl [(k0, .byte)] t ∧ va_D (va_A [(h0, .inl (k0, 0, .inl (fun _ => 0)))] sz) [(h0, .inl (k0, 0, .inl (fun _ => 0)))]) (va_A [(h0, .inl (k0, 0, .inl (fun _ => 0)))] sz)) 0 0 (va_A [(h0, .inl (k0, 0, .inl (fun _ => 0)))] sz) := by
  refine Met.ofW (cc := cJ1_equals_b5fdf) (maxL := 3) (ret := (some .boolean)) (by decide) rfl ?_
  intro p e s m args below meth c s₁ B hml hv
  obtain ⟨rfl, hsz, hP, hK, hD0, hG⟩ := hv
  have hx := B.exec
  have hb := B.bytes
  have hr := B.returns
  have hts := atoms_spec (ws := wsJ1_equals_b5fdf) B.pre
  have hown : s.vm.findClass RJ1 = some m.cls := findClass_of_methodNamed B.named
  have hlocks := B.notSynchronized
  subst hsz
  have hD := hD0.self (sz := s.heap.size)
  generalize hAe : va_A [(h0, .inl (k0, 0, .inl (fun _ => 0)))] s.heap.size = A at hD hG ⊢
  obtain ⟨⟨g_AO_Text, g_AO_String, g_AO_Object, g_nm_RX1_20, g_nm_RX0_17, g_nm_RX3_31, g_nm_RX2_44, g_nm_RL_121, g_nf_RL_13, g_nf_RL_47, g_ca_IO, g_ca_IA, g_ca_IS, g_ca_IntObj, g_ca_StrObj, g_de_RT, g_de_EX, g_de_TH, g_nc_IA_IO, g_nc_IS_IO, g_nc_IS_IA⟩, ⟨g_s3, g_s5, g_sa, g_x278, g_x280, g_x282, g_x284, g_x286, g_x180, g_x238, g_x250⟩, ⟨g_o5, g_c5, g_v5, g_t5, g_oa, g_ca, g_va, g_ta, g_zc, g_zd, g_td, g_zf, g_zU, g_zN, g_zh, g_zk, g_tk, g_oi, g_vi⟩⟩ := id hG
  have hA : ∀ q : Nat, s.heap.size ≤ q → A q := fun q h => by rw [← hAe]; exact Or.inr h
  have hS : va_S A s.heap s.heap [] := va_S.rf
  have hP : va_P (dC, dI) vwCl [(h0, .inl (k0, 0, .inl (fun _ => 0)))] s.heap := hP
  have hl := lv_entry ([.ref h0, .ref gv5]) (n := 3) (Nat.le_of_ble_eq_true rfl)
  rw [lg_entry_eq]
  generalize (lg_sl ([.ref h0, .ref gv5]) ++ List.replicate (3 - (lg_sl ([.ref h0, .ref gv5])).length) Slot.unset).toArray = ls at hl ⊢
  have hl : lv_has ls 3 [(0, .ref h0), (1, .ref gv5)] := hl
  refine lv_aload_n hx hb dJ1_equals_b5fdf_0 rfl (lv_at hl 0 rfl) ?_
  refine va_alen (D := (dC, dI)) (v := 0) hx hb hK hP 0 0 rfl rfl (by decide) dJ1_equals_b5fdf_1 ?_
  refine lv_aload_n hx hb dJ1_equals_b5fdf_2 rfl (lv_at hl 1 rfl) ?_
  refine va_tlen (v := 0) hx hb g_t5 hS (by decide) dJ1_equals_b5fdf_3 ?_
  refine lv_icmp_ne (tgt := 34) hx hb dJ1_equals_b5fdf_4 (by decide) (fun c9 => absurd (by decide) c9) (fun _ => ?_)
  refine lv_iconst (v := 0) hx hb dJ1_equals_b5fdf_7 (by decide) ?_
  refine lv_istore_n (lv' := [(2, .int 0), (0, .ref h0), (1, .ref gv5)]) hx hb dJ1_equals_b5fdf_8 rfl hl (by decide) rfl (fun ls hl => ?_)
  refine lv_iload_n hx hb dJ1_equals_b5fdf_9 rfl (lv_at hl 0 rfl) ?_
  refine lv_aload_n hx hb dJ1_equals_b5fdf_10 rfl (lv_at hl 1 rfl) ?_
  refine va_alen (D := (dC, dI)) (v := 0) hx hb hK hP 0 0 rfl rfl (by decide) dJ1_equals_b5fdf_11 ?_
  refine lv_icmp_ge (tgt := 32) hx hb dJ1_equals_b5fdf_12 (by decide) (fun _ => ?_) (fun c9 => absurd (by decide) c9)
  refine lv_iconst (v := 1) hx hb dJ1_equals_b5fdf_32 (by decide) ?_
  exact W.zret (v := 1) hx hb hr (by decide) (fun t ht hW => ⟨⟨1, (), rfl, rfl, by rw [ht]; exact hP, va_K.moved hW.alike hK, hD⟩, hS.F ht⟩) hS.2.2 dJ1_equals_b5fdf_33
set_option maxHeartbeats 4000000 in
set_option maxRecDepth 100000 in
theorem kx_J0_equals_9ea2d_0 (l : Launch) (dC : Nat → ClassId) (dI : Nat → Nat → Nat) (ge5 gea gv5 gva gde gic gi0 : Nat) (h0 : Nat) (h1 : Nat) (k0 : ClassId) (sz : Nat) : Met l yJ0_equals_9ea2d wsJ0_equals_9ea2d ({ frames := 1, cells := 0, slots := 0, locals := 22 }) (va_Pc [.ref h0, .ref ge5] (fun U => U.heap.size = sz ∧ va_P (dC, dI) vwCl [(h0, .inr (0, [.ref h1, .int 0, .int 0, .int 0])), (h1, .inl (k0, 0, .inl (fun _ => 0)))] U.heap ∧ va_K (dC, dI) vwCl [(k0, .byte)] U ∧ va_D (fun _ => True) [(h0, .inr (0, [.ref h1, .int 0, .int 0, .int 0])), (h1, .inl (k0, 0, .inl (fun _ => 0)))] ∧ gv ge5 gea gv5 gva gde gic gi0 (va_A [(h0, .inr (0, [.ref h1, .int 0, .int 0, .int 0])), (h1, .inl (k0, 0, .inl (fun _ => 0)))] sz) U U.heap)) (va_Qi (fun (r : Int32) (_ : Unit) => r = 1) (fun (_ : Unit) (t : State) => va_P (dC, dI) vwCl [(h0, .inr (0, [.ref h1, .int 0, .int 0, .int 0])), (h1, .inl (k0, 0, .inl (fun _ => 0)))] t.heap ∧ va_K (dC, dI) vwCl [(k0, .byte)] t ∧ va_D (va_A [(h0, .inr (0, [.ref h1, .int 0, .int 0, .int 0])), (h1, .inl (k0, 0, .inl (fun _ => 0)))] sz) [(h0, .inr (0, [.ref h1, .int 0, .int 0, .int 0])), (h1, .inl (k0, 0, .inl (fun _ => 0)))]) (va_A [(h0, .inr (0, [.ref h1, .int 0, .int 0, .int 0])), (h1, .inl (k0, 0, .inl (fun _ => 0)))] sz)) 0 0 (va_A [(h0, .inr (0, [.ref h1, .int 0, .int 0, .int 0])), (h1, .inl (k0, 0, .inl (fun _ => 0)))] sz) := by
  refine Met.ofW (cc := cJ0_equals_9ea2d) (maxL := 3) (ret := (some .boolean)) (by decide) rfl ?_
  intro p e s m args below meth c s₁ B hml hv
  obtain ⟨rfl, hsz, hP, hK, hD0, hG⟩ := hv
  have hx := B.exec
  have hb := B.bytes
  have hr := B.returns
  have hts := atoms_spec (ws := wsJ0_equals_9ea2d) B.pre
  have hown : s.vm.findClass RJ0 = some m.cls := findClass_of_methodNamed B.named
  have hlocks := B.notSynchronized
  subst hsz
  have hD := hD0.self (sz := s.heap.size)
  generalize hAe : va_A [(h0, .inr (0, [.ref h1, .int 0, .int 0, .int 0])), (h1, .inl (k0, 0, .inl (fun _ => 0)))] s.heap.size = A at hD hG ⊢
  obtain ⟨⟨g_AO_Text, g_AO_String, g_AO_Object, g_nm_RX1_20, g_nm_RX0_17, g_nm_RX3_31, g_nm_RX2_44, g_nm_RL_121, g_nf_RL_13, g_nf_RL_47, g_ca_IO, g_ca_IA, g_ca_IS, g_ca_IntObj, g_ca_StrObj, g_de_RT, g_de_EX, g_de_TH, g_nc_IA_IO, g_nc_IS_IO, g_nc_IS_IA⟩, ⟨g_s3, g_s5, g_sa, g_x278, g_x280, g_x282, g_x284, g_x286, g_x180, g_x238, g_x250⟩, ⟨g_o5, g_c5, g_v5, g_t5, g_oa, g_ca, g_va, g_ta, g_zc, g_zd, g_td, g_zf, g_zU, g_zN, g_zh, g_zk, g_tk, g_oi, g_vi⟩⟩ := id hG
  have hA : ∀ q : Nat, s.heap.size ≤ q → A q := fun q h => by rw [← hAe]; exact Or.inr h
  have hS : va_S A s.heap s.heap [] := va_S.rf
  have hP : va_P (dC, dI) vwCl [(h0, .inr (0, [.ref h1, .int 0, .int 0, .int 0])), (h1, .inl (k0, 0, .inl (fun _ => 0)))] s.heap := hP
  have hl := lv_entry ([.ref h0, .ref ge5]) (n := 3) (Nat.le_of_ble_eq_true rfl)
  rw [lg_entry_eq]
  generalize (lg_sl ([.ref h0, .ref ge5]) ++ List.replicate (3 - (lg_sl ([.ref h0, .ref ge5])).length) Slot.unset).toArray = ls at hl ⊢
  have hl : lv_has ls 3 [(0, .ref h0), (1, .ref ge5)] := hl
  refine lv_aload_n hx hb dJ0_equals_9ea2d_0 rfl (lv_at hl 0 rfl) ?_
  refine lv_aload_n hx hb dJ0_equals_9ea2d_1 rfl (lv_at hl 1 rfl) ?_
  refine lv_acmp_ne (rx := (some h0)) (ry := (some ge5)) (tgt := 7) hx hb dJ0_equals_9ea2d_2 (by decide) (fun _ => ?_) (fun c9 => (fun e9 => absurd (hD.2 0 _ rfl) (by rw [show h0 = ge5 from e9]; obtain ⟨_, _, _, _, n9⟩ := g_o5; exact n9)) (Option.some.inj c9))
  refine lv_aload_n hx hb dJ0_equals_9ea2d_7 rfl (lv_at hl 1 rfl) ?_
  refine va_instE hx hb hown (hts (.classLink RJ0 10 RJ0) (by decide +kernel)) (by obtain ⟨cell, k1, k2, k3, -⟩ := g_o5.kept hS.2.1; exact ⟨cell, k1, k2, k3⟩) dJ0_equals_9ea2d_8 ?_
  refine lv_if_eq (tgt := 54) hx hb dJ0_equals_9ea2d_11 (by decide) (fun c9 => absurd c9 (by decide)) (fun _ => ?_)
  refine lv_aload_n hx hb dJ0_equals_9ea2d_14 rfl (lv_at hl 1 rfl) ?_
  refine va_castE hx hb hown (hts (.classLink RJ0 10 RJ0) (by decide +kernel)) (by obtain ⟨cell, k1, k2, k3, -⟩ := g_o5.kept hS.2.1; exact ⟨cell, k1, k2, k3⟩) dJ0_equals_9ea2d_15 ?_
  refine lv_astore_n (lv' := [(2, .ref ge5), (0, .ref h0), (1, .ref ge5)]) hx hb dJ0_equals_9ea2d_18 rfl hl (by decide) rfl (fun ls hl => ?_)
  refine va_gets (v := .int 1) hx hb g_zc hS hown (hts (.fieldLink RJ0 38 "java/lang/String" "COMPACT_STRINGS" "Z") (by decide +kernel)) (fun _ h9 => h9) dJ0_equals_9ea2d_19 ?_
  refine lv_if_eq (tgt := 36) hx hb dJ0_equals_9ea2d_22 (by decide) (fun c9 => absurd c9 (by decide)) (fun _ => ?_)
  refine lv_aload_n hx hb dJ0_equals_9ea2d_25 rfl (lv_at hl 1 rfl) ?_
  refine va_get (D := (dC, dI)) (ci := 0) (v := .int 0) (C := RJ0) (T := TJ0) (N := 4) hx hb hts (by decide +kernel) hown hK hP 0 rfl rfl 1 (by decide) (hts (.fieldLink RJ0 15 "java/lang/String" "coder" "B") (by decide +kernel)) (fun _ h9 => h9) rfl dJ0_equals_9ea2d_26 ?_
  refine lv_aload_n hx hb dJ0_equals_9ea2d_29 rfl (lv_at hl 0 rfl) ?_
  refine vk_getf (v := .int 0) hx hb g_c5 hS hown (hts (.fieldLink RJ0 15 "java/lang/String" "coder" "B") (by decide +kernel)) (fun _ h9 => h9) dJ0_equals_9ea2d_30 ?_
  refine lv_icmp_ne (tgt := 54) hx hb dJ0_equals_9ea2d_33 (by decide) (fun c9 => absurd (by decide) c9) (fun _ => ?_)
  refine lv_aload_n hx hb dJ0_equals_9ea2d_36 rfl (lv_at hl 1 rfl) ?_
  refine va_get (D := (dC, dI)) (ci := 0) (v := .ref h1) (C := RJ0) (T := TJ0) (N := 4) hx hb hts (by decide +kernel) hown hK hP 0 rfl rfl 0 (by decide) (hts (.fieldLink RJ0 9 "java/lang/String" "value" "[B") (by decide +kernel)) (fun _ h9 => h9) rfl dJ0_equals_9ea2d_37 ?_
  refine lv_aload_n hx hb dJ0_equals_9ea2d_40 rfl (lv_at hl 0 rfl) ?_
  refine vk_getf (v := .ref gv5) hx hb g_v5 hS hown (hts (.fieldLink RJ0 9 "java/lang/String" "value" "[B") (by decide +kernel)) (fun _ h9 => h9) dJ0_equals_9ea2d_41 ?_
  have hPc := hP.sub (ws' := [(h1, .inl (k0, 0, .inl (fun _ => 0)))]) [1] rfl
  have hDc := hD.sub (ws' := [(h1, .inl (k0, 0, .inl (fun _ => 0)))]) [1] (by decide) rfl
  have hKc := hK.sub (tys' := [(k0, .byte)]) [0] rfl
  have hFc := va_free (wc := [(h1, .inl (k0, 0, .inl (fun _ => 0)))]) hD hS hA [1] rfl
  refine va_calli (va_runS (As := [.ref h1, .ref gv5]) (rest := []) ⟨hx, hb, hml, hown, hts⟩ (kx_J1_equals_b5fdf_0 l dC dI ge5 gea gv5 gva gde gic gi0 h1 k0 s.heap.size) (va_cwS 2 hts gJ0_equals_9ea2d_J1_equals_b5fdf rfl rfl rfl (by decide +kernel) ⟨Nat.le_of_ble_eq_true rfl, Nat.le_of_ble_eq_true rfl⟩) ⟨fun a U g mk q => by obtain ⟨q0, q1, qP, qK, qD, qG⟩ := q; exact ⟨q0, q1, qP, va_K.moved (u := U) (U := U.calling g mk a) (Vm.Alike.refl U.vm) qK, qD, gv.fb qG⟩, fun U hU hW => ⟨rfl, by rw [hU], by rw [hU]; exact hPc, va_K.moved hW.alike hKc, hDc.weaken (fun _ _ _ _ => trivial), gv.pass hW hU hS hFc hG⟩⟩ rfl rfl hl.1 rfl (lv_room (Nat.le_of_ble_eq_true rfl)) dJ0_equals_9ea2d_44 ⟨Nat.le_of_ble_eq_true rfl, Nat.le_of_ble_eq_true rfl⟩) hS (fun q _ h => hFc q h) hFc (fun r9 u t H1 locs ht hvm hw hB hz1 hk1 hS => ?_)
  obtain rfl := hw
  obtain ⟨hP1, hK1, hD1⟩ := hB
  rw [ht] at hP1
  have hK1 := va_K.moved hvm.symm hK1
  obtain ⟨hP, hD⟩ := va_join (wr := [(h0, .inr (0, [.ref h1, .int 0, .int 0, .int 0]))]) (w1 := [(h1, .inl (k0, 0, .inl (fun _ => 0)))]) hP hD [1] [0] rfl rfl (by decide) (by decide) hk1 hFc hP1 hD1
  generalize H1 = H at hP hS ⊢
  have hP : va_P (dC, dI) vwCl [(h0, .inr (0, [.ref h1, .int 0, .int 0, .int 0])), (h1, .inl (k0, 0, .inl (fun _ => 0)))] H := hP
  have hD : va_D A [(h0, .inr (0, [.ref h1, .int 0, .int 0, .int 0])), (h1, .inl (k0, 0, .inl (fun _ => 0)))] := hD
  refine lv_if_eq (tgt := 54) hx hb dJ0_equals_9ea2d_47 (by decide) (fun c9 => absurd c9 (by decide)) (fun _ => ?_)
  refine lv_iconst (v := 1) hx hb dJ0_equals_9ea2d_50 (by decide) ?_
  refine lv_goto (tgt := 55) hx hb dJ0_equals_9ea2d_51 (by decide) ?_
  exact W.zret (v := 1) hx hb hr (by decide) (fun t ht hW => ⟨⟨1, (), rfl, rfl, by rw [ht]; exact hP, va_K.moved hW.alike hK, hD⟩, hS.F ht⟩) hS.2.2 dJ0_equals_9ea2d_55
set_option maxHeartbeats 4000000 in
set_option maxRecDepth 100000 in
theorem kx_Jx4a65c_size_8abf5_1 (l : Launch) (dC : Nat → ClassId) (dI : Nat → Nat → Nat) (ge5 gea gv5 gva gde gic gi0 : Nat) (h0 : Nat) (sz : Nat) : Met l yJx4a65c_size_8abf5 wsJx4a65c_size_8abf5 ({ frames := 0, cells := 0, slots := 0, locals := 0 }) (va_Pc [.ref h0] (fun U => U.heap.size = sz ∧ va_P (dC, dI) vwCl [(h0, .inr (3, [.int 0, .ref gde, .int 0]))] U.heap ∧ va_K (dC, dI) vwCl [] U ∧ va_D (fun _ => True) [(h0, .inr (3, [.int 0, .ref gde, .int 0]))] ∧ gv ge5 gea gv5 gva gde gic gi0 (va_A [(h0, .inr (3, [.int 0, .ref gde, .int 0]))] sz) U U.heap)) (va_Qi (fun (r : Int32) (_ : Unit) => r = 0) (fun (_ : Unit) (t : State) => va_P (dC, dI) vwCl [(h0, .inr (3, [.int 0, .ref gde, .int 0]))] t.heap ∧ va_K (dC, dI) vwCl [] t ∧ va_D (va_A [(h0, .inr (3, [.int 0, .ref gde, .int 0]))] sz) [(h0, .inr (3, [.int 0, .ref gde, .int 0]))]) (va_A [(h0, .inr (3, [.int 0, .ref gde, .int 0]))] sz)) 0 0 (va_A [(h0, .inr (3, [.int 0, .ref gde, .int 0]))] sz) := by
  refine Met.ofW (cc := cJx4a65c_size_8abf5) (maxL := 1) (ret := (some .int)) (by decide) rfl ?_
  intro p e s m args below meth c s₁ B hml hv
  obtain ⟨rfl, hsz, hP, hK, hD0, hG⟩ := hv
  have hx := B.exec
  have hb := B.bytes
  have hr := B.returns
  have hts := atoms_spec (ws := wsJx4a65c_size_8abf5) B.pre
  have hown : s.vm.findClass RJx4a65c = some m.cls := findClass_of_methodNamed B.named
  have hlocks := B.notSynchronized
  subst hsz
  have hD := hD0.self (sz := s.heap.size)
  generalize hAe : va_A [(h0, .inr (3, [.int 0, .ref gde, .int 0]))] s.heap.size = A at hD hG ⊢
  obtain ⟨⟨g_AO_Text, g_AO_String, g_AO_Object, g_nm_RX1_20, g_nm_RX0_17, g_nm_RX3_31, g_nm_RX2_44, g_nm_RL_121, g_nf_RL_13, g_nf_RL_47, g_ca_IO, g_ca_IA, g_ca_IS, g_ca_IntObj, g_ca_StrObj, g_de_RT, g_de_EX, g_de_TH, g_nc_IA_IO, g_nc_IS_IO, g_nc_IS_IA⟩, ⟨g_s3, g_s5, g_sa, g_x278, g_x280, g_x282, g_x284, g_x286, g_x180, g_x238, g_x250⟩, ⟨g_o5, g_c5, g_v5, g_t5, g_oa, g_ca, g_va, g_ta, g_zc, g_zd, g_td, g_zf, g_zU, g_zN, g_zh, g_zk, g_tk, g_oi, g_vi⟩⟩ := id hG
  have hA : ∀ q : Nat, s.heap.size ≤ q → A q := fun q h => by rw [← hAe]; exact Or.inr h
  have hS : va_S A s.heap s.heap [] := va_S.rf
  have hP : va_P (dC, dI) vwCl [(h0, .inr (3, [.int 0, .ref gde, .int 0]))] s.heap := hP
  have hl := lv_entry ([.ref h0]) (n := 1) (Nat.le_of_ble_eq_true rfl)
  rw [lg_entry_eq]
  generalize (lg_sl ([.ref h0]) ++ List.replicate (1 - (lg_sl ([.ref h0])).length) Slot.unset).toArray = ls at hl ⊢
  have hl : lv_has ls 1 [(0, .ref h0)] := hl
  refine lv_aload_n hx hb dJx4a65c_size_8abf5_0 rfl (lv_at hl 0 rfl) ?_
  refine va_get (D := (dC, dI)) (ci := 3) (v := .int 0) (C := RJx4a65c) (T := TJx4a65c) (N := 3) hx hb hts (by decide +kernel) hown hK hP 0 rfl rfl 2 (by decide) (hts (.fieldLink RJx4a65c 48 "java/util/ArrayList" "size" "I") (by decide +kernel)) (fun _ h9 => h9) rfl dJx4a65c_size_8abf5_1 ?_
  exact W.iret (v := 0) hx hb hr (fun t ht hW => ⟨⟨0, (), rfl, rfl, by rw [ht]; exact hP, va_K.moved hW.alike hK, hD⟩, hS.F ht⟩) hS.2.2 dJx4a65c_size_8abf5_4
set_option maxHeartbeats 4000000 in
set_option maxRecDepth 100000 in
theorem kx_X5_isIn_6 (l : Launch) (dC : Nat → ClassId) (dI : Nat → Nat → Nat) (sz : Nat) (i0 : Int32) (i0_l : ((-2147483648) : Int) ≤ i0.toInt) (i0_u : i0.toInt ≤ ((-1) : Int)) : Met l yX5_isIn wsX5_isIn ({ frames := 0, cells := 0, slots := 0, locals := 0 }) (va_Pc [.int i0, .int 0, .int (-1)] (fun U => U.heap.size = sz ∧ va_P (dC, dI) vwCl [] U.heap ∧ va_K (dC, dI) vwCl [] U ∧ va_D (fun _ => True) [])) (va_Qi (fun (r : Int32) (_ : Unit) => r = 0) (fun (_ : Unit) (t : State) => va_P (dC, dI) vwCl [] t.heap ∧ va_K (dC, dI) vwCl [] t ∧ va_D (va_A [] sz) []) (va_A [] sz)) 0 0 (va_A [] sz) := by
  refine Met.ofW (cc := cX5_isIn) (maxL := 3) (ret := (some .boolean)) (by decide) rfl ?_
  intro p e s m args below meth c s₁ B hml hv
  obtain ⟨rfl, hsz, hP, hK, hD0⟩ := hv
  have hx := B.exec
  have hb := B.bytes
  have hr := B.returns
  have hts := atoms_spec (ws := wsX5_isIn) B.pre
  have hown : s.vm.findClass RX5 = some m.cls := findClass_of_methodNamed B.named
  have hlocks := B.notSynchronized
  subst hsz
  have hD := hD0.self (sz := s.heap.size)
  generalize hAe : va_A [] s.heap.size = A at hD ⊢
  have hA : ∀ q : Nat, s.heap.size ≤ q → A q := fun q h => by rw [← hAe]; exact Or.inr h
  have hS : va_S A s.heap s.heap [] := va_S.rf
  have hP : va_P (dC, dI) vwCl [] s.heap := hP
  have hl := lv_entry ([.int i0, .int 0, .int (-1)]) (n := 3) (Nat.le_of_ble_eq_true rfl)
  rw [lg_entry_eq]
  generalize (lg_sl ([.int i0, .int 0, .int (-1)]) ++ List.replicate (3 - (lg_sl ([.int i0, .int 0, .int (-1)])).length) Slot.unset).toArray = ls at hl ⊢
  have hl : lv_has ls 3 [(0, .int i0), (1, .int 0), (2, .int (-1))] := hl
  refine lv_iload_n hx hb dX5_isIn_0 rfl (lv_at hl 0 rfl) ?_
  refine lv_iload_n hx hb dX5_isIn_1 rfl (lv_at hl 1 rfl) ?_
  refine lv_icmp_lt (tgt := 14) hx hb dX5_isIn_2 (by decide) (fun _ => ?_) (fun c9 => absurd (Int32.lt_iff_toInt_lt.mpr (by rw [show (0 : Int32).toInt = 0 from by decide]; omega)) c9)
  refine lv_iconst (v := 0) hx hb dX5_isIn_14 (by decide) ?_
  exact W.zret (v := 0) hx hb hr (by decide) (fun t ht hW => ⟨⟨0, (), rfl, rfl, by rw [ht]; exact hP, va_K.moved hW.alike hK, hD⟩, hS.F ht⟩) hS.2.2 dX5_isIn_15
set_option maxHeartbeats 4000000 in
set_option maxRecDepth 100000 in
theorem kx_X5_allPeaks_0 (l : Launch) (dC : Nat → ClassId) (dI : Nat → Nat → Nat) (ge5 gea gv5 gva gde gic gi0 : Nat) (h0 : Nat) (h1 : Nat) (z0 : Nat) (z1 : Nat) (sz : Nat) : Met l yX5_allPeaks wsX5_allPeaks ({ frames := 4, cells := 1, slots := 3, locals := 72 }) (va_Pc [.ref h0] (fun U => U.heap.size = sz ∧ va_P (dC, dI) vwCl [(h0, .inr (9, [.int 0, .ref z0, .ref h1, .ref z1, .int 0, .int 0, .int 0])), (h1, .inr (3, [.int 0, .ref gde, .int 0]))] U.heap ∧ va_K (dC, dI) vwCl [] U ∧ va_D (fun _ => True) [(h0, .inr (9, [.int 0, .ref z0, .ref h1, .ref z1, .int 0, .int 0, .int 0])), (h1, .inr (3, [.int 0, .ref gde, .int 0]))] ∧ gv ge5 gea gv5 gva gde gic gi0 (va_A [(h0, .inr (9, [.int 0, .ref z0, .ref h1, .ref z1, .int 0, .int 0, .int 0])), (h1, .inr (3, [.int 0, .ref gde, .int 0]))] sz) U U.heap)) (va_Qr (fun _ : Unit => True) (fun (_ : Unit) (ra : Nat) (t : State) => ∃ q1 : Nat, ra = q1 ∧ va_P (dC, dI) vwCl [(h0, .inr (9, [.int 0, .ref z0, .ref h1, .ref z1, .int 0, .int 0, .int 0])), (h1, .inr (3, [.int 0, .ref gde, .int 0])), (q1, .inr (3, [.int 0, .ref gde, .int 0]))] t.heap ∧ va_K (dC, dI) vwCl [] t ∧ va_D (va_A [(h0, .inr (9, [.int 0, .ref z0, .ref h1, .ref z1, .int 0, .int 0, .int 0])), (h1, .inr (3, [.int 0, .ref gde, .int 0]))] sz) [(h0, .inr (9, [.int 0, .ref z0, .ref h1, .ref z1, .int 0, .int 0, .int 0])), (h1, .inr (3, [.int 0, .ref gde, .int 0])), (q1, .inr (3, [.int 0, .ref gde, .int 0]))]) (va_A [(h0, .inr (9, [.int 0, .ref z0, .ref h1, .ref z1, .int 0, .int 0, .int 0])), (h1, .inr (3, [.int 0, .ref gde, .int 0]))] sz)) 1 3 (va_A [(h0, .inr (9, [.int 0, .ref z0, .ref h1, .ref z1, .int 0, .int 0, .int 0])), (h1, .inr (3, [.int 0, .ref gde, .int 0]))] sz) := by
  refine Met.ofW (cc := cX5_allPeaks) (maxL := 8) (ret := (some (.object "java/util/ArrayList"))) (by decide) rfl ?_
  intro p e s m args below meth c s₁ B hml hv
  obtain ⟨rfl, hsz, hP, hK, hD0, hG⟩ := hv
  have hx := B.exec
  have hb := B.bytes
  have hr := B.returns
  have hts := atoms_spec (ws := wsX5_allPeaks) B.pre
  have hown : s.vm.findClass RX5 = some m.cls := findClass_of_methodNamed B.named
  have hlocks := B.notSynchronized
  subst hsz
  have hD := hD0.self (sz := s.heap.size)
  generalize hAe : va_A [(h0, .inr (9, [.int 0, .ref z0, .ref h1, .ref z1, .int 0, .int 0, .int 0])), (h1, .inr (3, [.int 0, .ref gde, .int 0]))] s.heap.size = A at hD hG ⊢
  obtain ⟨⟨g_AO_Text, g_AO_String, g_AO_Object, g_nm_RX1_20, g_nm_RX0_17, g_nm_RX3_31, g_nm_RX2_44, g_nm_RL_121, g_nf_RL_13, g_nf_RL_47, g_ca_IO, g_ca_IA, g_ca_IS, g_ca_IntObj, g_ca_StrObj, g_de_RT, g_de_EX, g_de_TH, g_nc_IA_IO, g_nc_IS_IO, g_nc_IS_IA⟩, ⟨g_s3, g_s5, g_sa, g_x278, g_x280, g_x282, g_x284, g_x286, g_x180, g_x238, g_x250⟩, ⟨g_o5, g_c5, g_v5, g_t5, g_oa, g_ca, g_va, g_ta, g_zc, g_zd, g_td, g_zf, g_zU, g_zN, g_zh, g_zk, g_tk, g_oi, g_vi⟩⟩ := id hG
  have hA : ∀ q : Nat, s.heap.size ≤ q → A q := fun q h => by rw [← hAe]; exact Or.inr h
  have hS : va_S A s.heap s.heap [] := va_S.rf
  have hP : va_P (dC, dI) vwCl [(h0, .inr (9, [.int 0, .ref z0, .ref h1, .ref z1, .int 0, .int 0, .int 0])), (h1, .inr (3, [.int 0, .ref gde, .int 0]))] s.heap := hP
  have hl := lv_entry ([.ref h0]) (n := 8) (Nat.le_of_ble_eq_true rfl)
  rw [lg_entry_eq]
  generalize (lg_sl ([.ref h0]) ++ List.replicate (8 - (lg_sl ([.ref h0])).length) Slot.unset).toArray = ls at hl ⊢
  have hl : lv_has ls 8 [(0, .ref h0)] := hl
  refine va_new (ci := 3) (fs := [.int 0, .null, .int 0]) (C := RJx4a65c) (T := TJx4a65c) (N := 3) hx hb hts (by decide +kernel) tyJx4a65c tyJx4a65c_ok hown (hts (.classLink RX5 17 RJx4a65c) (by decide +kernel)) (hts (.instantiable RJx4a65c 3) (by decide +kernel)) (hts (.initialized RJx4a65c) (by decide +kernel)) hK hP hD hS hA rfl (fun j hj => by rcases (show j = 0 ∨ j = 1 ∨ j = 2 by omega) with rfl | rfl | rfl <;> rfl) (Nat.le_of_ble_eq_true rfl) (Nat.le_of_ble_eq_true rfl) dX5_allPeaks_0 (fun q1 H hP hD hS => ?_)
  have hP : va_P (dC, dI) vwCl [(h0, .inr (9, [.int 0, .ref z0, .ref h1, .ref z1, .int 0, .int 0, .int 0])), (h1, .inr (3, [.int 0, .ref gde, .int 0])), (q1, .inr (3, [.int 0, .null, .int 0]))] H := hP
  have hD : va_D A [(h0, .inr (9, [.int 0, .ref z0, .ref h1, .ref z1, .int 0, .int 0, .int 0])), (h1, .inr (3, [.int 0, .ref gde, .int 0])), (q1, .inr (3, [.int 0, .null, .int 0]))] := hD
  refine W.widen (k := 1) (n := 3) (by omega) (by omega) ?_
  refine lv_dup hx hb dX5_allPeaks_3 rfl ?_
  have hPc := hP.sub (ws' := [(q1, .inr (3, [.int 0, .null, .int 0]))]) [2] rfl
  have hDc := hD.sub (ws' := [(q1, .inr (3, [.int 0, .null, .int 0]))]) [2] (by decide) rfl
  have hKc := hK.sub (tys' := []) [] rfl
  have hFc := va_free (wc := [(q1, .inr (3, [.int 0, .null, .int 0]))]) hD hS hA [2] rfl
  refine va_callv (va_runI (As := []) (rest := [.ref q1]) ⟨hx, hb, hml, hown, hts⟩ (kx_Jx4a65c_init_da8c8_0 l dC dI ge5 gea gv5 gva gde gic gi0 q1 H.size) (cwI 0 hts gX5_allPeaks_Jx4a65c_init_da8c8 rfl rfl rfl (hts (.initialized RJx4a65c) (by decide +kernel)) (hts (.methodLink RX5 19 yJx4a65c_init_da8c8) (by decide +kernel)) (hts (.instanceMethod yJx4a65c_init_da8c8) (by decide +kernel)) rfl (by decide +kernel) ⟨Nat.le_of_ble_eq_true rfl, Nat.le_of_ble_eq_true rfl⟩) ⟨fun a U g mk q => by obtain ⟨q0, q1, qP, qK, qD, qG⟩ := q; exact ⟨q0, q1, qP, va_K.moved (u := U) (U := U.calling g mk a) (Vm.Alike.refl U.vm) qK, qD, gv.fb qG⟩, fun U hU hW => ⟨rfl, by rw [hU], by rw [hU]; exact hPc, va_K.moved hW.alike hKc, hDc.weaken (fun _ _ _ _ => trivial), gv.pass hW hU hS hFc hG⟩⟩ rfl rfl hl.1 rfl (lv_room (Nat.le_of_ble_eq_true rfl)) dX5_allPeaks_4 ⟨Nat.le_of_ble_eq_true rfl, Nat.le_of_ble_eq_true rfl⟩) hS (fun q _ h => hFc q h) hFc (fun u t H1 locs ht hvm hw hB hz1 hk1 hS => ?_)
  obtain ⟨hP1, hK1, hD1⟩ := hB
  rw [ht] at hP1
  have hK1 := va_K.moved hvm.symm hK1
  obtain ⟨hP, hD⟩ := va_join (wr := [(h0, .inr (9, [.int 0, .ref z0, .ref h1, .ref z1, .int 0, .int 0, .int 0])), (h1, .inr (3, [.int 0, .ref gde, .int 0]))]) (w1 := [(q1, .inr (3, [.int 0, .ref gde, .int 0]))]) hP hD [2] [0, 1] rfl rfl (by decide) (by decide) hk1 hFc hP1 hD1
  generalize H1 = H at hP hS ⊢
  have hP : va_P (dC, dI) vwCl [(h0, .inr (9, [.int 0, .ref z0, .ref h1, .ref z1, .int 0, .int 0, .int 0])), (h1, .inr (3, [.int 0, .ref gde, .int 0])), (q1, .inr (3, [.int 0, .ref gde, .int 0]))] H := hP
  have hD : va_D A [(h0, .inr (9, [.int 0, .ref z0, .ref h1, .ref z1, .int 0, .int 0, .int 0])), (h1, .inr (3, [.int 0, .ref gde, .int 0])), (q1, .inr (3, [.int 0, .ref gde, .int 0]))] := hD
  refine lv_astore_n (lv' := [(1, .ref q1), (0, .ref h0)]) hx hb dX5_allPeaks_7 rfl hl (by decide) rfl (fun ls hl => ?_)
  refine lv_iconst (v := 0) hx hb dX5_allPeaks_8 (by decide) ?_
  refine lv_istore_n (lv' := [(2, .int 0), (1, .ref q1), (0, .ref h0)]) hx hb dX5_allPeaks_9 rfl hl (by decide) rfl (fun ls hl => ?_)
  refine lv_iload_n hx hb dX5_allPeaks_10 rfl (lv_at hl 0 rfl) ?_
  refine lv_aload_n hx hb dX5_allPeaks_11 rfl (lv_at hl 2 rfl) ?_
  refine va_get (D := (dC, dI)) (ci := 9) (v := .ref h1) (C := RX5) (T := TX5) (N := 7) hx hb hts (by decide +kernel) hown hK hP 0 rfl rfl 2 (by decide) (hts (.fieldLink RX5 20 "RewriteropeModel" "lefts" "Ljava/util/ArrayList;") (by decide +kernel)) (fun _ h9 => h9) rfl dX5_allPeaks_12 ?_
  have hPc := hP.sub (ws' := [(h1, .inr (3, [.int 0, .ref gde, .int 0]))]) [1] rfl
  have hDc := hD.sub (ws' := [(h1, .inr (3, [.int 0, .ref gde, .int 0]))]) [1] (by decide) rfl
  have hKc := hK.sub (tys' := []) [] rfl
  have hFc := va_free (wc := [(h1, .inr (3, [.int 0, .ref gde, .int 0]))]) hD hS hA [1] rfl
  refine va_calli (va_runV (As := []) (rest := [.int 0]) ⟨hx, hb, hml, hown, hts⟩ (kx_Jx4a65c_size_8abf5_1 l dC dI ge5 gea gv5 gva gde gic gi0 h1 H.size) (cwV 0 hts gX5_allPeaks_Jx4a65c_size_8abf5 rfl rfl rfl (by decide +kernel) ⟨Nat.le_of_ble_eq_true rfl, Nat.le_of_ble_eq_true rfl⟩) ⟨fun a U g mk q => by obtain ⟨q0, q1, qP, qK, qD, qG⟩ := q; exact ⟨q0, q1, qP, va_K.moved (u := U) (U := U.calling g mk a) (Vm.Alike.refl U.vm) qK, qD, gv.fb qG⟩, va_recv hKc hPc (ci := 3) (q0 := 0) rfl rfl, fun U hU hW => ⟨rfl, by rw [hU], by rw [hU]; exact hPc, va_K.moved hW.alike hKc, hDc.weaken (fun _ _ _ _ => trivial), gv.pass hW hU hS hFc hG⟩⟩ rfl rfl hl.1 rfl (lv_room (Nat.le_of_ble_eq_true rfl)) dX5_allPeaks_15 ⟨Nat.le_of_ble_eq_true rfl, Nat.le_of_ble_eq_true rfl⟩) hS (fun q _ h => hFc q h) hFc (fun r9 u t H1 locs ht hvm hw hB hz1 hk1 hS => ?_)
  obtain rfl := hw
  obtain ⟨hP1, hK1, hD1⟩ := hB
  rw [ht] at hP1
  have hK1 := va_K.moved hvm.symm hK1
  obtain ⟨hP, hD⟩ := va_join (wr := [(h0, .inr (9, [.int 0, .ref z0, .ref h1, .ref z1, .int 0, .int 0, .int 0])), (q1, .inr (3, [.int 0, .ref gde, .int 0]))]) (w1 := [(h1, .inr (3, [.int 0, .ref gde, .int 0]))]) hP hD [1] [0, 2] rfl rfl (by decide) (by decide) hk1 hFc hP1 hD1
  generalize H1 = H at hP hS ⊢
  have hP : va_P (dC, dI) vwCl [(h0, .inr (9, [.int 0, .ref z0, .ref h1, .ref z1, .int 0, .int 0, .int 0])), (q1, .inr (3, [.int 0, .ref gde, .int 0])), (h1, .inr (3, [.int 0, .ref gde, .int 0]))] H := hP
  have hD : va_D A [(h0, .inr (9, [.int 0, .ref z0, .ref h1, .ref z1, .int 0, .int 0, .int 0])), (q1, .inr (3, [.int 0, .ref gde, .int 0])), (h1, .inr (3, [.int 0, .ref gde, .int 0]))] := hD
  refine lv_icmp_ge (tgt := 335) hx hb dX5_allPeaks_18 (by decide) (fun _ => ?_) (fun c9 => absurd (by decide) c9)
  refine lv_aload_n hx hb dX5_allPeaks_335 rfl (lv_at hl 1 rfl) ?_
  have hP := hP.sub (ws' := [(h0, .inr (9, [.int 0, .ref z0, .ref h1, .ref z1, .int 0, .int 0, .int 0])), (h1, .inr (3, [.int 0, .ref gde, .int 0])), (q1, .inr (3, [.int 0, .ref gde, .int 0]))]) [0, 2, 1] rfl
  have hD := hD.sub (ws' := [(h0, .inr (9, [.int 0, .ref z0, .ref h1, .ref z1, .int 0, .int 0, .int 0])), (h1, .inr (3, [.int 0, .ref gde, .int 0])), (q1, .inr (3, [.int 0, .ref gde, .int 0]))]) [0, 2, 1] (by decide) rfl
  exact W.aret (v := .ref q1) hx hb hr (Or.inl ⟨_, rfl⟩) (Or.inr ⟨_, rfl⟩) (fun t ht hW => ⟨⟨(), q1, rfl, trivial, q1, rfl, by rw [ht]; exact hP, va_K.moved hW.alike hK, hD⟩, hS.F ht⟩) hS.2.2 dX5_allPeaks_336
set_option maxHeartbeats 4000000 in
set_option maxRecDepth 100000 in
theorem kx_X0_has_0 (l : Launch) (dC : Nat → ClassId) (dI : Nat → Nat → Nat) (h0 : Nat) (z0 : Nat) (z1 : Nat) (z2 : Nat) (z3 : Nat) (z4 : Nat) (sz : Nat) (i0 : Int32) (i0_l : ((-2147483648) : Int) ≤ i0.toInt) (i0_u : i0.toInt ≤ ((-1) : Int)) : Met l yX0_has wsX0_has ({ frames := 0, cells := 0, slots := 0, locals := 0 }) (va_Pc [.ref h0, .int i0] (fun U => U.heap.size = sz ∧ va_P (dC, dI) vwCl [(h0, .inr (4, [.ref z0, .ref z1, .ref z2, .ref z3, .ref z4, .int 0, .int 0, .int (-2)]))] U.heap ∧ va_K (dC, dI) vwCl [] U ∧ va_D (fun _ => True) [(h0, .inr (4, [.ref z0, .ref z1, .ref z2, .ref z3, .ref z4, .int 0, .int 0, .int (-2)]))])) (va_Qi (fun (r : Int32) (_ : Unit) => r = 0) (fun (_ : Unit) (t : State) => va_P (dC, dI) vwCl [(h0, .inr (4, [.ref z0, .ref z1, .ref z2, .ref z3, .ref z4, .int 0, .int 0, .int (-2)]))] t.heap ∧ va_K (dC, dI) vwCl [] t ∧ va_D (va_A [(h0, .inr (4, [.ref z0, .ref z1, .ref z2, .ref z3, .ref z4, .int 0, .int 0, .int (-2)]))] sz) [(h0, .inr (4, [.ref z0, .ref z1, .ref z2, .ref z3, .ref z4, .int 0, .int 0, .int (-2)]))]) (va_A [(h0, .inr (4, [.ref z0, .ref z1, .ref z2, .ref z3, .ref z4, .int 0, .int 0, .int (-2)]))] sz)) 0 0 (va_A [(h0, .inr (4, [.ref z0, .ref z1, .ref z2, .ref z3, .ref z4, .int 0, .int 0, .int (-2)]))] sz) := by
  refine Met.ofW (cc := cX0_has) (maxL := 2) (ret := (some .boolean)) (by decide) rfl ?_
  intro p e s m args below meth c s₁ B hml hv
  obtain ⟨rfl, hsz, hP, hK, hD0⟩ := hv
  have hx := B.exec
  have hb := B.bytes
  have hr := B.returns
  have hts := atoms_spec (ws := wsX0_has) B.pre
  have hown : s.vm.findClass RX0 = some m.cls := findClass_of_methodNamed B.named
  have hlocks := B.notSynchronized
  subst hsz
  have hD := hD0.self (sz := s.heap.size)
  generalize hAe : va_A [(h0, .inr (4, [.ref z0, .ref z1, .ref z2, .ref z3, .ref z4, .int 0, .int 0, .int (-2)]))] s.heap.size = A at hD ⊢
  have hA : ∀ q : Nat, s.heap.size ≤ q → A q := fun q h => by rw [← hAe]; exact Or.inr h
  have hS : va_S A s.heap s.heap [] := va_S.rf
  have hP : va_P (dC, dI) vwCl [(h0, .inr (4, [.ref z0, .ref z1, .ref z2, .ref z3, .ref z4, .int 0, .int 0, .int (-2)]))] s.heap := hP
  have hl := lv_entry ([.ref h0, .int i0]) (n := 2) (Nat.le_of_ble_eq_true rfl)
  rw [lg_entry_eq]
  generalize (lg_sl ([.ref h0, .int i0]) ++ List.replicate (2 - (lg_sl ([.ref h0, .int i0])).length) Slot.unset).toArray = ls at hl ⊢
  have hl : lv_has ls 2 [(0, .ref h0), (1, .int i0)] := hl
  refine lv_iload_n hx hb dX0_has_0 rfl (lv_at hl 1 rfl) ?_
  refine lv_if_lt (tgt := 16) hx hb dX0_has_1 (by decide) (fun _ => ?_) (fun c9 => absurd (Int32.lt_iff_toInt_lt.mpr (by rw [show (0 : Int32).toInt = 0 from by decide]; omega)) c9)
  refine lv_iconst (v := 0) hx hb dX0_has_16 (by decide) ?_
  exact W.zret (v := 0) hx hb hr (by decide) (fun t ht hW => ⟨⟨0, (), rfl, rfl, by rw [ht]; exact hP, va_K.moved hW.alike hK, hD⟩, hS.F ht⟩) hS.2.2 dX0_has_17
set_option maxHeartbeats 4000000 in
set_option maxRecDepth 100000 in
theorem kx_X3_meets_0 (l : Launch) (hst : l.stackTraces = false) (dC : Nat → ClassId) (dI : Nat → Nat → Nat) (ge5 gea gv5 gva gde gic gi0 : Nat) (h0 : Nat) (h1 : Nat) (z0 : Nat) (z1 : Nat) (z2 : Nat) (z3 : Nat) (z4 : Nat) (z5 : Nat) (z6 : Nat) (z7 : Nat) (z8 : Nat) (sz : Nat) (i0 : Int32) (i0_l : ((-2147483648) : Int) ≤ i0.toInt) (i0_u : i0.toInt ≤ ((-1) : Int)) : vx_Met l yX3_meets wsX3_meets ({ frames := 6, cells := 1, slots := 6, locals := 120 }) (va_Pc [.ref h0, .int i0] (fun U => U.heap.size = sz ∧ va_P (dC, dI) vwCl [(h0, .inr (7, [.ref z0, .ref z1, .ref h1, .ref z2, .ref z3, .ref z4, .int 0, .int 0, .int 0])), (h1, .inr (4, [.ref z1, .ref z5, .ref z6, .ref z7, .ref z8, .int 0, .int 0, .int (-2)]))] U.heap ∧ va_K (dC, dI) vwCl [] U ∧ va_D (fun _ => True) [(h0, .inr (7, [.ref z0, .ref z1, .ref h1, .ref z2, .ref z3, .ref z4, .int 0, .int 0, .int 0])), (h1, .inr (4, [.ref z1, .ref z5, .ref z6, .ref z7, .ref z8, .int 0, .int 0, .int (-2)]))] ∧ gv ge5 gea gv5 gva gde gic gi0 (va_A [(h0, .inr (7, [.ref z0, .ref z1, .ref h1, .ref z2, .ref z3, .ref z4, .int 0, .int 0, .int 0])), (h1, .inr (4, [.ref z1, .ref z5, .ref z6, .ref z7, .ref z8, .int 0, .int 0, .int (-2)]))] sz) U U.heap)) (va_Qi (fun (_ : Int32) (_ : Unit) => False) (fun _ _ => True) (va_A [(h0, .inr (7, [.ref z0, .ref z1, .ref h1, .ref z2, .ref z3, .ref z4, .int 0, .int 0, .int 0])), (h1, .inr (4, [.ref z1, .ref z5, .ref z6, .ref z7, .ref z8, .int 0, .int 0, .int (-2)]))] sz)) (vx_X (fun _ : Unit => True) (fun (E : String) (_ : Unit) (t : State) => E = "java/lang/IndexOutOfBoundsException" ∧ va_P (dC, dI) vwCl [(h0, .inr (7, [.ref z0, .ref z1, .ref h1, .ref z2, .ref z3, .ref z4, .int 0, .int 0, .int 0])), (h1, .inr (4, [.ref z1, .ref z5, .ref z6, .ref z7, .ref z8, .int 0, .int 0, .int (-2)]))] t.heap ∧ va_K (dC, dI) vwCl [] t ∧ va_D (va_A [(h0, .inr (7, [.ref z0, .ref z1, .ref h1, .ref z2, .ref z3, .ref z4, .int 0, .int 0, .int 0])), (h1, .inr (4, [.ref z1, .ref z5, .ref z6, .ref z7, .ref z8, .int 0, .int 0, .int (-2)]))] sz) [(h0, .inr (7, [.ref z0, .ref z1, .ref h1, .ref z2, .ref z3, .ref z4, .int 0, .int 0, .int 0])), (h1, .inr (4, [.ref z1, .ref z5, .ref z6, .ref z7, .ref z8, .int 0, .int 0, .int (-2)]))]) (va_A [(h0, .inr (7, [.ref z0, .ref z1, .ref h1, .ref z2, .ref z3, .ref z4, .int 0, .int 0, .int 0])), (h1, .inr (4, [.ref z1, .ref z5, .ref z6, .ref z7, .ref z8, .int 0, .int 0, .int (-2)]))] sz)) 1 6 (va_A [(h0, .inr (7, [.ref z0, .ref z1, .ref h1, .ref z2, .ref z3, .ref z4, .int 0, .int 0, .int 0])), (h1, .inr (4, [.ref z1, .ref z5, .ref z6, .ref z7, .ref z8, .int 0, .int 0, .int (-2)]))] sz) := by
  refine vx_ofW (cc := cX3_meets) (maxL := 2) (ret := (some .boolean)) (by decide) rfl ?_
  intro p e s m args below meth c s₁ B hml ht9 hv
  obtain ⟨rfl, hsz, hP, hK, hD0, hG⟩ := hv
  have hx := B.exec
  have hb := B.bytes
  have hr := B.returns
  have hts := atoms_spec (ws := wsX3_meets) B.pre
  have hown : s.vm.findClass RX3 = some m.cls := findClass_of_methodNamed B.named
  have hlocks := B.notSynchronized
  subst hsz
  have hD := hD0.self (sz := s.heap.size)
  generalize hAe : va_A [(h0, .inr (7, [.ref z0, .ref z1, .ref h1, .ref z2, .ref z3, .ref z4, .int 0, .int 0, .int 0])), (h1, .inr (4, [.ref z1, .ref z5, .ref z6, .ref z7, .ref z8, .int 0, .int 0, .int (-2)]))] s.heap.size = A at hD hG ⊢
  obtain ⟨⟨g_AO_Text, g_AO_String, g_AO_Object, g_nm_RX1_20, g_nm_RX0_17, g_nm_RX3_31, g_nm_RX2_44, g_nm_RL_121, g_nf_RL_13, g_nf_RL_47, g_ca_IO, g_ca_IA, g_ca_IS, g_ca_IntObj, g_ca_StrObj, g_de_RT, g_de_EX, g_de_TH, g_nc_IA_IO, g_nc_IS_IO, g_nc_IS_IA⟩, ⟨g_s3, g_s5, g_sa, g_x278, g_x280, g_x282, g_x284, g_x286, g_x180, g_x238, g_x250⟩, ⟨g_o5, g_c5, g_v5, g_t5, g_oa, g_ca, g_va, g_ta, g_zc, g_zd, g_td, g_zf, g_zU, g_zN, g_zh, g_zk, g_tk, g_oi, g_vi⟩⟩ := id hG
  have hA : ∀ q : Nat, s.heap.size ≤ q → A q := fun q h => by rw [← hAe]; exact Or.inr h
  have hS : va_S A s.heap s.heap [] := va_S.rf
  have hP : va_P (dC, dI) vwCl [(h0, .inr (7, [.ref z0, .ref z1, .ref h1, .ref z2, .ref z3, .ref z4, .int 0, .int 0, .int 0])), (h1, .inr (4, [.ref z1, .ref z5, .ref z6, .ref z7, .ref z8, .int 0, .int 0, .int (-2)]))] s.heap := hP
  have hl := lv_entry ([.ref h0, .int i0]) (n := 2) (Nat.le_of_ble_eq_true rfl)
  rw [lg_entry_eq]
  generalize (lg_sl ([.ref h0, .int i0]) ++ List.replicate (2 - (lg_sl ([.ref h0, .int i0])).length) Slot.unset).toArray = ls at hl ⊢
  have hl : lv_has ls 2 [(0, .ref h0), (1, .int i0)] := hl
  refine lv_aload_n hx hb dX3_meets_0 rfl (lv_at hl 0 rfl) ?_
  refine va_get (D := (dC, dI)) (ci := 7) (v := .ref h1) (C := RX3) (T := TX3) (N := 9) hx hb hts (by decide +kernel) hown hK hP 0 rfl rfl 2 (by decide) (hts (.fieldLink RX3 27 "Rewriterope" "tops" "LRewriterope$PeakList;") (by decide +kernel)) (fun _ h9 => h9) rfl dX3_meets_1 ?_
  refine lv_iload_n hx hb dX3_meets_4 rfl (lv_at hl 1 rfl) ?_
  have hPc := hP.sub (ws' := [(h1, .inr (4, [.ref z1, .ref z5, .ref z6, .ref z7, .ref z8, .int 0, .int 0, .int (-2)]))]) [1] rfl
  have hDc := hD.sub (ws' := [(h1, .inr (4, [.ref z1, .ref z5, .ref z6, .ref z7, .ref z8, .int 0, .int 0, .int (-2)]))]) [1] (by decide) rfl
  have hKc := hK.sub (tys' := []) [] rfl
  have hFc := va_free (wc := [(h1, .inr (4, [.ref z1, .ref z5, .ref z6, .ref z7, .ref z8, .int 0, .int 0, .int (-2)]))]) hD hS hA [1] rfl
  refine va_calli (va_runV (As := [.int i0]) (rest := []) ⟨hx, hb, hml, hown, hts⟩ (kx_X0_has_0 l dC dI h1 z1 z5 z6 z7 z8 s.heap.size i0 i0_l i0_u) (cwV 1 hts gX3_meets_X0_has rfl rfl rfl (by decide +kernel) ⟨Nat.le_of_ble_eq_true rfl, Nat.le_of_ble_eq_true rfl⟩) ⟨fun a U g mk q => by obtain ⟨q0, q1, qP, qK, qD⟩ := q; exact ⟨q0, q1, qP, va_K.moved (u := U) (U := U.calling g mk a) (Vm.Alike.refl U.vm) qK, qD⟩, va_recv hKc hPc (ci := 4) (q0 := 0) rfl rfl, fun U hU hW => ⟨rfl, by rw [hU], by rw [hU]; exact hPc, va_K.moved hW.alike hKc, hDc.weaken (fun _ _ _ _ => trivial)⟩⟩ rfl rfl hl.1 rfl (lv_room (Nat.le_of_ble_eq_true rfl)) dX3_meets_5 ⟨Nat.le_of_ble_eq_true rfl, Nat.le_of_ble_eq_true rfl⟩) hS (fun q _ h => hFc q h) hFc (fun r9 u t H1 locs ht hvm hw hB hz1 hk1 hS => ?_)
  obtain rfl := hw
  obtain ⟨hP1, hK1, hD1⟩ := hB
  rw [ht] at hP1
  have hK1 := va_K.moved hvm.symm hK1
  obtain ⟨hP, hD⟩ := va_join (wr := [(h0, .inr (7, [.ref z0, .ref z1, .ref h1, .ref z2, .ref z3, .ref z4, .int 0, .int 0, .int 0]))]) (w1 := [(h1, .inr (4, [.ref z1, .ref z5, .ref z6, .ref z7, .ref z8, .int 0, .int 0, .int (-2)]))]) hP hD [1] [0] rfl rfl (by decide) (by decide) hk1 hFc hP1 hD1
  generalize H1 = H at hP hS ⊢
  have hP : va_P (dC, dI) vwCl [(h0, .inr (7, [.ref z0, .ref z1, .ref h1, .ref z2, .ref z3, .ref z4, .int 0, .int 0, .int 0])), (h1, .inr (4, [.ref z1, .ref z5, .ref z6, .ref z7, .ref z8, .int 0, .int 0, .int (-2)]))] H := hP
  have hD : va_D A [(h0, .inr (7, [.ref z0, .ref z1, .ref h1, .ref z2, .ref z3, .ref z4, .int 0, .int 0, .int 0])), (h1, .inr (4, [.ref z1, .ref z5, .ref z6, .ref z7, .ref z8, .int 0, .int 0, .int (-2)]))] := hD
  refine lv_if_ne (tgt := 21) hx hb dX3_meets_8 (by decide) (fun c9 => absurd (by decide) c9) (fun _ => ?_)
  obtain ⟨sa9, hsa9⟩ := g_x238
  have hin9 : ∀ w ∈ (vx_atS RX3 240 "java/lang/IndexOutOfBoundsException" ["java/lang/RuntimeException", "java/lang/Exception"]).filter goodWord, w ∈ wsX3_meets := (by intro w hw; first | exact List.mem_cons_of_mem _ (List.mem_append_right _ hw) | exact List.mem_cons_of_mem _ (List.mem_append_left _ (List.mem_append_right _ hw)))
  exact vx_throwS (cls := "java/lang/IndexOutOfBoundsException") (text := "no such peak") (names := ["java/lang/RuntimeException", "java/lang/Exception"]) (ic := 240) hx hb hst hown (by decide) (by decide) (hts (.classLink RX3 236 "java/lang/IndexOutOfBoundsException") (by decide +kernel)) (hts (.initialized "java/lang/IndexOutOfBoundsException") (by decide +kernel)) hsa9 (vx_hat (B := [.declares (Bundle.initS "java/lang/RuntimeException"), .declares (Bundle.initS "java/lang/Exception"), .declares (Bundle.initS Bundle.tN), .castable "java/lang/IndexOutOfBoundsException" "java/lang/IndexOutOfBoundsException"]) (fun w hw => hts w (hin9 w hw)) (fun w hw => by rw [xbad_IO] at hw; exact hw) (vx_c (va_Nw.use rfl g_de_RT) (vx_c (va_Nw.use rfl g_de_EX) (vx_c (va_Nw.use rfl g_de_TH) (vx_c (va_Nw.use rfl g_ca_IO) vx_n))))) (by decide +kernel) g_zU g_zN hS (by rw [hml]; exact hl.1) dX3_meets_11 dX3_meets_14 dX3_meets_15 dX3_meets_17 dX3_meets_20 (fun x hx9 => (ht9 x hx9).elim) (Nat.le_of_ble_eq_true rfl) (Nat.le_of_ble_eq_true rfl) (Nat.le_of_ble_eq_true rfl) (Nat.le_of_ble_eq_true rfl) hlocks (fun t ha hz hk => ⟨(), trivial, ⟨rfl, hP.kept (fun k q hq => hk _ (vx_lt hP hq)), va_K.moved ha hK, hD⟩, Nat.le_trans hS.1 hz, fun q h1 h2 => (hk q (Nat.lt_of_lt_of_le h1 hS.1)).trans (hS.2.1 q h1 h2)⟩) hS.2.2 (Nat.le_refl _) (Nat.le_refl _)
set_option maxHeartbeats 4000000 in
set_option maxRecDepth 100000 in
theorem kx_L_meets_0 (l : Launch) (hst : l.stackTraces = false) (dC : Nat → ClassId) (dI : Nat → Nat → Nat) (ge5 gea gv5 gva gde gic gi0 : Nat) (h0 : Nat) (h1 : Nat) (z0 : Nat) (z1 : Nat) (z2 : Nat) (z3 : Nat) (z4 : Nat) (z5 : Nat) (z6 : Nat) (z7 : Nat) (z8 : Nat) (z9 : Nat) (sz : Nat) (i0 : Int32) (i0_l : ((-2147483648) : Int) ≤ i0.toInt) (i0_u : i0.toInt ≤ ((-1) : Int)) : Met l yL_meets wsL_meets ({ frames := 7, cells := 1, slots := 6, locals := 141 }) (va_Pc [.ref h0, .int i0, .ref z0] (fun U => U.heap.size = sz ∧ va_P (dC, dI) vwCl [(h0, .inr (7, [.ref z1, .ref z2, .ref h1, .ref z3, .ref z4, .ref z5, .int 0, .int 0, .int 0])), (h1, .inr (4, [.ref z2, .ref z6, .ref z7, .ref z8, .ref z9, .int 0, .int 0, .int (-2)]))] U.heap ∧ va_K (dC, dI) vwCl [] U ∧ va_D (fun _ => True) [(h0, .inr (7, [.ref z1, .ref z2, .ref h1, .ref z3, .ref z4, .ref z5, .int 0, .int 0, .int 0])), (h1, .inr (4, [.ref z2, .ref z6, .ref z7, .ref z8, .ref z9, .int 0, .int 0, .int (-2)]))] ∧ gv ge5 gea gv5 gva gde gic gi0 (va_A [(h0, .inr (7, [.ref z1, .ref z2, .ref h1, .ref z3, .ref z4, .ref z5, .int 0, .int 0, .int 0])), (h1, .inr (4, [.ref z2, .ref z6, .ref z7, .ref z8, .ref z9, .int 0, .int 0, .int (-2)]))] sz) U U.heap)) (va_Qi (fun (r : Int32) (_ : Unit) => r = 1) (fun (_ : Unit) (t : State) => va_P (dC, dI) vwCl [(h0, .inr (7, [.ref z1, .ref z2, .ref h1, .ref z3, .ref z4, .ref z5, .int 0, .int 0, .int 0])), (h1, .inr (4, [.ref z2, .ref z6, .ref z7, .ref z8, .ref z9, .int 0, .int 0, .int (-2)]))] t.heap ∧ va_K (dC, dI) vwCl [] t ∧ va_D (va_A [(h0, .inr (7, [.ref z1, .ref z2, .ref h1, .ref z3, .ref z4, .ref z5, .int 0, .int 0, .int 0])), (h1, .inr (4, [.ref z2, .ref z6, .ref z7, .ref z8, .ref z9, .int 0, .int 0, .int (-2)]))] sz) [(h0, .inr (7, [.ref z1, .ref z2, .ref h1, .ref z3, .ref z4, .ref z5, .int 0, .int 0, .int 0])), (h1, .inr (4, [.ref z2, .ref z6, .ref z7, .ref z8, .ref z9, .int 0, .int 0, .int (-2)]))]) (va_A [(h0, .inr (7, [.ref z1, .ref z2, .ref h1, .ref z3, .ref z4, .ref z5, .int 0, .int 0, .int 0])), (h1, .inr (4, [.ref z2, .ref z6, .ref z7, .ref z8, .ref z9, .int 0, .int 0, .int (-2)]))] sz)) 1 6 (va_A [(h0, .inr (7, [.ref z1, .ref z2, .ref h1, .ref z3, .ref z4, .ref z5, .int 0, .int 0, .int 0])), (h1, .inr (4, [.ref z2, .ref z6, .ref z7, .ref z8, .ref z9, .int 0, .int 0, .int (-2)]))] sz) := by
  refine kz_ofWH (cc := cL_meets) (maxL := 4) (ret := (some .int)) (hh := [(0, 17, 20, 19)]) (by decide) rfl ?_
  intro p e s m args below meth c s₁ B hml hv
  obtain ⟨rfl, hsz, hP, hK, hD0, hG⟩ := hv
  have hx := B.exec
  have hb := B.bytes
  have hr := B.returns
  have hts := atoms_spec (ws := wsL_meets) B.pre
  have hown : s.vm.findClass RL = some m.cls := findClass_of_methodNamed B.named
  have htab := vx_table (x := yL_meets) B (hts (.codeWith yL_meets cL_meets 4 (some .int) [(0, 17, 20, 19)]) (by decide +kernel))
  have hlocks := B.notSynchronized
  subst hsz
  have hD := hD0.self (sz := s.heap.size)
  generalize hAe : va_A [(h0, .inr (7, [.ref z1, .ref z2, .ref h1, .ref z3, .ref z4, .ref z5, .int 0, .int 0, .int 0])), (h1, .inr (4, [.ref z2, .ref z6, .ref z7, .ref z8, .ref z9, .int 0, .int 0, .int (-2)]))] s.heap.size = A at hD hG ⊢
  obtain ⟨⟨g_AO_Text, g_AO_String, g_AO_Object, g_nm_RX1_20, g_nm_RX0_17, g_nm_RX3_31, g_nm_RX2_44, g_nm_RL_121, g_nf_RL_13, g_nf_RL_47, g_ca_IO, g_ca_IA, g_ca_IS, g_ca_IntObj, g_ca_StrObj, g_de_RT, g_de_EX, g_de_TH, g_nc_IA_IO, g_nc_IS_IO, g_nc_IS_IA⟩, ⟨g_s3, g_s5, g_sa, g_x278, g_x280, g_x282, g_x284, g_x286, g_x180, g_x238, g_x250⟩, ⟨g_o5, g_c5, g_v5, g_t5, g_oa, g_ca, g_va, g_ta, g_zc, g_zd, g_td, g_zf, g_zU, g_zN, g_zh, g_zk, g_tk, g_oi, g_vi⟩⟩ := id hG
  have hA : ∀ q : Nat, s.heap.size ≤ q → A q := fun q h => by rw [← hAe]; exact Or.inr h
  have hS : va_S A s.heap s.heap [] := va_S.rf
  have hP : va_P (dC, dI) vwCl [(h0, .inr (7, [.ref z1, .ref z2, .ref h1, .ref z3, .ref z4, .ref z5, .int 0, .int 0, .int 0])), (h1, .inr (4, [.ref z2, .ref z6, .ref z7, .ref z8, .ref z9, .int 0, .int 0, .int (-2)]))] s.heap := hP
  have hl := lv_entry ([.ref h0, .int i0, .ref z0]) (n := 4) (Nat.le_of_ble_eq_true rfl)
  rw [lg_entry_eq]
  generalize (lg_sl ([.ref h0, .int i0, .ref z0]) ++ List.replicate (4 - (lg_sl ([.ref h0, .int i0, .ref z0])).length) Slot.unset).toArray = ls at hl ⊢
  have hl : lv_has ls 4 [(0, .ref h0), (1, .int i0), (2, .ref z0)] := hl
  refine lv_aload_n hx hb dL_meets_0 rfl (lv_at hl 2 rfl) ?_
  refine lv_aload_n hx hb dL_meets_1 rfl (lv_at hl 0 rfl) ?_
  refine lv_iload_n hx hb dL_meets_2 rfl (lv_at hl 1 rfl) ?_
  have hPc := hP.sub (ws' := [(h0, .inr (7, [.ref z1, .ref z2, .ref h1, .ref z3, .ref z4, .ref z5, .int 0, .int 0, .int 0])), (h1, .inr (4, [.ref z2, .ref z6, .ref z7, .ref z8, .ref z9, .int 0, .int 0, .int (-2)]))]) [0, 1] rfl
  have hDc := hD.sub (ws' := [(h0, .inr (7, [.ref z1, .ref z2, .ref h1, .ref z3, .ref z4, .ref z5, .int 0, .int 0, .int 0])), (h1, .inr (4, [.ref z2, .ref z6, .ref z7, .ref z8, .ref z9, .int 0, .int 0, .int (-2)]))]) [0, 1] (by decide) rfl
  have hKc := hK.sub (tys' := []) [] rfl
  have hFc := va_free (wc := [(h0, .inr (7, [.ref z1, .ref z2, .ref h1, .ref z3, .ref z4, .ref z5, .int 0, .int 0, .int 0])), (h1, .inr (4, [.ref z2, .ref z6, .ref z7, .ref z8, .ref z9, .int 0, .int 0, .int (-2)]))]) hD hS hA [0, 1] rfl
  refine vx_calli (vx_runV (As := [.int i0]) (rest := [.ref z0]) ⟨hx, hb, hml, hown, hts⟩ (kx_X3_meets_0 l hst dC dI ge5 gea gv5 gva gde gic gi0 h0 h1 z1 z2 z3 z4 z5 z6 z7 z8 z9 s.heap.size i0 i0_l i0_u) (cwV 1 hts gL_meets_X3_meets rfl rfl rfl (by decide +kernel) ⟨Nat.le_of_ble_eq_true rfl, Nat.le_of_ble_eq_true rfl⟩) ⟨fun a U g mk q => by obtain ⟨q0, q1, qP, qK, qD, qG⟩ := q; exact ⟨q0, q1, qP, va_K.moved (u := U) (U := U.calling g mk a) (Vm.Alike.refl U.vm) qK, qD, gv.fb qG⟩, va_recv hKc hPc (ci := 7) (q0 := 0) rfl rfl, fun U hU hW => ⟨rfl, by rw [hU], by rw [hU]; exact hPc, va_K.moved hW.alike hKc, hDc.weaken (fun _ _ _ _ => trivial), gv.pass hW hU hS hFc hG⟩⟩ rfl rfl hl.1 rfl (lv_room (Nat.le_of_ble_eq_true rfl)) dL_meets_3 ⟨Nat.le_of_ble_eq_true rfl, Nat.le_of_ble_eq_true rfl⟩) hS (fun q _ h => hFc q h) hFc (fun q _ h => hFc q h) (fun E ce q9 u t H1 locs ht hvm hpx hB hz1 hk1 hS hce hcv hcl => ?_) (fun r9 u t H1 locs ht hvm hw hB hz1 hk1 hS => hw.elim)
  obtain ⟨rfl, hP1, hK1, hD1⟩ := hB
  rw [ht] at hP1
  have hK1 := va_K.moved hvm.symm hK1
  obtain ⟨hP, hD⟩ := va_join (wr := []) (w1 := [(h0, .inr (7, [.ref z1, .ref z2, .ref h1, .ref z3, .ref z4, .ref z5, .int 0, .int 0, .int 0])), (h1, .inr (4, [.ref z2, .ref z6, .ref z7, .ref z8, .ref z9, .int 0, .int 0, .int (-2)]))]) hP hD [0, 1] [] rfl rfl (by decide) (by decide) hk1 hFc hP1 hD1
  generalize H1 = H at hP hS hce ⊢
  have hP : va_P (dC, dI) vwCl [(h0, .inr (7, [.ref z1, .ref z2, .ref h1, .ref z3, .ref z4, .ref z5, .int 0, .int 0, .int 0])), (h1, .inr (4, [.ref z2, .ref z6, .ref z7, .ref z8, .ref z9, .int 0, .int 0, .int (-2)]))] H := hP
  have hD : va_D A [(h0, .inr (7, [.ref z1, .ref z2, .ref h1, .ref z3, .ref z4, .ref z5, .int 0, .int 0, .int 0])), (h1, .inr (4, [.ref z2, .ref z6, .ref z7, .ref z8, .ref z9, .int 0, .int 0, .int (-2)]))] := hD
  refine vx_catch (own := RL) (name := "java/lang/IndexOutOfBoundsException") hown (tableOf []) ⟨0, 17, 20, 19⟩ (tableOf []) (by rw [htab]; rfl) (fun z hz => nomatch hz) (by decide +kernel) (by decide) (hts (.classLink RL 19 "java/lang/IndexOutOfBoundsException") (by decide +kernel)) (va_Nw.use rfl g_ca_IO) hce hcv hcl ?_
  refine W.eq (g2 := F0 m 20 ls [.ref q9]) rfl ?_
  refine lv_astore_n (lv' := [(3, .ref q9), (0, .ref h0), (1, .int i0), (2, .ref z0)]) hx hb dL_meets_20 rfl hl (by decide) rfl (fun ls hl => ?_)
  refine lv_iconst (v := 1) hx hb dL_meets_21 (by decide) ?_
  exact W.iret (v := 1) hx hb hr (fun t ht hW => ⟨⟨1, (), rfl, rfl, by rw [ht]; exact hP, va_K.moved hW.alike hK, hD⟩, hS.F ht⟩) hS.2.2 dL_meets_22
set_option maxHeartbeats 4000000 in
set_option maxRecDepth 100000 in
theorem kx_X5_meets_0 (l : Launch) (dC : Nat → ClassId) (dI : Nat → Nat → Nat) (ge5 gea gv5 gva gde gic gi0 : Nat) (h0 : Nat) (h1 : Nat) (z0 : Nat) (z1 : Nat) (sz : Nat) (i0 : Int32) (i0_l : ((-2147483648) : Int) ≤ i0.toInt) (i0_u : i0.toInt ≤ ((-1) : Int)) : Met l yX5_meets wsX5_meets ({ frames := 5, cells := 1, slots := 3, locals := 99 }) (va_Pc [.ref h0, .int i0] (fun U => U.heap.size = sz ∧ va_P (dC, dI) vwCl [(h0, .inr (9, [.int 0, .ref z0, .ref h1, .ref z1, .int 0, .int 0, .int 0])), (h1, .inr (3, [.int 0, .ref gde, .int 0]))] U.heap ∧ va_K (dC, dI) vwCl [] U ∧ va_D (fun _ => True) [(h0, .inr (9, [.int 0, .ref z0, .ref h1, .ref z1, .int 0, .int 0, .int 0])), (h1, .inr (3, [.int 0, .ref gde, .int 0]))] ∧ gv ge5 gea gv5 gva gde gic gi0 (va_A [(h0, .inr (9, [.int 0, .ref z0, .ref h1, .ref z1, .int 0, .int 0, .int 0])), (h1, .inr (3, [.int 0, .ref gde, .int 0]))] sz) U U.heap)) (va_Qi (fun (r : Int32) (_ : Unit) => r = 0) (fun (_ : Unit) (t : State) => ∃ q1 : Nat, va_P (dC, dI) vwCl [(h0, .inr (9, [.int 1, .ref z0, .ref h1, .ref z1, .int 0, .int 0, .int 0]))] t.heap ∧ va_K (dC, dI) vwCl [] t ∧ va_D (va_A [(h0, .inr (9, [.int 0, .ref z0, .ref h1, .ref z1, .int 0, .int 0, .int 0])), (h1, .inr (3, [.int 0, .ref gde, .int 0]))] sz) [(h0, .inr (9, [.int 1, .ref z0, .ref h1, .ref z1, .int 0, .int 0, .int 0]))]) (va_A [(h0, .inr (9, [.int 0, .ref z0, .ref h1, .ref z1, .int 0, .int 0, .int 0])), (h1, .inr (3, [.int 0, .ref gde, .int 0]))] sz)) 1 3 (va_A [(h0, .inr (9, [.int 0, .ref z0, .ref h1, .ref z1, .int 0, .int 0, .int 0])), (h1, .inr (3, [.int 0, .ref gde, .int 0]))] sz) := by
  refine Met.ofW (cc := cX5_meets) (maxL := 3) (ret := (some .boolean)) (by decide) rfl ?_
  intro p e s m args below meth c s₁ B hml hv
  obtain ⟨rfl, hsz, hP, hK, hD0, hG⟩ := hv
  have hx := B.exec
  have hb := B.bytes
  have hr := B.returns
  have hts := atoms_spec (ws := wsX5_meets) B.pre
  have hown : s.vm.findClass RX5 = some m.cls := findClass_of_methodNamed B.named
  have hlocks := B.notSynchronized
  subst hsz
  have hD := hD0.self (sz := s.heap.size)
  generalize hAe : va_A [(h0, .inr (9, [.int 0, .ref z0, .ref h1, .ref z1, .int 0, .int 0, .int 0])), (h1, .inr (3, [.int 0, .ref gde, .int 0]))] s.heap.size = A at hD hG ⊢
  obtain ⟨⟨g_AO_Text, g_AO_String, g_AO_Object, g_nm_RX1_20, g_nm_RX0_17, g_nm_RX3_31, g_nm_RX2_44, g_nm_RL_121, g_nf_RL_13, g_nf_RL_47, g_ca_IO, g_ca_IA, g_ca_IS, g_ca_IntObj, g_ca_StrObj, g_de_RT, g_de_EX, g_de_TH, g_nc_IA_IO, g_nc_IS_IO, g_nc_IS_IA⟩, ⟨g_s3, g_s5, g_sa, g_x278, g_x280, g_x282, g_x284, g_x286, g_x180, g_x238, g_x250⟩, ⟨g_o5, g_c5, g_v5, g_t5, g_oa, g_ca, g_va, g_ta, g_zc, g_zd, g_td, g_zf, g_zU, g_zN, g_zh, g_zk, g_tk, g_oi, g_vi⟩⟩ := id hG
  have hA : ∀ q : Nat, s.heap.size ≤ q → A q := fun q h => by rw [← hAe]; exact Or.inr h
  have hS : va_S A s.heap s.heap [] := va_S.rf
  have hP : va_P (dC, dI) vwCl [(h0, .inr (9, [.int 0, .ref z0, .ref h1, .ref z1, .int 0, .int 0, .int 0])), (h1, .inr (3, [.int 0, .ref gde, .int 0]))] s.heap := hP
  have hl := lv_entry ([.ref h0, .int i0]) (n := 3) (Nat.le_of_ble_eq_true rfl)
  rw [lg_entry_eq]
  generalize (lg_sl ([.ref h0, .int i0]) ++ List.replicate (3 - (lg_sl ([.ref h0, .int i0])).length) Slot.unset).toArray = ls at hl ⊢
  have hl : lv_has ls 3 [(0, .ref h0), (1, .int i0)] := hl
  refine lv_aload_n hx hb dX5_meets_0 rfl (lv_at hl 0 rfl) ?_
  have hPc := hP.sub (ws' := [(h0, .inr (9, [.int 0, .ref z0, .ref h1, .ref z1, .int 0, .int 0, .int 0])), (h1, .inr (3, [.int 0, .ref gde, .int 0]))]) [0, 1] rfl
  have hDc := hD.sub (ws' := [(h0, .inr (9, [.int 0, .ref z0, .ref h1, .ref z1, .int 0, .int 0, .int 0])), (h1, .inr (3, [.int 0, .ref gde, .int 0]))]) [0, 1] (by decide) rfl
  have hKc := hK.sub (tys' := []) [] rfl
  have hFc := va_free (wc := [(h0, .inr (9, [.int 0, .ref z0, .ref h1, .ref z1, .int 0, .int 0, .int 0])), (h1, .inr (3, [.int 0, .ref gde, .int 0]))]) hD hS hA [0, 1] rfl
  refine va_callr (va_runV (As := []) (rest := []) ⟨hx, hb, hml, hown, hts⟩ (kx_X5_allPeaks_0 l dC dI ge5 gea gv5 gva gde gic gi0 h0 h1 z0 z1 s.heap.size) (cwV 0 hts gX5_meets_X5_allPeaks rfl rfl rfl (by decide +kernel) ⟨Nat.le_of_ble_eq_true rfl, Nat.le_of_ble_eq_true rfl⟩) ⟨fun a U g mk q => by obtain ⟨q0, q1, qP, qK, qD, qG⟩ := q; exact ⟨q0, q1, qP, va_K.moved (u := U) (U := U.calling g mk a) (Vm.Alike.refl U.vm) qK, qD, gv.fb qG⟩, va_recv hKc hPc (ci := 9) (q0 := 0) rfl rfl, fun U hU hW => ⟨rfl, by rw [hU], by rw [hU]; exact hPc, va_K.moved hW.alike hKc, hDc.weaken (fun _ _ _ _ => trivial), gv.pass hW hU hS hFc hG⟩⟩ rfl rfl hl.1 rfl (lv_room (Nat.le_of_ble_eq_true rfl)) dX5_meets_1 ⟨Nat.le_of_ble_eq_true rfl, Nat.le_of_ble_eq_true rfl⟩) hS (fun q _ h => hFc q h) hFc (fun u ra t H1 locs ht hvm hw hB hz1 hk1 hS => ?_)
  obtain ⟨q1, hra, hP1, hK1, hD1⟩ := hB
  rw [hra]
  rw [ht] at hP1
  have hK1 := va_K.moved hvm.symm hK1
  obtain ⟨hP, hD⟩ := va_join (wr := []) (w1 := [(h0, .inr (9, [.int 0, .ref z0, .ref h1, .ref z1, .int 0, .int 0, .int 0])), (h1, .inr (3, [.int 0, .ref gde, .int 0])), (q1, .inr (3, [.int 0, .ref gde, .int 0]))]) hP hD [0, 1] [] rfl rfl (by decide) (by decide) hk1 hFc hP1 hD1
  generalize H1 = H at hP hS ⊢
  have hP : va_P (dC, dI) vwCl [(h0, .inr (9, [.int 0, .ref z0, .ref h1, .ref z1, .int 0, .int 0, .int 0])), (h1, .inr (3, [.int 0, .ref gde, .int 0])), (q1, .inr (3, [.int 0, .ref gde, .int 0]))] H := hP
  have hD : va_D A [(h0, .inr (9, [.int 0, .ref z0, .ref h1, .ref z1, .int 0, .int 0, .int 0])), (h1, .inr (3, [.int 0, .ref gde, .int 0])), (q1, .inr (3, [.int 0, .ref gde, .int 0]))] := hD
  refine W.widen (k := 1) (n := 3) (by omega) (by omega) ?_
  refine lv_astore_n (lv' := [(2, .ref q1), (0, .ref h0), (1, .int i0)]) hx hb dX5_meets_4 rfl hl (by decide) rfl (fun ls hl => ?_)
  refine lv_aload_n hx hb dX5_meets_5 rfl (lv_at hl 1 rfl) ?_
  refine lv_iload_n hx hb dX5_meets_6 rfl (lv_at hl 2 rfl) ?_
  refine lv_iconst (v := 0) hx hb dX5_meets_7 (by decide) ?_
  refine lv_aload_n hx hb dX5_meets_8 rfl (lv_at hl 0 rfl) ?_
  have hPc := hP.sub (ws' := [(q1, .inr (3, [.int 0, .ref gde, .int 0]))]) [2] rfl
  have hDc := hD.sub (ws' := [(q1, .inr (3, [.int 0, .ref gde, .int 0]))]) [2] (by decide) rfl
  have hKc := hK.sub (tys' := []) [] rfl
  have hFc := va_free (wc := [(q1, .inr (3, [.int 0, .ref gde, .int 0]))]) hD hS hA [2] rfl
  refine va_calli (va_runV (As := []) (rest := [.int 0, .int i0, .ref h0]) ⟨hx, hb, hml, hown, hts⟩ (kx_Jx4a65c_size_8abf5_1 l dC dI ge5 gea gv5 gva gde gic gi0 q1 H.size) (cwV 0 hts gX5_meets_Jx4a65c_size_8abf5 rfl rfl rfl (by decide +kernel) ⟨Nat.le_of_ble_eq_true rfl, Nat.le_of_ble_eq_true rfl⟩) ⟨fun a U g mk q => by obtain ⟨q0, q1, qP, qK, qD, qG⟩ := q; exact ⟨q0, q1, qP, va_K.moved (u := U) (U := U.calling g mk a) (Vm.Alike.refl U.vm) qK, qD, gv.fb qG⟩, va_recv hKc hPc (ci := 3) (q0 := 0) rfl rfl, fun U hU hW => ⟨rfl, by rw [hU], by rw [hU]; exact hPc, va_K.moved hW.alike hKc, hDc.weaken (fun _ _ _ _ => trivial), gv.pass hW hU hS hFc hG⟩⟩ rfl rfl hl.1 rfl (lv_room (Nat.le_of_ble_eq_true rfl)) dX5_meets_9 ⟨Nat.le_of_ble_eq_true rfl, Nat.le_of_ble_eq_true rfl⟩) hS (fun q _ h => hFc q h) hFc (fun r9 u t H1 locs ht hvm hw hB hz1 hk1 hS => ?_)
  obtain rfl := hw
  obtain ⟨hP1, hK1, hD1⟩ := hB
  rw [ht] at hP1
  have hK1 := va_K.moved hvm.symm hK1
  obtain ⟨hP, hD⟩ := va_join (wr := [(h0, .inr (9, [.int 0, .ref z0, .ref h1, .ref z1, .int 0, .int 0, .int 0])), (h1, .inr (3, [.int 0, .ref gde, .int 0]))]) (w1 := [(q1, .inr (3, [.int 0, .ref gde, .int 0]))]) hP hD [2] [0, 1] rfl rfl (by decide) (by decide) hk1 hFc hP1 hD1
  generalize H1 = H at hP hS ⊢
  have hP : va_P (dC, dI) vwCl [(h0, .inr (9, [.int 0, .ref z0, .ref h1, .ref z1, .int 0, .int 0, .int 0])), (h1, .inr (3, [.int 0, .ref gde, .int 0])), (q1, .inr (3, [.int 0, .ref gde, .int 0]))] H := hP
  have hD : va_D A [(h0, .inr (9, [.int 0, .ref z0, .ref h1, .ref z1, .int 0, .int 0, .int 0])), (h1, .inr (3, [.int 0, .ref gde, .int 0])), (q1, .inr (3, [.int 0, .ref gde, .int 0]))] := hD
  refine lv_iconst (v := 1) hx hb dX5_meets_12 (by decide) ?_
  refine lv_isub hx hb dX5_meets_13 ?_
  refine lv_topi (fun y2 ey2 => ?_)
  obtain rfl : y2 = (-1) := ey2.trans (by decide)
  have hPc := hP.sub (ws' := []) [] rfl
  have hDc := hD.sub (ws' := []) [] (by decide) rfl
  have hKc := hK.sub (tys' := []) [] rfl
  have hFc := va_free (wc := []) hD hS hA [] rfl
  refine va_calli (va_runS (As := [.int i0, .int 0, .int (-1)]) (rest := [.ref h0]) ⟨hx, hb, hml, hown, hts⟩ (kx_X5_isIn_6 l dC dI H.size i0 i0_l i0_u) (cwS 3 hts gX5_meets_X5_isIn rfl rfl rfl (by decide +kernel) ⟨Nat.le_of_ble_eq_true rfl, Nat.le_of_ble_eq_true rfl⟩) ⟨fun a U g mk q => by obtain ⟨q0, q1, qP, qK, qD⟩ := q; exact ⟨q0, q1, qP, va_K.moved (u := U) (U := U.calling g mk a) (Vm.Alike.refl U.vm) qK, qD⟩, fun U hU hW => ⟨rfl, by rw [hU], by rw [hU]; exact hPc, va_K.moved hW.alike hKc, hDc.weaken (fun _ _ _ _ => trivial)⟩⟩ rfl rfl hl.1 rfl (lv_room (Nat.le_of_ble_eq_true rfl)) dX5_meets_14 ⟨Nat.le_of_ble_eq_true rfl, Nat.le_of_ble_eq_true rfl⟩) hS (fun q _ h => hFc q h) hFc (fun r9 u t H1 locs ht hvm hw hB hz1 hk1 hS => ?_)
  obtain rfl := hw
  obtain ⟨hP1, hK1, hD1⟩ := hB
  rw [ht] at hP1
  have hK1 := va_K.moved hvm.symm hK1
  obtain ⟨hP, hD⟩ := va_join (wr := [(h0, .inr (9, [.int 0, .ref z0, .ref h1, .ref z1, .int 0, .int 0, .int 0])), (h1, .inr (3, [.int 0, .ref gde, .int 0])), (q1, .inr (3, [.int 0, .ref gde, .int 0]))]) (w1 := []) hP hD [] [0, 1, 2] rfl rfl (by decide) (by decide) hk1 hFc hP1 hD1
  generalize H1 = H at hP hS ⊢
  have hP : va_P (dC, dI) vwCl [(h0, .inr (9, [.int 0, .ref z0, .ref h1, .ref z1, .int 0, .int 0, .int 0])), (h1, .inr (3, [.int 0, .ref gde, .int 0])), (q1, .inr (3, [.int 0, .ref gde, .int 0]))] H := hP
  have hD : va_D A [(h0, .inr (9, [.int 0, .ref z0, .ref h1, .ref z1, .int 0, .int 0, .int 0])), (h1, .inr (3, [.int 0, .ref gde, .int 0])), (q1, .inr (3, [.int 0, .ref gde, .int 0]))] := hD
  refine lv_if_ne (tgt := 24) hx hb dX5_meets_17 (by decide) (fun c9 => absurd (by decide) c9) (fun _ => ?_)
  refine lv_iconst (v := 1) hx hb dX5_meets_20 (by decide) ?_
  refine lv_goto (tgt := 25) hx hb dX5_meets_21 (by decide) ?_
  refine lv_iconst (v := 0) hx hb dX5_meets_25 (by decide) ?_
  refine lv_iconst (v := 0) hx hb dX5_meets_26 (by decide) ?_
  have hPc := hP.sub (ws' := [(h0, .inr (9, [.int 0, .ref z0, .ref h1, .ref z1, .int 0, .int 0, .int 0]))]) [0] rfl
  have hDc := hD.sub (ws' := [(h0, .inr (9, [.int 0, .ref z0, .ref h1, .ref z1, .int 0, .int 0, .int 0]))]) [0] (by decide) rfl
  have hKc := hK.sub (tys' := []) [] rfl
  have hFc := va_free (wc := [(h0, .inr (9, [.int 0, .ref z0, .ref h1, .ref z1, .int 0, .int 0, .int 0]))]) hD hS hA [0] rfl
  refine va_calli (va_runV (As := [.int 1, .int 0, .int 0]) (rest := []) ⟨hx, hb, hml, hown, hts⟩ (kx_X5_fails_1 l dC dI h0 z0 h1 z1 H.size) (cwV 3 hts gX5_meets_X5_fails rfl rfl rfl (by decide +kernel) ⟨Nat.le_of_ble_eq_true rfl, Nat.le_of_ble_eq_true rfl⟩) ⟨fun a U g mk q => by obtain ⟨q0, q1, qP, qK, qD⟩ := q; exact ⟨q0, q1, qP, va_K.moved (u := U) (U := U.calling g mk a) (Vm.Alike.refl U.vm) qK, qD⟩, va_recv hKc hPc (ci := 9) (q0 := 0) rfl rfl, fun U hU hW => ⟨rfl, by rw [hU], by rw [hU]; exact hPc, va_K.moved hW.alike hKc, hDc.weaken (fun _ _ _ _ => trivial)⟩⟩ rfl rfl hl.1 rfl (lv_room (Nat.le_of_ble_eq_true rfl)) dX5_meets_27 ⟨Nat.le_of_ble_eq_true rfl, Nat.le_of_ble_eq_true rfl⟩) hS (fun q _ h => hFc q h) hFc (fun r9 u t H1 locs ht hvm hw hB hz1 hk1 hS => ?_)
  obtain rfl := hw
  obtain ⟨hP1, hK1, hD1⟩ := hB
  rw [ht] at hP1
  have hK1 := va_K.moved hvm.symm hK1
  obtain ⟨hP, hD⟩ := va_join (wr := [(h1, .inr (3, [.int 0, .ref gde, .int 0])), (q1, .inr (3, [.int 0, .ref gde, .int 0]))]) (w1 := [(h0, .inr (9, [.int 1, .ref z0, .ref h1, .ref z1, .int 0, .int 0, .int 0]))]) hP hD [0] [1, 2] rfl rfl (by decide) (by decide) hk1 hFc hP1 hD1
  generalize H1 = H at hP hS ⊢
  have hP : va_P (dC, dI) vwCl [(h1, .inr (3, [.int 0, .ref gde, .int 0])), (q1, .inr (3, [.int 0, .ref gde, .int 0])), (h0, .inr (9, [.int 1, .ref z0, .ref h1, .ref z1, .int 0, .int 0, .int 0]))] H := hP
  have hD : va_D A [(h1, .inr (3, [.int 0, .ref gde, .int 0])), (q1, .inr (3, [.int 0, .ref gde, .int 0])), (h0, .inr (9, [.int 1, .ref z0, .ref h1, .ref z1, .int 0, .int 0, .int 0]))] := hD
  refine lv_if_ne (tgt := 52) hx hb dX5_meets_30 (by decide) (fun _ => ?_) (fun c9 => absurd c9 (by decide))
  refine lv_iconst (v := 0) hx hb dX5_meets_52 (by decide) ?_
  have hP := hP.sub (ws' := [(h0, .inr (9, [.int 1, .ref z0, .ref h1, .ref z1, .int 0, .int 0, .int 0])), (h1, .inr (3, [.int 0, .ref gde, .int 0])), (q1, .inr (3, [.int 0, .ref gde, .int 0]))]) [2, 0, 1] rfl
  have hD := hD.sub (ws' := [(h0, .inr (9, [.int 1, .ref z0, .ref h1, .ref z1, .int 0, .int 0, .int 0])), (h1, .inr (3, [.int 0, .ref gde, .int 0])), (q1, .inr (3, [.int 0, .ref gde, .int 0]))]) [2, 0, 1] (by decide) rfl
  have hP := hP.sub (ws' := [(h0, .inr (9, [.int 1, .ref z0, .ref h1, .ref z1, .int 0, .int 0, .int 0]))]) [0] rfl
  have hD := hD.sub (ws' := [(h0, .inr (9, [.int 1, .ref z0, .ref h1, .ref z1, .int 0, .int 0, .int 0]))]) [0] (by decide) rfl
  exact W.zret (v := 0) hx hb hr (by decide) (fun t ht hW => ⟨⟨0, (), rfl, rfl, q1, by rw [ht]; exact hP, va_K.moved hW.alike hK, hD⟩, hS.F ht⟩) hS.2.2 dX5_meets_53
